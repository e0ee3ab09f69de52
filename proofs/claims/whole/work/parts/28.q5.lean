/-! the set of states of a queue: n entries S, O, T over the plate P -/
def vlA (O T : Nat → Int32) (p k : Nat) : Int32 := if p % 2 = 0 then O k else T k
def bsR (P S O T : Nat → Int32) (e p : Nat) : Nat → Int32
  | 0 => P p
  | k + 1 => if S k = nI (p / 2) ∧ weN S k < e then vlA O T p k else bsR P S O T e p k
def inA (P S O T : Nat → Int32) (n e p : Nat) (v : Int32) : Prop := v = bsR P S O T e p n ∨ ∃ k, k < n ∧ S k = nI (p / 2) ∧ weN S k = e ∧ v = vlA O T p k
def epc (S : Nat → Int32) (n : Nat) : Nat := weN S n + (if weS S n = true then 1 else 0)
def inSt (P S O T : Nat → Int32) (n : Nat) (f : Nat → Int32) : Prop := ∃ e, e < max (epc S n) 1 ∧ ∀ p, p < 32 → inA P S O T n e p (f p)
theorem weN_mono (S : Nat → Int32) {j k : Nat} (h : j ≤ k) : weN S j ≤ weN S k := by
  obtain ⟨t, rfl⟩ : ∃ t, k = j + t := ⟨k - j, by omega⟩
  clear h
  induction t with
  | zero => exact Nat.le_refl _
  | succ t ih =>
    rw [show j + (t + 1) = (j + t) + 1 by omega, weN]
    split <;> omega
theorem epc_s (S : Nat → Int32) (n : Nat) : epc S n ≤ epc S (n + 1) := by
  unfold epc
  rw [weN, weS]
  by_cases h : S n = -1
  · by_cases q : weS S n = true <;> simp [h, q]
  · by_cases q : weS S n = true <;> simp [h, q]
theorem epc_mono (S : Nat → Int32) {j k : Nat} (h : j ≤ k) : epc S j ≤ epc S k := by
  obtain ⟨t, rfl⟩ : ∃ t, k = j + t := ⟨k - j, by omega⟩
  clear h
  induction t with
  | zero => exact Nat.le_refl _
  | succ t ih => exact Nat.le_trans ih (epc_s S (j + t))
theorem ep_lt (S : Nat → Int32) {k n : Nat} (hk : k < n) (hw : ¬ S k = -1) : weN S k < epc S n := by
  have h1 : epc S (k + 1) = weN S k + 1 := by
    unfold epc
    rw [weN, weS]
    simp [hw]
  have h2 := epc_mono S (show k + 1 ≤ n by omega)
  omega
theorem nI_m1 {s : Nat} (h : s < 2147483648) : ¬ nI s = -1 := by
  intro e
  have h2 := congrArg Int32.toInt e
  rw [nI_toInt h] at h2
  have : ((-1 : Int32)).toInt = -1 := by decide
  omega
def bmA (B S O T : Nat → Int32) (e p : Nat) : Nat → Int32
  | 0 => B p
  | k + 1 => if S k = nI (p / 2) ∧ weN S k = e then vlA O T p k else bmA B S O T e p k
theorem bmA_key {P S O T : Nat → Int32} {e p n : Nat} (B : Nat → Int32) : ∀ k, (¬ (∃ j, j < k ∧ S j = nI (p / 2) ∧ weN S j = e) ∧ bmA B S O T e p k = B p ∧ bsR P S O T (e + 1) p k = bsR P S O T e p k) ∨ ((∃ j, j < k ∧ S j = nI (p / 2) ∧ weN S j = e) ∧ bmA B S O T e p k = bsR P S O T (e + 1) p k)
  | 0 => Or.inl ⟨fun ⟨j, hj, _⟩ => absurd hj (by omega), rfl, rfl⟩
  | k + 1 => by
    by_cases hs : S k = nI (p / 2)
    · rcases Nat.lt_trichotomy (weN S k) e with q | q | q
      · rcases bmA_key (P := P) (O := O) (T := T) (n := n) B k with ⟨h1, h2, h3⟩ | ⟨⟨j, hj, h4, h5⟩, h2⟩
        · refine Or.inl ⟨?_, ?_, ?_⟩
          · rintro ⟨j, hj, h4, h5⟩
            rcases Nat.lt_or_ge j k with r | r
            · exact h1 ⟨j, r, h4, h5⟩
            · rw [show j = k by omega] at h5
              omega
          · rw [bmA, if_neg (by omega), h2]
          · rw [bsR, bsR, if_pos ⟨hs, by omega⟩, if_pos ⟨hs, q⟩]
        · have := weN_mono S (show j ≤ k by omega)
          omega
      · refine Or.inr ⟨⟨k, by omega, hs, q⟩, ?_⟩
        rw [bmA, bsR, if_pos ⟨hs, q⟩, if_pos ⟨hs, by omega⟩]
      · rcases bmA_key (P := P) (O := O) (T := T) (n := n) B k with ⟨h1, h2, h3⟩ | ⟨⟨j, hj, h4, h5⟩, h2⟩
        · refine Or.inl ⟨?_, ?_, ?_⟩
          · rintro ⟨j, hj, h4, h5⟩
            rcases Nat.lt_or_ge j k with r | r
            · exact h1 ⟨j, r, h4, h5⟩
            · rw [show j = k by omega] at h5
              omega
          · rw [bmA, if_neg (by omega), h2]
          · rw [bsR, bsR, if_neg (by omega), if_neg (by omega), h3]
        · refine Or.inr ⟨⟨j, by omega, h4, h5⟩, ?_⟩
          rw [bmA, bsR, if_neg (by omega), if_neg (by omega), h2]
    · rcases bmA_key (P := P) (O := O) (T := T) (n := n) B k with ⟨h1, h2, h3⟩ | ⟨⟨j, hj, h4, h5⟩, h2⟩
      · refine Or.inl ⟨?_, ?_, ?_⟩
        · rintro ⟨j, hj, h4, h5⟩
          rcases Nat.lt_or_ge j k with r | r
          · exact h1 ⟨j, r, h4, h5⟩
          · rw [show j = k by omega] at h4
            exact hs h4
        · rw [bmA, if_neg (fun z => hs z.1), h2]
        · rw [bsR, bsR, if_neg (fun z => hs z.1), if_neg (fun z => hs z.1), h3]
      · refine Or.inr ⟨⟨j, by omega, h4, h5⟩, ?_⟩
        rw [bmA, bsR, if_neg (fun z => hs z.1), if_neg (fun z => hs z.1), h2]
theorem bmA_all {P S O T : Nat → Int32} {e p n : Nat} {B : Nat → Int32} (hB : B p = bsR P S O T e p n) : bmA B S O T e p n = bsR P S O T (e + 1) p n := by
  rcases bmA_key (P := P) (S := S) (O := O) (T := T) (e := e) (p := p) (n := n) B n with ⟨-, h2, h3⟩ | ⟨-, h2⟩
  · rw [h2, hB, h3]
  · exact h2
/-- the rows of choices of an epoch, behind k entries -/
def ChI (C M B S O T : Nat → Int32) (e k : Nat) (m : Nat → Nat) : Prop := ∀ p, p < 32 → M p = nI (m p) ∧ 1 ≤ m p ∧ m p ≤ k + 1 ∧ ChS C p (m p) ∧ ∀ x, ChM C p (m p) x ↔ (x = B p ∨ ∃ j, j < k ∧ S j = nI (p / 2) ∧ weN S j = e ∧ x = vlA O T p j)
theorem ChI.skip {C M B S O T : Nat → Int32} {e k : Nat} {m : Nat → Nat} (h : ChI C M B S O T e k m) (hno : ∀ p, p < 32 → ¬ (S k = nI (p / 2) ∧ weN S k = e)) : ChI C M B S O T e (k + 1) m := by
  intro p hp
  obtain ⟨h1, h2, h3, h4, h5⟩ := h p hp
  refine ⟨h1, h2, by omega, h4, fun x => ?_⟩
  rw [h5 x]
  constructor
  · rintro (z | ⟨j, hj, z⟩)
    · exact Or.inl z
    · exact Or.inr ⟨j, by omega, z⟩
  · rintro (z | ⟨j, hj, z1, z2, z3⟩)
    · exact Or.inl z
    · rcases Nat.lt_or_ge j k with q | q
      · exact Or.inr ⟨j, q, z1, z2, z3⟩
      · rw [show j = k by omega] at z1 z2
        exact absurd ⟨z1, z2⟩ (hno p hp)
/-- two parts of a sector that is written -/
theorem ChI.add {C M B S O T C1 C2 : Nat → Int32} {e k s m1 m2 : Nat} {m : Nat → Nat} (h : ChI C M B S O T e k m) (hs : s < 16) (hsk : S k = nI s) (he : weN S k = e)
    (a1 : m1 ≤ m (2 * s) + 1) (a2 : 1 ≤ m1) (a3 : ChS C1 (2 * s) m1) (a4 : ∀ x, ChM C1 (2 * s) m1 x ↔ ChM C (2 * s) (m (2 * s)) x ∨ x = O k) (a5 : ∀ i, ¬ (61 * (2 * s) ≤ i ∧ i < 61 * (2 * s) + 61) → C1 i = C i)
    (b1 : m2 ≤ m (2 * s + 1) + 1) (b2 : 1 ≤ m2) (b3 : ChS C2 (2 * s + 1) m2) (b4 : ∀ x, ChM C2 (2 * s + 1) m2 x ↔ ChM C1 (2 * s + 1) (m (2 * s + 1)) x ∨ x = T k) (b5 : ∀ i, ¬ (61 * (2 * s + 1) ≤ i ∧ i < 61 * (2 * s + 1) + 61) → C2 i = C1 i) (hk : k ≤ 59) :
    ChI C2 (upd (upd M (2 * s) (nI m1)) (2 * s + 1) (nI m2)) B S O T e (k + 1) (fun p => if p = 2 * s + 1 then m2 else if p = 2 * s then m1 else m p) := by
  intro p hp
  obtain ⟨h1, h2, h3, h4, h5⟩ := h p hp
  have hm61 : ∀ q, q < 32 → m q ≤ 61 := fun q hq => by
    have := (h q hq).2.2.1
    omega
  have eqv : S k = nI (p / 2) ↔ p / 2 = s := by
    rw [hsk, nI_eq (by omega) (by omega)]
    exact eq_comm
  have same : ∀ (q : Nat) (D D' : Nat → Int32) (mm : Nat), mm ≤ 61 → (∀ i, 61 * q ≤ i ∧ i < 61 * q + 61 → D' i = D i) → (ChS D q mm → ChS D' q mm) ∧ ∀ x, ChM D' q mm x ↔ ChM D q mm x := by
    intro q D D' mm hmm hD
    refine ⟨fun z a b hab hb => ?_, fun x => ⟨?_, ?_⟩⟩
    · rw [hD _ (by omega), hD _ (by omega)]
      exact z a b hab hb
    · rintro ⟨a, ha, z⟩
      exact ⟨a, ha, by rw [← hD _ (by omega)]; exact z⟩
    · rintro ⟨a, ha, z⟩
      exact ⟨a, ha, by rw [hD _ (by omega)]; exact z⟩
  by_cases p1 : p = 2 * s + 1
  · subst p1
    simp only [upd, if_pos]
    refine ⟨trivial, b2, by omega, b3, fun x => ?_⟩
    rw [b4 x, (same (2 * s + 1) C C1 (m (2 * s + 1)) (hm61 _ hp) (fun i hi => a5 i (by omega))).2 x, h5 x]
    have hv : vlA O T (2 * s + 1) k = T k := by rw [vlA, if_neg (by omega)]
    constructor
    · rintro ((z | ⟨j, hj, z⟩) | z)
      · exact Or.inl z
      · exact Or.inr ⟨j, by omega, z⟩
      · exact Or.inr ⟨k, by omega, eqv.mpr (by omega), he, by rw [hv]; exact z⟩
    · rintro (z | ⟨j, hj, z1, z2, z3⟩)
      · exact Or.inl (Or.inl z)
      · rcases Nat.lt_or_ge j k with q | q
        · exact Or.inl (Or.inr ⟨j, q, z1, z2, z3⟩)
        · rw [show j = k by omega, hv] at z3
          exact Or.inr z3
  · by_cases p0 : p = 2 * s
    · subst p0
      simp only [upd, if_neg p1, if_pos]
      obtain ⟨q1, q2⟩ := same (2 * s) C1 C2 m1 (by have := hm61 (2 * s) hp; have := (h (2 * s) hp).2.2.1; omega) (fun i hi => b5 i (by omega))
      refine ⟨trivial, a2, by omega, q1 a3, fun x => ?_⟩
      rw [q2 x, a4 x, h5 x]
      have hv : vlA O T (2 * s) k = O k := by rw [vlA, if_pos (by omega)]
      constructor
      · rintro ((z | ⟨j, hj, z⟩) | z)
        · exact Or.inl z
        · exact Or.inr ⟨j, by omega, z⟩
        · exact Or.inr ⟨k, by omega, eqv.mpr (by omega), he, by rw [hv]; exact z⟩
      · rintro (z | ⟨j, hj, z1, z2, z3⟩)
        · exact Or.inl (Or.inl z)
        · rcases Nat.lt_or_ge j k with q | q
          · exact Or.inl (Or.inr ⟨j, q, z1, z2, z3⟩)
          · rw [show j = k by omega, hv] at z3
            exact Or.inr z3
    · simp only [upd, if_neg p1, if_neg p0]
      obtain ⟨q1, q2⟩ := same p C C1 (m p) (hm61 p hp) (fun i hi => a5 i (by omega))
      obtain ⟨q3, q4⟩ := same p C1 C2 (m p) (hm61 p hp) (fun i hi => b5 i (by omega))
      refine ⟨h1, h2, by omega, q3 (q1 h4), fun x => ?_⟩
      rw [q4 x, q2 x, h5 x]
      constructor
      · rintro (z | ⟨j, hj, z⟩)
        · exact Or.inl z
        · exact Or.inr ⟨j, by omega, z⟩
      · rintro (z | ⟨j, hj, z1, z2, z3⟩)
        · exact Or.inl z
        · rcases Nat.lt_or_ge j k with q | q
          · exact Or.inr ⟨j, q, z1, z2, z3⟩
          · rw [show j = k by omega] at z1
            have := eqv.mp z1
            omega
/-- what findStates writes -/
def fsG (g : GH) (a b c d e f : Nat → Int32) (x : Int32) : GH := pF (pA (pA (pA (pA (pA (pA g 84 a) 85 b) 86 c) 87 d) 88 e) 89 f) 76 11 x
theorem fsG_84 (g : GH) (a b c d e f z : Nat → Int32) (x : Int32) : pA (fsG g a b c d e f x) 84 z = fsG g z b c d e f x := by
  unfold fsG
  rw [pF_pA]
  congr 1
  rw [pA_comm _ 89 84 _ _ (by decide), pA_comm _ 88 84 _ _ (by decide), pA_comm _ 87 84 _ _ (by decide), pA_comm _ 86 84 _ _ (by decide), pA_comm _ 85 84 _ _ (by decide), pA_pA]
theorem fsG_85 (g : GH) (a b c d e f z : Nat → Int32) (x : Int32) : pA (fsG g a b c d e f x) 85 z = fsG g a z c d e f x := by
  unfold fsG
  rw [pF_pA]
  congr 1
  rw [pA_comm _ 89 85 _ _ (by decide), pA_comm _ 88 85 _ _ (by decide), pA_comm _ 87 85 _ _ (by decide), pA_comm _ 86 85 _ _ (by decide), pA_pA]
theorem fsG_86 (g : GH) (a b c d e f z : Nat → Int32) (x : Int32) : pA (fsG g a b c d e f x) 86 z = fsG g a b z d e f x := by
  unfold fsG
  rw [pF_pA]
  congr 1
  rw [pA_comm _ 89 86 _ _ (by decide), pA_comm _ 88 86 _ _ (by decide), pA_comm _ 87 86 _ _ (by decide), pA_pA]
theorem fsG_87 (g : GH) (a b c d e f z : Nat → Int32) (x : Int32) : pA (fsG g a b c d e f x) 87 z = fsG g a b c z e f x := by
  unfold fsG
  rw [pF_pA]
  congr 1
  rw [pA_comm _ 89 87 _ _ (by decide), pA_comm _ 88 87 _ _ (by decide), pA_pA]
theorem fsG_88 (g : GH) (a b c d e f z : Nat → Int32) (x : Int32) : pA (fsG g a b c d e f x) 88 z = fsG g a b c d z f x := by
  unfold fsG
  rw [pF_pA]
  congr 1
  rw [pA_comm _ 89 88 _ _ (by decide), pA_pA]
theorem fsG_89 (g : GH) (a b c d e f z : Nat → Int32) (x : Int32) : pA (fsG g a b c d e f x) 89 z = fsG g a b c d e z x := by
  unfold fsG
  rw [pF_pA, pA_pA]
theorem fsG_11 (g : GH) (a b c d e f : Nat → Int32) (x y : Int32) : pF (fsG g a b c d e f x) 76 11 y = fsG g a b c d e f y := by
  unfold fsG
  rw [pF_pF]
theorem fsG_self (g : GH) : fsG g (gA g 84) (gA g 85) (gA g 86) (gA g 87) (gA g 88) (gA g 89) (gF g 76 11) = g := by
  unfold fsG
  have h5 : gA g 85 = gA (pA g 84 (gA g 84)) 85 := rfl
  rw [pA_self, pA_self, pA_self, pA_self, pA_self, pA_self, pF_self]
set_option maxHeartbeats 1000000 in
set_option maxRecDepth 100000 in
theorem c_onlyBase {d0 kd kp rp : Nat} {g : GH} : ACv mX11_onlyBase (d0 + 1) (SS kd kp rp) g [.ref 76] (fun S' g' => S' = SS kd kp rp ∧ ∃ C M : Nat → Int32, g' = pA (pA g 87 C) 88 M ∧ ∀ p, p < 32 → M p = nI 1 ∧ C (61 * p) = gA g 86 p) := by
  refine ACv.of lcX11_onlyBase rfl rfl (fun X Q ad hR ret => ?_)
  refine AW_ls (ls' := [_, _]) rfl ?_
  refine a_iconst (pc := 0) (nI 0) dX11_onlyBase_0 (by decide) ?_
  refine a_istore_n (pc := 1) (ls' := [_, _]) dX11_onlyBase_1 (Nat.le_of_ble_eq_true rfl) rfl ?_
  have loop : ∀ t i, 32 = i + t → ∀ C M : Nat → Int32, (∀ p, p < i → M p = nI 1 ∧ C (61 * p) = gA g 86 p) → AW mX11_onlyBase X Q ad 0 0 (conc (SS kd kp rp) (pA (pA g 87 C) 88 M)) 2 [some (.ref 76), some (.int (nI i))] [] := by
    intro t
    induction t with
    | zero =>
      intro i hi C M h1
      obtain rfl : i = 32 := by omega
      refine a_iload_n (pc := 2) dX11_onlyBase_2 rfl ?_
      refine a_bipush (pc := 3) (nI 32) dX11_onlyBase_3 (by decide) ?_
      refine a_icmp_geN (pc := 5) 32 dX11_onlyBase_5 (by decide) (by omega) (by omega) (fun c1 => ?_) (fun c1 => ?_)
      · refine ret _ _ 32 _ dX11_onlyBase_32 rfl ?_
        exact ⟨rfl, C, M, rfl, h1⟩
      · exact absurd c1 (by omega)
    | succ t ih =>
      intro i hi C M h1
      refine a_iload_n (pc := 2) dX11_onlyBase_2 rfl ?_
      refine a_bipush (pc := 3) (nI 32) dX11_onlyBase_3 (by decide) ?_
      refine a_icmp_geN (pc := 5) 32 dX11_onlyBase_5 (by decide) (by omega) (by omega) (fun c1 => ?_) (fun c1 => ?_)
      · exact absurd c1 (by omega)
      · refine a_aload_n (pc := 8) dX11_onlyBase_8 rfl ?_
        refine a_gr (pc := 9) dX11_onlyBase_9 fX11_49 rfl ?_
        refine a_iload_n (pc := 12) dX11_onlyBase_12 rfl ?_
        refine a_iconst (pc := 13) (nI 0) dX11_onlyBase_13 (by decide) ?_
        refine a_ast (pc := 14) _ dX11_onlyBase_14 rfl rfl (by omega) ?_
        refine a_aload_n (pc := 15) dX11_onlyBase_15 rfl ?_
        refine a_iload_n (pc := 16) dX11_onlyBase_16 rfl ?_
        refine a_aload_n (pc := 17) dX11_onlyBase_17 rfl ?_
        refine a_gr (pc := 18) dX11_onlyBase_18 fX11_43 rfl ?_
        refine a_iload_n (pc := 21) dX11_onlyBase_21 rfl ?_
        refine a_ial (pc := 22) _ dX11_onlyBase_22 rfl rfl (by omega) ?_
        simp only [gF_pF, gF_pA, gF_pL, gA_pF, gA_pA, gA_pL, gL_pF, gL_pA, gL_pL, reduceIte, Nat.reduceEqDiff, and_false, false_and, and_true, true_and, and_self]
        rw [pA_pA]
        refine a_V2v (pc := 23) 10 dX11_onlyBase_23 lcX11_mayBe lX11_147 rfl rfl rfl (fit_of hR (by omega) rfl) (c_mayBe (d0 := d0) i 0 (gA g 86 i) (by omega) (by decide) (by simp [gA_pA, upd]) (fun a b _ h => absurd h (by omega))) rfl rfl (fun S' g' hS hp => ?_)
        obtain ⟨rfl, C', m', h2, h3, rfl, h4, h5, h6⟩ := hp
        obtain rfl : m' = 1 := by omega
        refine a_iinc (pc := 26) (ls' := [_, _]) (nI 1) dX11_onlyBase_26 (by decide) rfl (Nat.le_of_ble_eq_true rfl) rfl ?_
        try rw [nI_add]
        refine a_goto (pc := 29) 2 dX11_onlyBase_29 (by decide) ?_
        rw [pA_comm _ 88 87 _ _ (by decide), pA_pA, pA_pA]
        simp only [gA_pA, reduceIte, upd_upd]
        refine ih (i + 1) (by omega) _ _ (fun p hp => ?_)
        by_cases q : p = i
        · subst q
          refine ⟨by simp [upd], ?_⟩
          obtain ⟨a, ha, e⟩ := (h5 (gA g 86 p)).mpr (Or.inr rfl)
          rw [show a = 0 by omega, Nat.add_zero] at e
          exact e
        · have := h1 p (by omega)
          refine ⟨by rw [upd, if_neg q]; exact this.1, ?_⟩
          rw [h6 _ (by omega)]
          simp only [gA_pA, reduceIte, Nat.reduceEqDiff]
          exact this.2
  have h0 := loop 32 0 (by omega) (gA g 87) (gA g 88) (fun p h => absurd h (by omega))
  rw [pA_self, pA_self] at h0
  exact h0
