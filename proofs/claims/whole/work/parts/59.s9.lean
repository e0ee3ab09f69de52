/-! how many ints there can be, how many epochs -/
theorem we2 (S : Nat → Int32) : ∀ k, 2 * weN S k + (if weS S k = true then 1 else 0) ≤ k
  | 0 => by simp [weN, weS]
  | k + 1 => by
    have ih := we2 S k
    rw [weN, weS]
    by_cases h : S k = -1
    · rw [decide_eq_true h, if_neg (by decide : ¬ (!true) = true)]
      by_cases hw : weS S k = true
      · rw [if_pos hw] at ih
        rw [if_pos ⟨h, hw⟩]
        omega
      · rw [if_neg hw] at ih
        rw [if_neg (fun z => hw z.2)]
        omega
    · rw [decide_eq_false h, if_pos (by decide : (!false) = true), if_neg (fun z => h z.1)]
      split at ih <;> omega
theorem epc_30 (S : Nat → Int32) {n : Nat} (h : n ≤ 60) : epc S n ≤ 30 := by
  have := we2 S n
  unfold epc
  split at this <;> rename_i z
  · rw [if_pos z]
    omega
  · rw [if_neg z]
    omega
theorem sU_add2 (f f' : Nat → Nat) : ∀ m, sU (fun p => f p + f' p) 0 m = sU f 0 m + sU f' 0 m
  | 0 => rfl
  | m + 1 => by
    rw [sU_s (Nat.zero_le _), sU_s (Nat.zero_le _), sU_s (Nat.zero_le _), sU_add2 f f' m]
    omega
theorem hit2 (x : Int32) : sU (fun p => if x = nI (p / 2) then 1 else 0) 0 32 ≤ 2 := by
  by_cases h : ∃ s, s < 16 ∧ x = nI s
  · obtain ⟨s, hs, rfl⟩ := h
    rw [sU_congr (f' := fun p => if s = p / 2 then 1 else 0) 32 (fun p _ hp => by
      by_cases z : s = p / 2
      · rw [if_pos z, if_pos (by rw [z])]
      · rw [if_neg z, if_neg (fun q => z ((nI_eq (by omega) (by omega)).mp q))])]
    have : ∀ s : Fin 16, sU (fun p => if s.1 = p / 2 then 1 else 0) 0 32 ≤ 2 := by decide +kernel
    exact this ⟨s, hs⟩
  · rw [sU_tl (j := 0) (by decide) (fun p _ hp => if_neg (fun z => h ⟨p / 2, by omega, z⟩)) (Nat.le_refl _)]
    exact (by decide : 0 ≤ 2)
theorem mtc2 (S : Nat → Int32) : ∀ n, sU (fun p => mtc S (nI (p / 2)) n) 0 32 ≤ 2 * n
  | 0 => by
    rw [sU_tl (f := fun p => mtc S (nI (p / 2)) 0) (j := 0) (by decide) (fun p _ _ => rfl) (Nat.le_refl _)]
    exact Nat.le_refl 0
  | n + 1 => by
    have ih := mtc2 S n
    have h2 := hit2 (S n)
    have e : sU (fun p => mtc S (nI (p / 2)) (n + 1)) 0 32 = sU (fun p => mtc S (nI (p / 2)) n + (if S n = nI (p / 2) then 1 else 0)) 0 32 := rfl
    rw [e, sU_add2]
    omega
def bdP (S : Nat → Int32) (n p : Nat) : Nat := sU (fun p => 1 + mtc S (nI (p / 2)) n) 0 p
theorem bdP_s (S : Nat → Int32) (n p : Nat) : bdP S n (p + 1) = bdP S n p + (1 + mtc S (nI (p / 2)) n) := sU_s (Nat.zero_le _)
theorem bdP_le (S : Nat → Int32) {n p : Nat} (hn : n ≤ 60) (hp : p ≤ 32) : bdP S n p ≤ 152 := by
  have h1 : bdP S n p ≤ bdP S n 32 := sU_mono hp
  have h2 : bdP S n 32 = sU (fun _ => 1) 0 32 + sU (fun p => mtc S (nI (p / 2)) n) 0 32 := sU_add2 _ _ 32
  have h3 : sU (fun _ => 1) 0 32 = 32 := by decide
  have h4 := mtc2 S n
  omega
/-! the ints that a part may have -/
theorem inA_no {P S O T : Nat → Int32} {n e p : Nat} {v : Int32} (h : ∀ k, k < n → ¬ S k = nI (p / 2)) : inA P S O T n e p v ↔ v = P p := by
  have hb : ∀ m, m ≤ n → bsR P S O T e p m = P p := by
    intro m
    induction m with
    | zero => exact fun _ => rfl
    | succ m ih =>
      intro hm
      rw [bsR, if_neg (fun z => h m (by omega) z.1)]
      exact ih (by omega)
  unfold inA
  rw [hb n (Nat.le_refl _)]
  constructor
  · rintro (z | ⟨k, k1, k2, -⟩)
    · exact z
    · exact absurd k2 (h k k1)
  · exact Or.inl
theorem inA_0 (P S O T : Nat → Int32) (n p : Nat) : inA P S O T n 0 p (P p) := Or.inl (bsR_0 P S O T p n).symm
theorem seg_one {b : Nat} {g : GH} {a e1 E : Nat} {P S O T : Nat → Int32} {n p : Nat} (hE : 1 ≤ E) (hE30 : E ≤ 30) (h : SegD b g a e1 (fun ep v => ep < E ∧ inA P S O T n ep p v)) (h1 : e1 ≤ a + 1) {e : Nat} (he : e < E) (v : Int32) : inA P S O T n e p v ↔ v = P p := by
  obtain ⟨j, j1, j2, j3, -⟩ := (h.2.2.2 0 (by omega) (P p)).mp ⟨by omega, inA_0 P S O T n p⟩
  have key : ∀ x, inA P S O T n e p x → x = P p := by
    intro x hx
    obtain ⟨i, i1, i2, i3, -⟩ := (h.2.2.2 e (by omega) x).mp ⟨he, hx⟩
    have : i = j := by omega
    rw [← i3, this, j3]
  refine ⟨key v, fun z => ?_⟩
  have := key _ (Or.inl rfl)
  rw [z]
  exact Or.inl this.symm
/-- what refresh has done for the first p parts -/
def RfI (b : Nat) (g : GH) (q : Qd) (p L E : Nat) (op s : Nat → Nat) : Prop :=
  (gF g b 8 = nI L ∧ L ≤ p) ∧ gF g b 10 = nI E ∧ (gF g b 9 = nI (s L) ∧ s L ≤ bdP (qS q.2) q.2.length p ∧ s 0 = 0) ∧ (∀ l, l < L → gA g (b + 2) l = nI (op l) ∧ op l < p) ∧ ((∀ l, l ≤ L → gA g (b + 3) l = nI (s l)) ∧ ∀ l, l < L → s l ≤ s (l + 1)) ∧ (∀ j, j < s L → gA g (b + 5) j = nI (lvg b g j) ∧ lvg b g j < 2 ^ 30) ∧
  (∀ x y, x < y → y < L → op x < op y) ∧ (∀ l, l < L → ∀ x y, s l ≤ x → x < y → y < s (l + 1) → gA g (b + 4) x < gA g (b + 4) y) ∧ (∀ l, l < L → ∀ e, e < E → ∀ v, inA q.1 (qS q.2) (qO q.2) (qT q.2) q.2.length e (op l) v ↔ ∃ j, s l ≤ j ∧ j < s (l + 1) ∧ gA g (b + 4) j = v ∧ (lvg b g j).testBit e = true) ∧
  (∀ p', p' < p → (∀ l, l < L → op l ≠ p') → ∀ e, e < E → ∀ v, inA q.1 (qS q.2) (qO q.2) (qT q.2) q.2.length e p' v ↔ v = q.1 p') ∧ ∀ p', p' < p → gA g (b + 1) p' = q.1 p'
theorem RfI.con {b : Nat} {g : GH} {q : Qd} {p L E : Nat} {op s : Nat → Nat} (h : RfI b g q p L E op s) (f : Nat → Int32) (hf : ∀ p', p' < p → f p' = q.1 p') : RfI b (pA g (b + 1) f) q p L E op s := by
  have e2 : gA (pA g (b + 1) f) (b + 2) = gA g (b + 2) := by rw [gA_pA, if_neg (by omega)]
  have e3 : gA (pA g (b + 1) f) (b + 3) = gA g (b + 3) := by rw [gA_pA, if_neg (by omega)]
  have e4 : gA (pA g (b + 1) f) (b + 4) = gA g (b + 4) := by rw [gA_pA, if_neg (by omega)]
  have e5 : gA (pA g (b + 1) f) (b + 5) = gA g (b + 5) := by rw [gA_pA, if_neg (by omega)]
  have el : lvg b (pA g (b + 1) f) = lvg b g := funext fun j => by unfold lvg; rw [e5]
  unfold RfI at h ⊢
  rw [e2, e3, e4, e5, el]
  obtain ⟨h1, h2, h3, h4, h5, h6, h7, h8, h9, h10, h11⟩ := h
  exact ⟨h1, h2, h3, h4, h5, h6, h7, h8, h9, h10, fun p' hp' => by rw [gA_pA, if_pos rfl]; exact hf p' hp'⟩
theorem RfI.skip {b : Nat} {g : GH} {q : Qd} {p L E : Nat} {op s : Nat → Nat} (h : RfI b g q p L E op s) (hp : ∀ e, e < E → ∀ v, inA q.1 (qS q.2) (qO q.2) (qT q.2) q.2.length e p v ↔ v = q.1 p) (hc : gA g (b + 1) p = q.1 p) : RfI b g q (p + 1) L E op s := by
  obtain ⟨h1, h2, h3, h4, h5, h6, h7, h8, h9, h10, h11⟩ := h
  refine ⟨⟨h1.1, by omega⟩, h2, ⟨h3.1, by rw [bdP_s]; omega, h3.2.2⟩, fun l hl => ⟨(h4 l hl).1, by have := (h4 l hl).2; omega⟩, h5, h6, h7, h8, h9, fun p' hp' hno e he v => ?_, fun p' hp' => ?_⟩
  · by_cases z : p' = p
    · rw [z]
      exact hp e he v
    · exact h10 p' (by omega) hno e he v
  · by_cases z : p' = p
    · rw [z]
      exact hc
    · exact h11 p' (by omega)
/-- behind a gathering -/
theorem RfI.gat {b : Nat} {g g' : GH} {q : Qd} {p L E e1 : Nat} {op s : Nat → Nat} (h : RfI b g q p L E op s) (hE : 1 ≤ E) (hE30 : E ≤ 30) (hc : gA g (b + 1) p = q.1 p) (f1 : gA g' (b + 1) = gA g (b + 1)) (f10 : gF g' b 10 = gF g b 10) (lo : ∀ j, j < s L → gA g' (b + 4) j = gA g (b + 4) j ∧ gA g' (b + 5) j = gA g (b + 5) j) (l23 : ∀ l, l < L → gA g' (b + 2) l = gA g (b + 2) l ∧ gA g' (b + 3) l = gA g (b + 3) l) (f3 : gA g' (b + 3) L = nI (s L)) (ha : s L ≤ e1) (he : e1 ≤ s L + 1 + mtc (qS q.2) (nI (p / 2)) q.2.length) (hs : SegD b g' (s L) e1 (fun ep v => ep < E ∧ inA q.1 (qS q.2) (qO q.2) (qT q.2) q.2.length ep p v)) (hcase : (e1 ≤ s L + 1 ∧ gF g' b 8 = nI L ∧ gF g' b 9 = nI (s L)) ∨ (s L + 1 < e1 ∧ gF g' b 8 = nI (L + 1) ∧ gF g' b 9 = nI e1 ∧ gA g' (b + 2) L = nI p ∧ gA g' (b + 3) (L + 1) = nI e1)) : ∃ L' op' s', RfI b g' q (p + 1) L' E op' s' := by
  have el : ∀ j, j < s L → lvg b g' j = lvg b g j := fun j hj => by unfold lvg; rw [(lo j hj).2]
  obtain ⟨h1, h2, h3, h4, h5, h6, h7, h8, h9, h10, h11⟩ := h
  have sm : ∀ t l, l + t = L → s l ≤ s L := by
    intro t
    induction t with
    | zero =>
      intro l hl
      rw [show l = L by omega]
      exact Nat.le_refl _
    | succ t ih =>
      intro l hl
      exact Nat.le_trans (h5.2 l (by omega)) (ih (l + 1) (by omega))
  have sm' : ∀ l, l ≤ L → s l ≤ s L := fun l hl => sm (L - l) l (by omega)
  have c9 : ∀ l, l < L → ∀ e, e < E → ∀ v, inA q.1 (qS q.2) (qO q.2) (qT q.2) q.2.length e (op l) v ↔ ∃ j, s l ≤ j ∧ j < s (l + 1) ∧ gA g' (b + 4) j = v ∧ (lvg b g' j).testBit e = true := by
    intro l hl e he v
    rw [h9 l hl e he v]
    have := sm' (l + 1) (by omega)
    constructor
    · rintro ⟨j, j1, j2, j3, j4⟩
      exact ⟨j, j1, j2, by rw [(lo j (by omega)).1]; exact j3, by rw [el j (by omega)]; exact j4⟩
    · rintro ⟨j, j1, j2, j3, j4⟩
      exact ⟨j, j1, j2, by rw [← (lo j (by omega)).1]; exact j3, by rw [← el j (by omega)]; exact j4⟩
  have c8 : ∀ l, l < L → ∀ x y, s l ≤ x → x < y → y < s (l + 1) → gA g' (b + 4) x < gA g' (b + 4) y := by
    intro l hl x y hx hxy hy
    have := sm' (l + 1) (by omega)
    rw [(lo x (by omega)).1, (lo y (by omega)).1]
    exact h8 l hl x y hx hxy hy
  rcases hcase with ⟨z1, z2, z3⟩ | ⟨z1, z2, z3, z4, z5⟩
  · refine ⟨L, op, s, ⟨z2, by omega⟩, f10.trans h2, ⟨z3, by rw [bdP_s]; omega, h3.2.2⟩, fun l hl => ⟨(l23 l hl).1.trans (h4 l hl).1, by have := (h4 l hl).2; omega⟩, ⟨fun l hl => ?_, h5.2⟩, fun j hj => ?_, h7, c8, c9, fun p' hp' hno e he v => ?_, fun p' hp' => ?_⟩
    · by_cases z : l = L
      · rw [z]
        exact f3
      · exact (l23 l (by omega)).2.trans (h5.1 l hl)
    · rw [(lo j hj).2, el j hj]
      exact h6 j hj
    · by_cases z : p' = p
      · rw [z]
        exact seg_one hE hE30 hs z1 he v
      · exact h10 p' (by omega) hno e he v
    · rw [f1]
      by_cases z : p' = p
      · rw [z]
        exact hc
      · exact h11 p' (by omega)
  · have u1 : ∀ l, l ≤ L → upJ s (L + 1) e1 l = s l := fun l hl => upJ_lt s (L + 1) e1 l (by omega)
    have o1 : ∀ l, l < L → upJ op L p l = op l := fun l hl => upJ_lt op L p l hl
    refine ⟨L + 1, upJ op L p, upJ s (L + 1) e1, ⟨z2, by omega⟩, f10.trans h2, ⟨by rw [upJ_at]; exact z3, by rw [upJ_at, bdP_s]; omega, by rw [u1 0 (by omega)]; exact h3.2.2⟩, fun l hl => ?_, ⟨fun l hl => ?_, fun l hl => ?_⟩, fun j hj => ?_, fun x y hxy hy => ?_, fun l hl => ?_, fun l hl => ?_, fun p' hp' hno e he v => ?_, fun p' hp' => ?_⟩
    · by_cases z : l = L
      · rw [z, upJ_at]
        exact ⟨z4, by omega⟩
      · rw [o1 l (by omega)]
        exact ⟨(l23 l (by omega)).1.trans (h4 l (by omega)).1, by have := (h4 l (by omega)).2; omega⟩
    · by_cases z : l = L + 1
      · rw [z, upJ_at]
        exact z5
      · rw [u1 l (by omega)]
        by_cases y : l = L
        · rw [y]
          exact f3
        · exact (l23 l (by omega)).2.trans (h5.1 l (by omega))
    · by_cases z : l = L
      · rw [z, u1 L (by omega), upJ_at]
        exact ha
      · rw [u1 l (by omega), u1 (l + 1) (by omega)]
        exact h5.2 l (by omega)
    · rw [upJ_at] at hj
      by_cases z : j < s L
      · rw [(lo j z).2, el j z]
        exact h6 j z
      · exact hs.2.2.1 j (by omega) hj
    · by_cases z : y = L
      · rw [z, upJ_at, o1 x (by omega)]
        exact (h4 x (by omega)).2
      · rw [o1 x (by omega), o1 y (by omega)]
        exact h7 x y hxy (by omega)
    · by_cases z : l = L
      · rw [z, u1 L (by omega), upJ_at]
        exact fun x y hx hxy hy => hs.2.1 x y hx hxy hy
      · rw [u1 l (by omega), u1 (l + 1) (by omega)]
        exact c8 l (by omega)
    · by_cases z : l = L
      · rw [z, u1 L (by omega), upJ_at, upJ_at]
        intro e he v
        rw [← hs.2.2.2 e (by omega) v]
        exact ⟨fun z => ⟨he, z⟩, fun z => z.2⟩
      · rw [u1 l (by omega), u1 (l + 1) (by omega), o1 l (by omega)]
        exact c9 l (by omega)
    · by_cases z : p' = p
      · exact absurd (by rw [upJ_at, z]) (hno L (by omega))
      · exact h10 p' (by omega) (fun l hl => by rw [← o1 l hl]; exact hno l (by omega)) e he v
    · rw [f1]
      by_cases z : p' = p
      · rw [z]
        exact hc
      · exact h11 p' (by omega)
