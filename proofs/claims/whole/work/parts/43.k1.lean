section A43
variable {M : Mi} {X : Cx} {Q : State → Prop} {ad : Nat → Nat} {k n : Nat} {S : sH} {g : GH} {pc : Nat} {ls : List (Option Value)} {st : List Value}
def lnAt (S : sH) (a : Nat) : Option Nat := match Nat.blt a S.1 with
  | true => (match S.2 a with
    | .inl (t, n, _) => (match Nat.blt t 5 with
      | true => some n
      | false => none)
    | _ => none)
  | false => none
theorem a_alen {a m : Nat} (d : decode (mcc M) pc = .ok (.arraylength, 1)) (e : lnAt S a = some m) (kk : AW M X Q ad k n (conc S g) (pc + 1) ls (.int (nI m) :: st)) : AW M X Q ad k n (conc S g) pc ls (.ref a :: st) := by
  unfold lnAt at e
  split at e
  · rename_i h1
    split at e
    · rename_i t n' x hx
      split at e
      · rename_i h2
        cases e
        have hc : ∃ x', (conc S g).2 a = .inl (t, m, x') := by
          show ∃ x', cg g a (S.2 a) = .inl (t, m, x')
          rw [hx]
          match x with
          | .inl f => exact ⟨_, rfl⟩
          | .inr (.inl f) => exact ⟨_, rfl⟩
          | .inr (.inr f) => exact ⟨_, rfl⟩
        obtain ⟨x', hx'⟩ := hc
        exact h_alen (blt_lt h2) d (blt_lt h1) hx' kk
      · cases e
    · cases e
  · cases e
end A43
/-! bits of many -/
theorem nI_or (a b : Nat) : nI a ||| nI b = nI (a ||| b) := by
  apply Int32.toBitVec_inj.mp
  show BitVec.ofNat 32 a ||| BitVec.ofNat 32 b = BitVec.ofNat 32 (a ||| b)
  rw [BitVec.ofNat_or]
theorem nI_and (a b : Nat) : nI a &&& nI b = nI (a &&& b) := by
  apply Int32.toBitVec_inj.mp
  show BitVec.ofNat 32 a &&& BitVec.ofNat 32 b = BitVec.ofNat 32 (a &&& b)
  rw [BitVec.ofNat_and]
theorem nI_shl1 : ∀ s, s < 32 → nI 1 <<< (nI s &&& 31) = nI (2 ^ s) := by
  have : ∀ s : Fin 32, nI 1 <<< (nI s.1 &&& 31) = nI (2 ^ s.1) := by decide +kernel
  exact fun s hs => this ⟨s, hs⟩
/-! frames by lists of places -/
def Fr (A : List Nat) (g g' : GH) : Prop := (∀ a, a ∉ A → gA g' a = gA g a ∧ ∀ k, gF g' a k = gF g a k) ∧ ∀ a, a ∉ A → gL g' a = gL g a
theorem Fr.rf (A : List Nat) (g : GH) : Fr A g g := ⟨fun _ _ => ⟨rfl, fun _ => rfl⟩, fun _ _ => rfl⟩
theorem Fr.mono {A B : List Nat} {g g' : GH} (h : Fr A g g') (s : ∀ a ∈ A, a ∈ B) : Fr B g g' := ⟨fun a ha => h.1 a (fun z => ha (s a z)), fun a ha => h.2 a (fun z => ha (s a z))⟩
theorem Fr.tr {A : List Nat} {g g' g'' : GH} (h : Fr A g g') (h' : Fr A g' g'') : Fr A g g'' := ⟨fun a ha => ⟨(h'.1 a ha).1.trans (h.1 a ha).1, fun k => ((h'.1 a ha).2 k).trans ((h.1 a ha).2 k)⟩, fun a ha => (h'.2 a ha).trans (h.2 a ha)⟩
theorem Fr.a {A : List Nat} {g g' : GH} (h : Fr A g g') {a : Nat} (ha : a ∉ A) : gA g' a = gA g a := (h.1 a ha).1
theorem Fr.f {A : List Nat} {g g' : GH} (h : Fr A g g') {a : Nat} (ha : a ∉ A) (k : Nat) : gF g' a k = gF g a k := (h.1 a ha).2 k
theorem Fr.l {A : List Nat} {g g' : GH} (h : Fr A g g') {a : Nat} (ha : a ∉ A) : gL g' a = gL g a := h.2 a ha
theorem Fr.sF {A : List Nat} {g g' : GH} (h : Fr A g g') {a : Nat} (ha : a ∈ A) (k : Nat) (x : Int32) : Fr A g (pF g' a k x) := by
  refine ⟨fun b hb => ⟨(h.1 b hb).1, fun j => ?_⟩, h.2⟩
  have e : ¬ (b = a ∧ j = k) := fun z => hb (z.1 ▸ ha)
  rw [gF_pF, if_neg e]
  exact (h.1 b hb).2 j
theorem Fr.sA {A : List Nat} {g g' : GH} (h : Fr A g g') {a : Nat} (ha : a ∈ A) (f : Nat → Int32) : Fr A g (pA g' a f) := by
  refine ⟨fun b hb => ⟨?_, (h.1 b hb).2⟩, h.2⟩
  have e : ¬ b = a := fun z => hb (z ▸ ha)
  rw [gA_pA, if_neg e]
  exact (h.1 b hb).1
theorem Fr.sL {A : List Nat} {g g' : GH} (h : Fr A g g') {a : Nat} (ha : a ∈ A) (f : Nat → Int64) : Fr A g (pL g' a f) := by
  refine ⟨h.1, fun b hb => ?_⟩
  have e : ¬ b = a := fun z => hb (z ▸ ha)
  rw [gL_pL, if_neg e]
  exact h.2 b hb
/-! the class's disc at b is q -/
def fnd (L : List En) : Bool := decide (L.length ≠ 0) && !(weS (qS L) L.length)
def CD (b : Nat) (g : GH) (q : Qd) : Prop := (gF g b 6 = nI q.2.length ∧ q.2.length ≤ 60 ∧ gF g b 7 = nI (wct (qS q.2) q.2.length) ∧ gF g b 8 = nI (epc (qS q.2) q.2.length) ∧ gF g b 9 = bI (fnd q.2) ∧ ∃ T, gF g b 10 = nI T ∧ T < 65536 ∧ ∀ s, s < 16 → (T.testBit s = true ↔ ∃ k, k < q.2.length ∧ qS q.2 k = nI s)) ∧ (∀ p, p < 32 → gA g (b + 1) p = q.1 p) ∧ (∀ p, p < 32 → gA g (b + 2) p = flQ q p) ∧ (∀ k, k < q.2.length → gA g (b + 3) k = qS q.2 k ∧ gA g (b + 4) k = qO q.2 k ∧ gA g (b + 5) k = qT q.2 k ∧ gA g (b + 6) k = if qS q.2 k = -1 then -1 else nI (weN (qS q.2) k)) ∧ ∀ x ∈ q.2, okE x
theorem CD.sec {b : Nat} {g : GH} {q : Qd} (h : CD b g q) : ∀ k, k < q.2.length → qS q.2 k = -1 ∨ ∃ s, s < 16 ∧ qS q.2 k = nI s := fun k hk => by
  rw [qS_at (List.getElem?_eq_getElem hk)]
  exact h.2.2.2.2 _ (List.getElem_mem hk)
theorem CD.keep {b : Nat} {g g' : GH} {q : Qd} (h : CD b g q) (e : ∀ k, gF g' b k = gF g b k) (e1 : gA g' (b + 1) = gA g (b + 1)) (e2 : gA g' (b + 2) = gA g (b + 2)) (e3 : gA g' (b + 3) = gA g (b + 3)) (e4 : gA g' (b + 4) = gA g (b + 4)) (e5 : gA g' (b + 5) = gA g (b + 5)) (e6 : gA g' (b + 6) = gA g (b + 6)) : CD b g' q := by
  unfold CD at h ⊢
  rw [e, e, e, e, e, e1, e2, e3, e4, e5, e6]
  exact h
theorem CD.fr {b : Nat} {g g' : GH} {q : Qd} {A : List Nat} (h : CD b g q) (f : Fr A g g') (hA : ∀ i, i < 7 → b + i ∉ A) : CD b g' q := h.keep (fun k => f.f (hA 0 (by decide)) k) (f.a (hA 1 (by decide))) (f.a (hA 2 (by decide))) (f.a (hA 3 (by decide))) (f.a (hA 4 (by decide))) (f.a (hA 5 (by decide))) (f.a (hA 6 (by decide)))
theorem weN_app {L : List En} {x : En} {k : Nat} (hk : k ≤ L.length) : weN (qS (L ++ [x])) k = weN (qS L) k := weN_congr k (fun j hj => (qS_app (by omega)).1)
theorem weS_app {L : List En} {x : En} {k : Nat} (hk : k ≤ L.length) : weS (qS (L ++ [x])) k = weS (qS L) k := weS_congr k (fun j hj => (qS_app (by omega)).1)
theorem flP_congr {S O T S' O' T' P : Nat → Int32} : ∀ n, (∀ k, k < n → S k = S' k ∧ O k = O' k ∧ T k = T' k) → flP S O T 0 P n = flP S' O' T' 0 P n
  | 0, _ => rfl
  | n + 1, h => by
    obtain ⟨h1, h2, h3⟩ := h n (by omega)
    rw [flP, flP, flP_congr n (fun k hk => h k (by omega)), show 60 * 0 + n = n by omega, h1, h2, h3]
theorem flQ_app (P : Nat → Int32) (L : List En) (x : En) : flQ (P, L ++ [x]) = if x.1 = -1 then flQ (P, L) else upd (upd (flQ (P, L)) (2 * x.1.toNatClampNeg) x.2.1) (2 * x.1.toNatClampNeg + 1) x.2.2 := by
  unfold flQ
  dsimp only
  rw [List.length_append, List.length_singleton, flP, show 60 * 0 + L.length = L.length by omega, (qS_last L x).1, (qS_last L x).2.1, (qS_last L x).2.2, flP_congr L.length (fun k hk => qS_app hk)]
  simp only [Nat.mul_zero, Nat.zero_add]
theorem wct_app (L : List En) (x : En) : wct (qS (L ++ [x])) (L.length + 1) = wct (qS L) L.length + (if x.1 = -1 then 0 else 1) := by
  rw [wct, (qS_last L x).1, wct_congr L.length (fun k hk => (qS_app hk).1)]
/-- a WRITE is added -/
theorem CD.wr {b : Nat} {g g' : GH} {q : Qd} {s : Nat} {u v : Int32} (h : CD b g q) (hs : s < 16) (hl : q.2.length < 60) (e6 : gF g' b 6 = nI (q.2.length + 1)) (e7 : gF g' b 7 = gF g b 7 + nI 1) (e8 : gF g' b 8 = nI (weN (qS q.2) q.2.length + 1)) (e9 : gF g' b 9 = nI 0) (e10 : gF g' b 10 = gF g b 10 ||| (nI 1 <<< (nI s &&& 31))) (a1 : gA g' (b + 1) = gA g (b + 1)) (a2 : gA g' (b + 2) = upd (upd (gA g (b + 2)) (2 * s) u) (2 * s + 1) v) (a3 : gA g' (b + 3) = upd (gA g (b + 3)) q.2.length (nI s)) (a4 : gA g' (b + 4) = upd (gA g (b + 4)) q.2.length u) (a5 : gA g' (b + 5) = upd (gA g (b + 5)) q.2.length v) (a6 : gA g' (b + 6) = upd (gA g (b + 6)) q.2.length (nI (weN (qS q.2) q.2.length))) : CD b g' (q.1, q.2 ++ [(nI s, u, v)]) := by
  obtain ⟨⟨h6, h60, h7, h8, h9, T, h10, hT, hT2⟩, h1, h2, h3, h4⟩ := h
  have hm1 : ¬ (nI s = -1) := nI_m1 (by omega)
  refine ⟨⟨by simpa using e6, by simp; omega, ?_, ?_, ?_, T ||| 2 ^ s, ?_, ?_, fun s' hs' => ?_⟩, fun p hp => by rw [a1]; exact h1 p hp, fun p hp => ?_, fun k hk => ?_, fun x hx => ?_⟩
  · dsimp only
    rw [List.length_append, List.length_singleton, wct_app, if_neg hm1, e7, h7, nI_add]
  · dsimp only
    rw [e8, List.length_append, List.length_singleton, epc, weN, weN_app (Nat.le_refl _), weS, (qS_last q.2 _).1]
    dsimp only
    rw [if_neg (fun z => hm1 z.1), if_pos (by simpa using hm1)]
  · rw [e9, fnd]
    dsimp only
    rw [List.length_append, List.length_singleton, weS, (qS_last q.2 _).1]
    dsimp only
    rw [decide_eq_false hm1]
    simp [bI]
  · rw [e10, h10, nI_shl1 s (by omega), nI_or]
  · exact Nat.or_lt_two_pow (n := 16) hT (Nat.pow_lt_pow_right (by decide) hs)
  · rw [Nat.testBit_or, Nat.testBit_two_pow, Bool.or_eq_true, hT2 s' hs']
    constructor
    · rintro (⟨k, hk, e⟩ | e)
      · exact ⟨k, by simp; omega, by rw [(qS_app hk).1]; exact e⟩
      · refine ⟨q.2.length, by simp, ?_⟩
        rw [(qS_last q.2 _).1]
        have : s = s' := by simpa using e
        rw [this]
    · rintro ⟨k, hk, e⟩
      simp only [List.length_append, List.length_singleton] at hk
      by_cases z : k = q.2.length
      · right
        subst z
        rw [(qS_last q.2 _).1] at e
        have := (nI_eq (by omega) (by omega)).mp e
        simpa using this
      · left
        refine ⟨k, by omega, ?_⟩
        rw [(qS_app (by omega)).1] at e
        exact e
  · rw [a2, flQ_app]
    dsimp only
    rw [if_neg hm1, nI_clamp (by omega)]
    simp only [upd]
    by_cases z1 : p = 2 * s + 1
    · rw [if_pos z1, if_pos z1]
    · rw [if_neg z1, if_neg z1]
      by_cases z2 : p = 2 * s
      · rw [if_pos z2, if_pos z2]
      · rw [if_neg z2, if_neg z2]
        exact h2 p hp
  · dsimp only at hk ⊢
    simp only [List.length_append, List.length_singleton] at hk
    rw [a3, a4, a5, a6]
    simp only [upd]
    by_cases z : k = q.2.length
    · rw [z, if_pos rfl, if_pos rfl, if_pos rfl, if_pos rfl, (qS_last q.2 _).1, (qS_last q.2 _).2.1, (qS_last q.2 _).2.2, weN_app (Nat.le_refl _)]
      dsimp only
      rw [if_neg hm1]
      exact ⟨rfl, rfl, rfl, rfl⟩
    · have hk2 : k < q.2.length := by omega
      rw [if_neg z, if_neg z, if_neg z, if_neg z, (qS_app hk2).1, (qS_app hk2).2.1, (qS_app hk2).2.2, weN_app (by omega)]
      exact h3 k hk2
  · dsimp only at hx
    rw [List.mem_append, List.mem_singleton] at hx
    rcases hx with hx | rfl
    · exact h4 x hx
    · exact ok_n hs _ _
/-- a FENCE is added -/
theorem CD.fe {b : Nat} {g g' : GH} {q : Qd} (h : CD b g q) (hl : q.2.length < 60) (e6 : gF g' b 6 = nI (q.2.length + 1)) (e7 : gF g' b 7 = gF g b 7) (e8 : gF g' b 8 = gF g b 8) (e9 : gF g' b 9 = nI 1) (e10 : gF g' b 10 = gF g b 10) (a1 : gA g' (b + 1) = gA g (b + 1)) (a2 : gA g' (b + 2) = gA g (b + 2)) (a3 : gA g' (b + 3) = upd (gA g (b + 3)) q.2.length (-1)) (a4 : gA g' (b + 4) = upd (gA g (b + 4)) q.2.length (nI 0)) (a5 : gA g' (b + 5) = upd (gA g (b + 5)) q.2.length (nI 0)) (a6 : gA g' (b + 6) = upd (gA g (b + 6)) q.2.length (-1)) : CD b g' (q.1, q.2 ++ [(-1, nI 0, nI 0)]) := by
  obtain ⟨⟨h6, h60, h7, h8, h9, T, h10, hT, hT2⟩, h1, h2, h3, h4⟩ := h
  refine ⟨⟨by simpa using e6, by simp; omega, ?_, ?_, ?_, T, by rw [e10, h10], hT, fun s' hs' => ?_⟩, fun p hp => by rw [a1]; exact h1 p hp, fun p hp => ?_, fun k hk => ?_, fun x hx => ?_⟩
  · dsimp only
    rw [List.length_append, List.length_singleton, wct_app, if_pos rfl, e7, h7]
    rfl
  · dsimp only
    rw [e8, h8, List.length_append, List.length_singleton, epc, epc, weN, weN_app (Nat.le_refl _), weS_app (Nat.le_refl _), weS, (qS_last q.2 _).1]
    simp
  · rw [e9, fnd]
    dsimp only
    rw [List.length_append, List.length_singleton, weS, (qS_last q.2 _).1]
    simp [bI]
  · rw [hT2 s' hs']
    constructor
    · rintro ⟨k, hk, e⟩
      exact ⟨k, by simp; omega, by rw [(qS_app hk).1]; exact e⟩
    · rintro ⟨k, hk, e⟩
      simp only [List.length_append, List.length_singleton] at hk
      by_cases z : k = q.2.length
      · subst z
        rw [(qS_last q.2 _).1] at e
        exact absurd e.symm (nI_m1 (by omega))
      · refine ⟨k, by omega, ?_⟩
        rw [(qS_app (by omega)).1] at e
        exact e
  · rw [a2, flQ_app]
    dsimp only
    rw [if_pos rfl]
    exact h2 p hp
  · dsimp only at hk ⊢
    simp only [List.length_append, List.length_singleton] at hk
    rw [a3, a4, a5, a6]
    simp only [upd]
    by_cases z : k = q.2.length
    · rw [z, if_pos rfl, if_pos rfl, if_pos rfl, if_pos rfl, (qS_last q.2 _).1, (qS_last q.2 _).2.1, (qS_last q.2 _).2.2]
      exact ⟨rfl, rfl, rfl, rfl⟩
    · have hk2 : k < q.2.length := by omega
      rw [if_neg z, if_neg z, if_neg z, if_neg z, (qS_app hk2).1, (qS_app hk2).2.1, (qS_app hk2).2.2, weN_app (by omega)]
      exact h3 k hk2
  · dsimp only at hx
    rw [List.mem_append, List.mem_singleton] at hx
    rcases hx with hx | rfl
    · exact h4 x hx
    · exact Or.inl rfl
/-- it comes up with f -/
theorem CD.up {b : Nat} {g' : GH} {f : Nat → Int32} (e6 : gF g' b 6 = nI 0) (e7 : gF g' b 7 = nI 0) (e8 : gF g' b 8 = nI 0) (e9 : gF g' b 9 = nI 0) (e10 : gF g' b 10 = nI 0) (a1 : ∀ p, p < 32 → gA g' (b + 1) p = f p) (a2 : ∀ p, p < 32 → gA g' (b + 2) p = f p) : CD b g' (f, []) := by
  refine ⟨⟨e6, by simp, e7, e8, e9, 0, e10, by decide, fun s hs => ?_⟩, a1, a2, fun k hk => absurd hk (by simp), fun x hx => by cases hx⟩
  simp
