/-! discs of the reference: pushes and flushes -/
def okE (x : En) : Prop := x.1 = -1 ∨ ∃ s, s < 16 ∧ x.1 = nI s
theorem fnc_ok (sp : Nat → Int32) (i : Nat) : ∀ x ∈ fnc sp i, okE x := by
  intro x hx
  unfold fnc at hx
  split at hx
  · simp at hx
    subst hx
    exact Or.inl rfl
  · simp at hx
theorem ok_n {s : Nat} (h : s < 16) (a b : Int32) : okE (nI s, a, b) := Or.inr ⟨s, h, rfl⟩
theorem ch0_ok {k : Nat} {v : Int64} {lw : Option Nat} (hk : k < 3) (hl : ∀ l, lw = some l → l < 3) : ∀ x ∈ ch0 k v lw, okE x := by
  intro x hx
  cases lw with
  | none =>
    simp [ch0] at hx
    subst hx
    exact ok_n (by omega) _ _
  | some l =>
    have := hl l rfl
    simp [ch0] at hx
    rcases hx with rfl | rfl
    · exact ok_n (by omega) _ _
    · exact ok_n (by omega) _ _
theorem ch1_ok {sp : Nat → Int32} {k : Nat} {v : Int64} {lw : Option Nat} (hk : k < 3) (hl : ∀ l, lw = some l → l < 3) : ∀ x ∈ ch1 sp k v lw, okE x := by
  intro x hx
  cases lw with
  | none =>
    simp only [ch1, List.mem_append, List.mem_cons, List.not_mem_nil, or_false] at hx
    rcases hx with (((((((rfl | rfl | rfl) | h) | rfl) | h) | rfl) | h) | rfl) | h
    · exact ok_n (by omega) _ _
    · exact ok_n (by omega) _ _
    · exact ok_n (by omega) _ _
    · exact fnc_ok _ _ x h
    · exact ok_n (by omega) _ _
    · exact fnc_ok _ _ x h
    · exact ok_n (by omega) _ _
    · exact fnc_ok _ _ x h
    · exact ok_n (by omega) _ _
    · exact fnc_ok _ _ x h
  | some l =>
    have := hl l rfl
    simp only [ch1, List.mem_append, List.mem_cons, List.not_mem_nil, or_false] at hx
    rcases hx with ((((((((rfl | rfl | rfl) | h) | rfl) | h) | rfl) | rfl) | h) | rfl) | h
    · exact ok_n (by omega) _ _
    · exact ok_n (by omega) _ _
    · exact ok_n (by omega) _ _
    · exact fnc_ok _ _ x h
    · exact ok_n (by omega) _ _
    · exact fnc_ok _ _ x h
    · exact ok_n (by omega) _ _
    · exact ok_n (by omega) _ _
    · exact fnc_ok _ _ x h
    · exact ok_n (by omega) _ _
    · exact fnc_ok _ _ x h
theorem ch2_ok {sp : Nat → Int32} {n : Int32} {key : Nat → Int64} {k : Nat} {v : Int64} {lw : Option Nat} : ∀ x ∈ ch2 sp n key k v lw, okE x := by
  intro x hx
  have h8 : ∀ y, y < 3 → okE (shE n key k v lw y) := fun y hy => Or.inr ⟨plc y n, plc_lt hy n, rfl⟩
  simp only [ch2, List.mem_append, List.mem_cons, List.not_mem_nil, or_false] at hx
  rcases hx with (((rfl | rfl | rfl) | h) | rfl) | h
  · exact h8 0 (by decide)
  · exact h8 1 (by decide)
  · exact h8 2 (by decide)
  · exact fnc_ok _ _ x h
  · by_cases q : n &&& nI 1 = nI 1
    · rw [if_pos q]; exact ok_n (by decide) _ _
    · rw [if_neg q]; exact ok_n (by decide) _ _
  · exact fnc_ok _ _ x h
theorem chg_ok {st : Nat} {sp : Nat → Int32} {ver : Int32} {key : Nat → Int64} {k : Nat} {v : Int64} {lw : Option Nat} (hk : k < 3) (hl : ∀ l, lw = some l → l < 3) : ∀ x ∈ chg st sp ver key k v lw, okE x := by
  unfold chg
  split
  · exact ch0_ok hk hl
  · exact ch1_ok hk hl
  · exact ch2_ok
theorem ris_ok (st : Nat) (sp : Nat → Int32) (n m k kh kl l lh ll : Int32) : ∀ x ∈ risL st sp n m k kh kl l lh ll, okE x := by
  intro x hx
  unfold risL at hx
  split at hx
  · unfold ris1 at hx
    split at hx
    · rename_i h
      obtain ⟨h1, h2, h3, h4⟩ := h
      obtain ⟨j, hj, rfl⟩ := (insQ_ok (by decide)).mp h3
      simp only [List.mem_append, List.mem_cons, List.not_mem_nil, or_false] at hx
      rcases hx with (((rfl | h) | h) | rfl) | h
      · exact ok_n (by omega) _ _
      · split at h
        · rename_i h5
          rcases h4 with h6 | h6
          · rw [h6] at h5
            exact absurd h5 (by decide)
          · obtain ⟨j2, hj2, rfl⟩ := (insQ_ok (by decide)).mp h6
            simp at h
            subst h
            exact ok_n (by omega) _ _
        · simp at h
      · exact fnc_ok _ _ x h
      · exact ok_n (by omega) _ _
      · exact fnc_ok _ _ x h
    · split at hx
      · simp only [List.mem_append, List.mem_cons, List.not_mem_nil, or_false] at hx
        rcases hx with rfl | h
        · exact ok_n (by omega) _ _
        · exact fnc_ok _ _ x h
      · simp at hx
  · simp at hx
theorem qS_app {L : List En} {x : En} {k : Nat} (hk : k < L.length) : qS (L ++ [x]) k = qS L k ∧ qO (L ++ [x]) k = qO L k ∧ qT (L ++ [x]) k = qT L k := by
  unfold qS qO qT
  rw [List.getElem?_append_left hk]
  exact ⟨rfl, rfl, rfl⟩
theorem qS_last (L : List En) (x : En) : qS (L ++ [x]) L.length = x.1 ∧ qO (L ++ [x]) L.length = x.2.1 ∧ qT (L ++ [x]) L.length = x.2.2 := by
  unfold qS qO qT
  rw [List.getElem?_concat_length]
  exact ⟨rfl, rfl, rfl⟩
theorem MD.push {g : GH} {d : Nat} {q : Qd} (h : MD g d q) {x : En} (hx : okE x) (hl : q.2.length < 60) : MD (pushG g d x.1 x.2.1 x.2.2 q.2.length) d (q.1, q.2 ++ [x]) := by
  obtain ⟨h1, h2, h3, h4, h5⟩ := h
  refine ⟨?_, by simp; omega, ?_, fun k hk => ?_, fun k hk => ?_⟩
  · simp [pushG, gA_pF, gA_pA, upd]
  · intro p hp
    simp only [pushG, gA_pF, gA_pA, reduceIte, Nat.reduceEqDiff]
    exact h3 p hp
  · simp only [List.length_append, List.length_singleton] at hk
    simp only [pushG, gA_pF, gA_pA, reduceIte, Nat.reduceEqDiff, upd]
    by_cases e : k = q.2.length
    · subst e
      rw [if_pos rfl, if_pos rfl, if_pos rfl, (qS_last q.2 x).1, (qS_last q.2 x).2.1, (qS_last q.2 x).2.2]
      exact ⟨rfl, rfl, rfl⟩
    · have hk2 : k < q.2.length := by omega
      obtain ⟨a, b, c⟩ := qS_app (x := x) hk2
      rw [if_neg (by omega), if_neg (by omega), if_neg (by omega), a, b, c]
      exact h4 k hk2
  · simp only [List.length_append, List.length_singleton] at hk
    by_cases e : k = q.2.length
    · subst e
      rw [(qS_last q.2 x).1]
      exact hx
    · rw [(qS_app (x := x) (show k < q.2.length by omega)).1]
      exact h5 k (by omega)
theorem MD.pushs {d : Nat} : ∀ (L : List En) (g : GH) (q : Qd), MD g d q → (∀ x ∈ L, okE x) → q.2.length + L.length ≤ 60 → MD (pushL g d q.2.length L) d (q.1, q.2 ++ L)
  | [], g, q, h, _, _ => by simpa [pushL] using h
  | x :: L, g, q, h, hx, hl => by
    simp only [List.length_cons] at hl
    have h1 := h.push (hx x List.mem_cons_self) (by omega)
    have h2 := MD.pushs L _ _ h1 (fun y hy => hx y (List.mem_cons_of_mem _ hy)) (by simp; omega)
    simpa [pushL, List.append_assoc] using h2
theorem flP_shift {S O T P S' O' T' P' : Nat → Int32} {d : Nat} (hP : ∀ p, p < 32 → P (32 * d + p) = P' p) : ∀ n, (∀ k, k < n → S (60 * d + k) = S' k ∧ O (60 * d + k) = O' k ∧ T (60 * d + k) = T' k) → (∀ k, k < n → S' k = -1 ∨ ∃ s, s < 16 ∧ S' k = nI s) → ∀ p, p < 32 → flP S O T d P n (32 * d + p) = flP S' O' T' 0 P' n p
  | 0, _, _ => hP
  | n + 1, h, hs => by
    intro p hp
    obtain ⟨h1, h2, h3⟩ := h n (by omega)
    have ih := flP_shift hP n (fun k hk => h k (by omega)) (fun k hk => hs k (by omega)) p hp
    rw [flP, flP, h1, h2, h3, show 60 * 0 + n = n by omega]
    rcases hs n (by omega) with z | ⟨s, hs16, z⟩
    · rw [if_pos z, if_pos z]
      exact ih
    · have hc : (S' n).toNatClampNeg = s := by rw [z]; exact nI_clamp (by omega)
      rw [if_neg (by rw [z]; exact nI_m1 (by omega)), if_neg (by rw [z]; exact nI_m1 (by omega)), hc]
      simp only [upd]
      by_cases e1 : p = 2 * s + 1
      · rw [if_pos (by omega), if_pos (by omega)]
      · rw [if_neg (by omega), if_neg (by omega : ¬ p = 32 * 0 + 2 * s + 1)]
        by_cases e2 : p = 2 * s
        · rw [if_pos (by omega), if_pos (by omega)]
        · rw [if_neg (by omega), if_neg (by omega : ¬ p = 32 * 0 + 2 * s)]
          exact ih
theorem flP_out {S O T P : Nat → Int32} {d : Nat} : ∀ n, (∀ k, k < n → S (60 * d + k) = -1 ∨ ∃ s, s < 16 ∧ S (60 * d + k) = nI s) → ∀ p, ¬ (32 * d ≤ p ∧ p < 32 * d + 32) → flP S O T d P n p = P p
  | 0, _, _, _ => rfl
  | n + 1, hs, p, hp => by
    have ih := flP_out n (fun k hk => hs k (by omega)) p hp (O := O) (T := T) (P := P)
    rw [flP]
    rcases hs n (by omega) with z | ⟨s, hs16, z⟩
    · rw [if_pos z]
      exact ih
    · have hc : (S (60 * d + n)).toNatClampNeg = s := by rw [z]; exact nI_clamp (by omega)
      rw [if_neg (by rw [z]; exact nI_m1 (by omega)), hc]
      simp only [upd]
      rw [if_neg (by omega), if_neg (by omega)]
      exact ih
def flG (g : GH) (d n : Nat) : GH := pA (pA g 77 (flP (gA g 78) (gA g 79) (gA g 80) d (gA g 77) n)) 81 (upd (gA g 81) d (nI 0))
theorem MD.flush {g : GH} {d : Nat} {q : Qd} (h : MD g d q) : MD (flG g d q.2.length) d (flQ q, []) := by
  refine ⟨by simp [flG, gA_pA, upd], by simp, fun p hp => ?_, fun k hk => absurd hk (by simp), fun k hk => absurd hk (by simp)⟩
  simp only [flG, gA_pA, reduceIte, Nat.reduceEqDiff]
  exact flP_shift h.2.2.1 _ h.2.2.2.1 h.2.2.2.2 p hp
/-! what a moment keeps -/
def KL (g g' : GH) : Prop := (∀ a, a ∉ [77, 78, 79, 80, 81, 90, 91, 92, 98, 100] → gA g' a = gA g a) ∧ (∀ a k, ¬ (a = 76 ∧ k = 21) → gF g' a k = gF g a k) ∧ (∀ a, a ≠ 102 → gL g' a = gL g a) ∧ (∀ p, p < 64 → gA g' 77 p = gA g 77 p) ∧ (∀ k, k < 120 → gA g' 78 k = gA g 78 k ∧ gA g' 79 k = gA g 79 k ∧ gA g' 80 k = gA g 80 k) ∧ (∀ d, d < 2 → gA g' 81 d = gA g 81 d)
theorem KL.rf (g : GH) : KL g g := ⟨fun _ _ => rfl, fun _ _ _ => rfl, fun _ _ => rfl, fun _ _ => rfl, fun _ _ => ⟨rfl, rfl, rfl⟩, fun _ _ => rfl⟩
theorem KL.tr {g g' g'' : GH} (h : KL g g') (h' : KL g' g'') : KL g g'' := ⟨fun a ha => (h'.1 a ha).trans (h.1 a ha), fun a k ha => (h'.2.1 a k ha).trans (h.2.1 a k ha), fun a ha => (h'.2.2.1 a ha).trans (h.2.2.1 a ha), fun p hp => (h'.2.2.2.1 p hp).trans (h.2.2.2.1 p hp), fun k hk => ⟨(h'.2.2.2.2.1 k hk).1.trans (h.2.2.2.2.1 k hk).1, (h'.2.2.2.2.1 k hk).2.1.trans (h.2.2.2.2.1 k hk).2.1, (h'.2.2.2.2.1 k hk).2.2.trans (h.2.2.2.2.1 k hk).2.2⟩, fun d hd => (h'.2.2.2.2.2 d hd).trans (h.2.2.2.2.2 d hd)⟩
theorem KL.md {g g' : GH} (h : KL g g') {d : Nat} (hd : d < 2) {q : Qd} (m : MD g d q) : MD g' d q := by
  obtain ⟨h1, h2, h3, h4, h5⟩ := m
  refine ⟨by rw [h.2.2.2.2.2 d hd]; exact h1, h2, fun p hp => by rw [h.2.2.2.1 _ (by omega)]; exact h3 p hp, fun k hk => ?_, h5⟩
  obtain ⟨a, b, c⟩ := h.2.2.2.2.1 (60 * d + k) (by omega)
  rw [a, b, c]
  exact h4 k hk
theorem KL.big {g : GH} {a : Nat} (f : Nat → Int32) (ha : a = 90 ∨ a = 91 ∨ a = 92 ∨ a = 98 ∨ a = 100) : KL g (pA g a f) := by
  refine ⟨fun b hb => ?_, fun _ _ _ => rfl, fun _ _ => rfl, fun p hp => ?_, fun k hk => ?_, fun d hd => ?_⟩
  · rw [gA_pA, if_neg]
    rintro rfl
    apply hb
    rcases ha with rfl | rfl | rfl | rfl | rfl <;> decide
  · rw [gA_pA, if_neg (by omega)]
  · simp only [gA_pA]
    rw [if_neg (by omega), if_neg (by omega), if_neg (by omega)]
    exact ⟨rfl, rfl, rfl⟩
  · rw [gA_pA, if_neg (by omega)]
theorem KL.p21 {g : GH} (x : Int32) : KL g (pF g 76 21 x) := ⟨fun _ _ => rfl, fun a k h => by rw [gF_pF, if_neg h], fun _ _ => rfl, fun _ _ => rfl, fun _ _ => ⟨rfl, rfl, rfl⟩, fun _ _ => rfl⟩
theorem KL.p77 {g : GH} {f : Nat → Int32} (h : ∀ p, p < 64 → f p = gA g 77 p) : KL g (pA g 77 f) := by
  refine ⟨fun b hb => ?_, fun _ _ _ => rfl, fun _ _ => rfl, fun p hp => by rw [gA_pA, if_pos rfl]; exact h p hp, fun k hk => ⟨rfl, rfl, rfl⟩, fun d hd => rfl⟩
  rw [gA_pA, if_neg]
  rintro rfl
  exact hb (by decide)
theorem KL.p81 {g : GH} (x : Int32) : KL g (pA g 81 (upd (gA g 81) 2 x)) := by
  refine ⟨fun b hb => ?_, fun _ _ _ => rfl, fun _ _ => rfl, fun p hp => rfl, fun k hk => ⟨rfl, rfl, rfl⟩, fun d hd => by rw [gA_pA, if_pos rfl, upd, if_neg (by omega)]⟩
  rw [gA_pA, if_neg]
  rintro rfl
  exact hb (by decide)
theorem KL.p102 {g : GH} (f : Nat → Int64) : KL g (pL g 102 f) := ⟨fun _ _ => rfl, fun _ _ _ => rfl, fun a ha => by rw [gL_pL, if_neg ha], fun _ _ => rfl, fun _ _ => ⟨rfl, rfl, rfl⟩, fun _ _ => rfl⟩
theorem KL.pl (g : GH) (L : List En) : KL g (plA g L) := ((KL.big _ (by decide)).tr ((KL.big _ (by decide)).tr (KL.big _ (by decide)))).tr (KL.p21 _)
theorem add_n0 (x : Int32) : x + nI 0 = x := Int32.add_zero x
theorem KL.psh (g : GH) (s a b : Int32) (n : Nat) : KL g (pushG g 2 s a b n) := by
  refine ⟨fun c hc => ?_, fun c k h => ?_, fun _ _ => rfl, fun p hp => rfl, fun k hk => ?_, fun d hd => ?_⟩
  · have h : c ≠ 78 ∧ c ≠ 79 ∧ c ≠ 80 ∧ c ≠ 81 := by
      refine ⟨?_, ?_, ?_, ?_⟩ <;> (rintro rfl; exact hc (by decide))
    simp [pushG, gA_pF, gA_pA, h.1, h.2.1, h.2.2.1, h.2.2.2]
  · simp only [pushG, gF_pF, gF_pA]
    split
    · rename_i e
      rw [e.1, e.2, if_neg (by omega), add_n0]
    · rfl
  · simp only [pushG, gA_pF, gA_pA, reduceIte, Nat.reduceEqDiff, upd]
    rw [if_neg (by omega), if_neg (by omega), if_neg (by omega)]
    exact ⟨rfl, rfl, rfl⟩
  · simp only [pushG, gA_pF, gA_pA, reduceIte, upd]
    rw [if_neg (by omega)]
theorem KL.pshs : ∀ (L : List En) (g : GH) (n : Nat), KL g (pushL g 2 n L)
  | [], g, _ => KL.rf g
  | x :: L, g, n => (KL.psh g _ _ _ n).tr (KL.pshs L _ (n + 1))
theorem KL.fl {g : GH} {n : Nat} (hs : ∀ k, k < n → gA g 78 (60 * 2 + k) = -1 ∨ ∃ s, s < 16 ∧ gA g 78 (60 * 2 + k) = nI s) : KL g (flG g 2 n) := (KL.p77 (fun p hp => flP_out n hs p (by omega))).tr (KL.p81 _)
