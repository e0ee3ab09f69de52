/-! reports -/
abbrev Rp : Type := (Nat → Nat) × List (List Int32)
def tu (t : Nat → Nat) (j x : Nat) : Nat → Nat := fun i => if i = j then x else t i
def badRow (mo i be su : Nat) (cm : Nat → Int64) : List Int32 := [nI mo, nI i, nI be, nI su, hi32 (cm 0), (cm 0).toInt32, hi32 (cm 1), (cm 1).toInt32, hi32 (cm 2), (cm 2).toInt32]
def addBad (rp : Rp) (row : List Int32) : Rp := (tu rp.1 2 (rp.1 2 + 1), if rp.2.length < 50 then rp.2 ++ [row] else rp.2)
def rgtP (A : List Ac) (cm : Nat → Int64) (su be : Nat) : Prop := ∃ n, su ≤ n ∧ n ≤ be ∧ ∀ k, k < 3 → dueP A n k = cm k
noncomputable def momF (A : List Ac) (f : Nat → Nat → Int32) (st : Nat) (sp : Nat → Int32) (su be : Nat) (rp : Rp) : Nat → Rp
  | 0 => rp
  | i + 1 => @ite Rp (rgtP A (camQ (f i) st sp) su be) (Classical.propDecidable _) (momF A f st sp su be rp i) (addBad (momF A f st sp su be rp i) (badRow (rp.1 0) i be su (camQ (f i) st sp)))
def momE (N : Nat) (rp : Rp) : Rp := (tu (tu (tu rp.1 0 (rp.1 0 + 1)) 1 (rp.1 1 + N)) 6 (max (rp.1 6) N), rp.2)
noncomputable def momP (A : List Ac) (q : Qd) (st : Nat) (sp : Nat → Int32) (su be : Nat) (rp : Rp) : Rp := momE (nSt q) (momF A (fSt q) st sp su be rp (nSt q))
def RpM (g : GH) (rp : Rp) : Prop := (∀ j, j < 7 → gA g 98 j = nI (rp.1 j)) ∧ rp.2.length = min (rp.1 2) 50 ∧ ∀ i row, rp.2[i]? = some row → ∀ w, w < 10 → gA g 100 (10 * i + w) = row.getD w 0
def RpB (rp : Rp) : Prop := rp.1 0 ≤ 1000 ∧ rp.1 1 ≤ 4096 * rp.1 0 ∧ rp.1 2 ≤ 4096 * rp.1 0 ∧ rp.1 6 ≤ 4096 ∧ rp.1 3 ≤ 1000 ∧ rp.1 4 ≤ 1000 ∧ rp.1 5 ≤ 1000
theorem addBad_t (rp : Rp) (row : List Int32) (j : Nat) (h : j ≠ 2) : (addBad rp row).1 j = rp.1 j := by simp [addBad, tu, h]
theorem addBad_2 (rp : Rp) (row : List Int32) : (addBad rp row).1 2 = rp.1 2 + 1 := by simp [addBad, tu]
theorem momF_t (A : List Ac) (f : Nat → Nat → Int32) (st : Nat) (sp : Nat → Int32) (su be : Nat) (rp : Rp) : ∀ i, (∀ j, j ≠ 2 → (momF A f st sp su be rp i).1 j = rp.1 j) ∧ (momF A f st sp su be rp i).1 2 ≤ rp.1 2 + i ∧ rp.1 2 ≤ (momF A f st sp su be rp i).1 2
  | 0 => ⟨fun _ _ => rfl, Nat.le_refl _, Nat.le_refl _⟩
  | i + 1 => by
    obtain ⟨h1, h2, h3⟩ := momF_t A f st sp su be rp i
    by_cases q : rgtP A (camQ (f i) st sp) su be
    · rw [momF, if_pos q]
      exact ⟨h1, by omega, h3⟩
    · rw [momF, if_neg q]
      refine ⟨fun j hj => by rw [addBad_t _ _ j hj]; exact h1 j hj, ?_, ?_⟩
      · rw [addBad_2]
        omega
      · rw [addBad_2]
        omega
theorem momP_B {A : List Ac} {q : Qd} {st : Nat} {sp : Nat → Int32} {su be : Nat} {rp : Rp} (hq : FitQ q) (h : RpB rp) (h0 : rp.1 0 < 1000) : RpB (momP A q st sp su be rp) := by
  obtain ⟨b0, b1, b2, b6, b3, b4, b5⟩ := h
  obtain ⟨t1, t2, t3⟩ := momF_t A (fSt q) st sp su be rp (nSt q)
  have hN := hq.enu.2
  have e0 := t1 0 (by decide)
  have e1 := t1 1 (by decide)
  have e3 := t1 3 (by decide)
  have e4 := t1 4 (by decide)
  have e5 := t1 5 (by decide)
  have e6 := t1 6 (by decide)
  unfold momP momE
  refine ⟨?_, ?_, ?_, ?_, ?_, ?_, ?_⟩ <;> simp only [tu, reduceIte, Nat.reduceEqDiff, e0, e1, e3, e4, e5, e6] <;> omega
theorem flQ_congr {F F' : Nat → Int32} (h : eq32 F F') {L : List En} (hL : ∀ x ∈ L, okE x) : eq32 (flQ (F, L)) (flQ (F', L)) := by
  have hs : ∀ k, k < L.length → qS L k = -1 ∨ ∃ s, s < 16 ∧ qS L k = nI s := fun k hk => by
    rw [qS_at (List.getElem?_eq_getElem hk)]
    exact hL _ (List.getElem_mem hk)
  intro p hp
  have := flP_shift (S := qS L) (O := qO L) (T := qT L) (P := F) (S' := qS L) (O' := qO L) (T' := qT L) (P' := F') (d := 0) (fun p hp => by rw [show 32 * 0 + p = p by omega]; exact h p hp) L.length (fun k hk => by rw [show 60 * 0 + k = k by omega]; exact ⟨rfl, rfl, rfl⟩) hs p hp
  rw [show 32 * 0 + p = p by omega] at this
  exact this
theorem keyQ0_congr {F F' : Nat → Int32} (h : eq32 F F') (st : Nat) {k : Nat} (hk : k < 3) : keyQ (F, []) st k = keyQ (F', []) st k := by
  have r : ∀ s p, s < 16 → p < 2 → rdA F (qS []) (qO []) (qT []) 0 s p 0 = rdA F' (qS []) (qO []) (qT []) 0 s p 0 := fun s p hs hp => h _ (by omega)
  unfold keyQ keyA
  have ev : verA F (qS []) (qO []) (qT []) 0 ([] : List En).length = verA F' (qS []) (qO []) (qT []) 0 ([] : List En).length := by
    unfold verA
    have a := r 3 0 (by decide) (by decide)
    have b := r 3 1 (by decide) (by decide)
    have c := r 7 0 (by decide) (by decide)
    have d := r 7 1 (by decide) (by decide)
    simp only [List.length_nil] at *
    rw [a, b, c, d]
  simp only [List.length_nil] at *
  rw [ev]
  generalize (if st = 2 then verA F' (qS []) (qO []) (qT []) 0 0 else nI 1) = v
  unfold keyV
  rw [r (plc k v) 0 (plc_lt hk v) (by decide), r (plc k v) 1 (plc_lt hk v) (by decide)]
theorem risQ_congr {F F' : Nat → Int32} (h : eq32 F F') (st : Nat) (sp : Nat → Int32) : risQ F st sp = risQ F' st sp := by
  unfold risQ
  rw [h 6 (by decide), h 7 (by decide), h 8 (by decide), h 9 (by decide), h 10 (by decide), h 11 (by decide), h 12 (by decide), h 13 (by decide)]
theorem camQ_congr {F F' : Nat → Int32} (h : eq32 F F') (st : Nat) (sp : Nat → Int32) {k : Nat} (hk : k < 3) : camQ F st sp k = camQ F' st sp k := by
  unfold camQ
  rw [risQ_congr h st sp]
  exact keyQ0_congr (flQ_congr h (ris_ok _ _ _ _ _ _ _ _ _ _)) st hk
def KM (g g' : GH) : Prop := (∀ a, a ∉ [77, 78, 79, 80, 81, 84, 85, 86, 87, 88, 89, 90, 91, 92, 98, 100] → gA g' a = gA g a) ∧ (∀ a k, ¬ (a = 76 ∧ (k = 11 ∨ k = 21)) → gF g' a k = gF g a k) ∧ (∀ a, a ≠ 102 → gL g' a = gL g a) ∧ (∀ p, p < 64 → gA g' 77 p = gA g 77 p) ∧ (∀ k, k < 120 → gA g' 78 k = gA g 78 k ∧ gA g' 79 k = gA g 79 k ∧ gA g' 80 k = gA g 80 k) ∧ (∀ d, d < 2 → gA g' 81 d = gA g 81 d)
theorem KM.rf (g : GH) : KM g g := ⟨fun _ _ => rfl, fun _ _ _ => rfl, fun _ _ => rfl, fun _ _ => rfl, fun _ _ => ⟨rfl, rfl, rfl⟩, fun _ _ => rfl⟩
theorem KM.tr {g g' g'' : GH} (h : KM g g') (h' : KM g' g'') : KM g g'' := ⟨fun a ha => (h'.1 a ha).trans (h.1 a ha), fun a k ha => (h'.2.1 a k ha).trans (h.2.1 a k ha), fun a ha => (h'.2.2.1 a ha).trans (h.2.2.1 a ha), fun p hp => (h'.2.2.2.1 p hp).trans (h.2.2.2.1 p hp), fun k hk => ⟨(h'.2.2.2.2.1 k hk).1.trans (h.2.2.2.2.1 k hk).1, (h'.2.2.2.2.1 k hk).2.1.trans (h.2.2.2.2.1 k hk).2.1, (h'.2.2.2.2.1 k hk).2.2.trans (h.2.2.2.2.1 k hk).2.2⟩, fun d hd => (h'.2.2.2.2.2 d hd).trans (h.2.2.2.2.2 d hd)⟩
theorem KL.km {g g' : GH} (h : KL g g') : KM g g' := ⟨fun a ha => h.1 a (fun z => ha (by
    simp only [List.mem_cons, List.not_mem_nil, or_false] at z ⊢
    rcases z with rfl | rfl | rfl | rfl | rfl | rfl | rfl | rfl | rfl | rfl <;> simp)), fun a k ha => h.2.1 a k (fun z => ha ⟨z.1, Or.inr z.2⟩), h.2.2⟩
theorem KM.fs (g : GH) (a b c d e f : Nat → Int32) (x : Int32) : KM g (fsG g a b c d e f x) := by
  refine ⟨fun i hi => ?_, fun i k h => ?_, fun _ _ => rfl, fun _ _ => rfl, fun _ _ => ⟨rfl, rfl, rfl⟩, fun _ _ => rfl⟩
  · have h : i ≠ 84 ∧ i ≠ 85 ∧ i ≠ 86 ∧ i ≠ 87 ∧ i ≠ 88 ∧ i ≠ 89 := by
      refine ⟨?_, ?_, ?_, ?_, ?_, ?_⟩ <;> (rintro rfl; exact hi (by decide))
    simp [fsG, gA_pF, gA_pA, h.1, h.2.1, h.2.2.1, h.2.2.2.1, h.2.2.2.2.1, h.2.2.2.2.2]
  · simp only [fsG, gF_pF, gF_pA]
    rw [if_neg (fun z => h ⟨z.1, Or.inl z.2⟩)]
theorem KM.md {g g' : GH} (h : KM g g') {d : Nat} (hd : d < 2) {q : Qd} (m : MD g d q) : MD g' d q := by
  obtain ⟨h1, h2, h3, h4, h5⟩ := m
  refine ⟨by rw [h.2.2.2.2.2 d hd]; exact h1, h2, fun p hp => by rw [h.2.2.2.1 _ (by omega)]; exact h3 p hp, fun k hk => ?_, h5⟩
  obtain ⟨a, b, c⟩ := h.2.2.2.2.1 (60 * d + k) (by omega)
  rw [a, b, c]
  exact h4 k hk
