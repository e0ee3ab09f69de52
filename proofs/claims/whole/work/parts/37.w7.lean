/-! going through, as pure words -/
abbrev Ws : Type := Qd × Rp
def fmtQ (st : Nat) : Nat → Int32 := fun q => if st = 2 ∧ q = 6 then nI 1 else if st = 2 ∧ q = 7 then nI 38 else nI 0
noncomputable def momO (A : List Ac) (st : Nat) (sp : Nat → Int32) (su be : Nat) (q : Qd) (rp : Rp) : Option Ws := @ite _ (FitQ q) (Classical.propDecidable _) (some (q, momP A q st sp su be rp)) none
theorem momO_y {A : List Ac} {st : Nat} {sp : Nat → Int32} {su be : Nat} {q : Qd} {rp : Rp} (h : FitQ q) : momO A st sp su be q rp = some (q, momP A q st sp su be rp) := if_pos h
theorem momO_n {A : List Ac} {st : Nat} {sp : Nat → Int32} {su be : Nat} {q : Qd} {rp : Rp} (h : ¬ FitQ q) : momO A st sp su be q rp = none := if_neg h
def tk (rp : Rp) (j : Nat) : Rp := (tu rp.1 j (rp.1 j + 1), rp.2)
noncomputable def entO (A : List Ac) (st : Nat) (sp : Nat → Int32) (su be : Nat) (w : Ws) (x : En) : Option Ws :=
  if w.1.2.length < 60 then (if x.1 = -1 then some ((w.1.1, w.1.2 ++ [x]), tk w.2 4) else momO A st sp su be (w.1.1, w.1.2 ++ [x]) (tk w.2 3)) else none
noncomputable def entsO (A : List Ac) (st : Nat) (sp : Nat → Int32) (su be : Nat) : List En → Ws → Option Ws
  | [], w => some w
  | x :: L, w => (entO A st sp su be w x).bind (entsO A st sp su be L)
def actL (st : Nat) (sp : Nat → Int32) (a : Ac) (q : Qd) : List En := if a.1 = 0 then chgQ q st sp a.2.1 a.2.2.2 none else chgQ q st sp a.2.2.1 (keyQ q st a.2.1) (some a.2.1)
noncomputable def actO (A : List Ac) (st : Nat) (sp : Nat → Int32) (n : Nat) (a : Ac) (su : Nat) (w : Ws) : Option (Nat × Ws) :=
  if a.1 = 2 then (momO A st sp (n + 1) (n + 1) (flQ w.1, []) (tk w.2 5)).map (fun w => (n + 1, w)) else (entsO A st sp su (n + 1) (actL st sp a w.1) w).map (fun w => (su, w))
noncomputable def goO (A : List Ac) (st : Nat) (sp : Nat → Int32) : Nat → Option (Nat × Ws)
  | 0 => (momO A st sp 0 0 (fmtQ st, []) (fun _ => 0, [])).map (fun w => (0, w))
  | n + 1 => (goO A st sp n).bind (fun s => (A[n]?).bind (fun a => actO A st sp n a s.1 s.2))
noncomputable def walkO (A : List Ac) (st : Nat) (sp : Nat → Int32) : Option Rp := (goO A st sp A.length).map (fun s => s.2.2)
theorem actL_len (st : Nat) (sp : Nat → Int32) (a : Ac) (q : Qd) : (actL st sp a q).length ≤ 11 := by
  unfold actL
  split <;> exact chg_len _ _ _ _ _ _ _
theorem actL_ok {st : Nat} {sp : Nat → Int32} {a : Ac} {q : Qd} (ha : okA a) (h2 : a.1 ≠ 2) : ∀ x ∈ actL st sp a q, okE x := by
  obtain ⟨h3, h4, h5⟩ := ha
  unfold actL
  split
  · rename_i h
    exact chg_ok (h4 h) (fun l hl => by cases hl)
  · have h1 : a.1 = 1 := by omega
    obtain ⟨o1, o2, o3⟩ := h5 h1
    exact chg_ok o2 (fun l hl => by cases hl; exact o1)
theorem entsO_full {A : List Ac} {st : Nat} {sp : Nat → Int32} {su be : Nat} : ∀ (L : List En) (w : Ws), w.1.2.length ≤ 60 → 60 < w.1.2.length + L.length → entsO A st sp su be L w = none
  | [], w, h1, h => absurd h (by simp; omega)
  | x :: L, w, h1, h => by
    simp only [List.length_cons] at h
    rw [entsO]
    by_cases q : w.1.2.length < 60
    · rw [entO, if_pos q]
      by_cases z : x.1 = -1
      · rw [if_pos z]
        exact entsO_full L _ (by simp; omega) (by simp; omega)
      · rw [if_neg z]
        by_cases f : FitQ (w.1.1, w.1.2 ++ [x])
        · rw [momO_y f]
          exact entsO_full L _ (by simp; omega) (by simp; omega)
        · rw [momO_n f]
          rfl
    · rw [entO, if_neg q]
      rfl
/-! bounds -/
def RpN (c : Nat) (rp : Rp) : Prop := rp.1 0 ≤ c ∧ rp.1 1 ≤ 4096 * rp.1 0 ∧ rp.1 2 ≤ 4096 * rp.1 0 ∧ rp.1 6 ≤ 4096 ∧ rp.1 3 ≤ c ∧ rp.1 4 ≤ c ∧ rp.1 5 ≤ c ∧ rp.2.length = min (rp.1 2) 50
theorem RpN.b {c : Nat} {rp : Rp} (h : RpN c rp) (hc : c ≤ 1000) : RpB rp := by
  obtain ⟨h0, h1, h2, h6, h3, h4, h5, -⟩ := h
  exact ⟨by omega, h1, h2, h6, by omega, by omega, by omega⟩
theorem RpN.mono {c c' : Nat} {rp : Rp} (h : RpN c rp) (hc : c ≤ c') : RpN c' rp := by
  obtain ⟨h0, h1, h2, h6, h3, h4, h5, h7⟩ := h
  exact ⟨by omega, h1, h2, h6, by omega, by omega, by omega, h7⟩
theorem RpN.tk3 {c : Nat} {rp : Rp} (h : RpN c rp) (j : Nat) (hj : j = 3 ∨ j = 4 ∨ j = 5) : RpN (c + 1) (tk rp j) := by
  obtain ⟨h0, h1, h2, h6, h3, h4, h5, h7⟩ := h
  rcases hj with rfl | rfl | rfl <;> (refine ⟨?_, ?_, ?_, ?_, ?_, ?_, ?_, ?_⟩ <;> simp only [tk, tu, reduceIte, Nat.reduceEqDiff] <;> omega)
theorem tk_0 (rp : Rp) (j i : Nat) (h : i ≠ j) : (tk rp j).1 i = rp.1 i := by simp [tk, tu, h]
theorem momF_len (A : List Ac) (f : Nat → Nat → Int32) (st : Nat) (sp : Nat → Int32) (su be : Nat) (rp : Rp) (h : rp.2.length = min (rp.1 2) 50) : ∀ i, (momF A f st sp su be rp i).2.length = min ((momF A f st sp su be rp i).1 2) 50
  | 0 => h
  | i + 1 => by
    have ih := momF_len A f st sp su be rp h i
    by_cases q : rgtP A (camQ (f i) st sp) su be
    · rw [momF, if_pos q]
      exact ih
    · rw [momF, if_neg q, addBad_2]
      unfold addBad
      dsimp only
      split
      · rw [List.length_append, List.length_singleton]
        omega
      · omega
/-- a moment adds one to tally 0, and to 3, 4, 5 nothing; tally 2 does not sink -/
theorem momP_N {A : List Ac} {q : Qd} {st : Nat} {sp : Nat → Int32} {su be : Nat} {rp : Rp} {c : Nat} (hq : FitQ q) (h : RpN (c + 1) rp) (h0 : rp.1 0 ≤ c) : RpN (c + 1) (momP A q st sp su be rp) := by
  obtain ⟨b0, b1, b2, b6, b3, b4, b5, b7⟩ := h
  obtain ⟨t1, t2, t3⟩ := momF_t A (fSt q) st sp su be rp (nSt q)
  have hN := hq.enu.2
  have e0 := t1 0 (by decide)
  have e1 := t1 1 (by decide)
  have e3 := t1 3 (by decide)
  have e4 := t1 4 (by decide)
  have e5 := t1 5 (by decide)
  have e6 := t1 6 (by decide)
  have hl := momF_len A (fSt q) st sp su be rp b7 (nSt q)
  unfold momP momE
  refine ⟨?_, ?_, ?_, ?_, ?_, ?_, ?_, ?_⟩ <;> simp only [tu, reduceIte, Nat.reduceEqDiff, e0, e1, e3, e4, e5, e6] <;> omega
theorem momP_2 (A : List Ac) (q : Qd) (st : Nat) (sp : Nat → Int32) (su be : Nat) (rp : Rp) : rp.1 2 ≤ (momP A q st sp su be rp).1 2 := by
  have := (momF_t A (fSt q) st sp su be rp (nSt q)).2.2
  unfold momP momE
  simp only [tu, reduceIte, Nat.reduceEqDiff]
  exact this
theorem entO_N {A : List Ac} {st : Nat} {sp : Nat → Int32} {su be : Nat} {w w' : Ws} {x : En} {c : Nat} (h : RpN c w.2) (e : entO A st sp su be w x = some w') : RpN (c + 1) w'.2 ∧ w.2.1 2 ≤ w'.2.1 2 ∧ w'.1 = (w.1.1, w.1.2 ++ [x]) ∧ w.1.2.length < 60 := by
  unfold entO at e
  split at e
  · rename_i q
    split at e
    · cases e
      exact ⟨h.tk3 4 (by decide), Nat.le_of_eq (tk_0 _ 4 2 (by decide)).symm, rfl, q⟩
    · by_cases f : FitQ (w.1.1, w.1.2 ++ [x])
      · rw [momO_y f] at e
        cases e
        refine ⟨momP_N f (h.tk3 3 (by decide)) (by rw [tk_0 _ 3 0 (by decide)]; exact h.1), ?_, rfl, q⟩
        exact Nat.le_trans (Nat.le_of_eq (tk_0 _ 3 2 (by decide)).symm) (momP_2 _ _ _ _ _ _ _)
      · rw [momO_n f] at e
        cases e
  · cases e
theorem entsO_N {A : List Ac} {st : Nat} {sp : Nat → Int32} {su be : Nat} : ∀ (L : List En) (w w' : Ws) (c : Nat), RpN c w.2 → entsO A st sp su be L w = some w' → RpN (c + L.length) w'.2 ∧ w.2.1 2 ≤ w'.2.1 2
  | [], w, w', c, h, e => by
    cases e
    exact ⟨h, Nat.le_refl _⟩
  | x :: L, w, w', c, h, e => by
    rw [entsO] at e
    match z : entO A st sp su be w x with
    | none => rw [z] at e; cases e
    | some w1 =>
      rw [z] at e
      obtain ⟨h1, h2, -⟩ := entO_N h z
      obtain ⟨h3, h4⟩ := entsO_N L w1 w' (c + 1) h1 e
      refine ⟨?_, by omega⟩
      rw [List.length_cons, show c + (L.length + 1) = c + 1 + L.length by omega]
      exact h3
theorem actO_N {A : List Ac} {st : Nat} {sp : Nat → Int32} {n su su' : Nat} {a : Ac} {w w' : Ws} {c : Nat} (h : RpN c w.2) (e : actO A st sp n a su w = some (su', w')) : RpN (c + 11) w'.2 ∧ w.2.1 2 ≤ w'.2.1 2 := by
  unfold actO at e
  split at e
  · by_cases f : FitQ (flQ w.1, [])
    · rw [momO_y f] at e
      cases e
      refine ⟨(momP_N f (h.tk3 5 (by decide)) (by rw [tk_0 _ 5 0 (by decide)]; exact h.1)).mono (by omega), ?_⟩
      exact Nat.le_trans (Nat.le_of_eq (tk_0 _ 5 2 (by decide)).symm) (momP_2 _ _ _ _ _ _ _)
    · rw [momO_n f] at e
      cases e
  · match z : entsO A st sp su (n + 1) (actL st sp a w.1) w with
    | none => rw [z] at e; cases e
    | some w1 =>
      rw [z] at e
      cases e
      obtain ⟨h1, h2⟩ := entsO_N _ _ _ _ h z
      exact ⟨h1.mono (by have := actL_len st sp a w.1; omega), h2⟩
theorem goO_N {A : List Ac} {st : Nat} {sp : Nat → Int32} : ∀ (n su : Nat) (w : Ws), goO A st sp n = some (su, w) → RpN (1 + 11 * n) w.2
  | 0, su, w, e => by
    rw [goO] at e
    by_cases f : FitQ (fmtQ st, [])
    · rw [momO_y f] at e
      cases e
      exact momP_N f ⟨by simp, by simp, by simp, by simp, by simp, by simp, by simp, by simp⟩ (by simp)
    · rw [momO_n f] at e
      cases e
  | n + 1, su, w, e => by
    rw [goO] at e
    match z : goO A st sp n with
    | none => rw [z] at e; cases e
    | some (su1, w1) =>
      rw [z] at e
      have h1 := goO_N n su1 w1 z
      match y : A[n]? with
      | none => rw [y] at e; cases e
      | some a =>
        rw [y] at e
        have h2 := (actO_N h1 e).1
        rw [show 1 + 11 * (n + 1) = 1 + 11 * n + 11 by omega]
        exact h2
theorem goO_mono {A : List Ac} {st : Nat} {sp : Nat → Int32} : ∀ (t n su su' : Nat) (w w' : Ws), goO A st sp n = some (su, w) → goO A st sp (n + t) = some (su', w') → w.2.1 2 ≤ w'.2.1 2
  | 0, n, su, su', w, w', e, e' => by
    rw [Nat.add_zero, e] at e'
    cases e'
    exact Nat.le_refl _
  | t + 1, n, su, su', w, w', e, e' => by
    rw [show n + (t + 1) = n + t + 1 by omega, goO] at e'
    match z : goO A st sp (n + t) with
    | none => rw [z] at e'; cases e'
    | some (su1, w1) =>
      rw [z] at e'
      have h1 := goO_mono t n su su1 w w1 e z
      match y : A[n + t]? with
      | none => rw [y] at e'; cases e'
      | some a =>
        rw [y] at e'
        exact Nat.le_trans h1 (actO_N (goO_N _ _ _ z) e').2
theorem goO_none {A : List Ac} {st : Nat} {sp : Nat → Int32} : ∀ (t n : Nat), goO A st sp n = none → goO A st sp (n + t) = none
  | 0, n, e => e
  | t + 1, n, e => by
    rw [show n + (t + 1) = n + t + 1 by omega, goO, goO_none t n e]
    rfl
/-! frames: what an act keeps (KB), what a going through keeps (KG) -/
def KB (g g' : GH) : Prop := (∀ a, a ∉ [77, 78, 79, 80, 81, 84, 85, 86, 87, 88, 89, 90, 91, 92, 98, 100] → gA g' a = gA g a) ∧ (∀ a k, ¬ (a = 76 ∧ (k = 11 ∨ k = 21)) → gF g' a k = gF g a k) ∧ (∀ a, a ≠ 102 → gL g' a = gL g a) ∧ (∀ p, p < 32 → gA g' 77 p = gA g 77 p) ∧ (∀ k, k < 60 → gA g' 78 k = gA g 78 k ∧ gA g' 79 k = gA g 79 k ∧ gA g' 80 k = gA g 80 k) ∧ gA g' 81 0 = gA g 81 0
theorem KB.rf (g : GH) : KB g g := ⟨fun _ _ => rfl, fun _ _ _ => rfl, fun _ _ => rfl, fun _ _ => rfl, fun _ _ => ⟨rfl, rfl, rfl⟩, rfl⟩
theorem KB.tr {g g' g'' : GH} (h : KB g g') (h' : KB g' g'') : KB g g'' := ⟨fun a ha => (h'.1 a ha).trans (h.1 a ha), fun a k ha => (h'.2.1 a k ha).trans (h.2.1 a k ha), fun a ha => (h'.2.2.1 a ha).trans (h.2.2.1 a ha), fun p hp => (h'.2.2.2.1 p hp).trans (h.2.2.2.1 p hp), fun k hk => ⟨(h'.2.2.2.2.1 k hk).1.trans (h.2.2.2.2.1 k hk).1, (h'.2.2.2.2.1 k hk).2.1.trans (h.2.2.2.2.1 k hk).2.1, (h'.2.2.2.2.1 k hk).2.2.trans (h.2.2.2.2.1 k hk).2.2⟩, h'.2.2.2.2.2.trans h.2.2.2.2.2⟩
theorem KM.kb {g g' : GH} (h : KM g g') : KB g g' := ⟨h.1, h.2.1, h.2.2.1, fun p hp => h.2.2.2.1 p (by omega), fun k hk => h.2.2.2.2.1 k (by omega), h.2.2.2.2.2 0 (by decide)⟩
theorem KB.psh (g : GH) (s a b : Int32) (n : Nat) : KB g (pushG g 1 s a b n) := by
  refine ⟨fun c hc => ?_, fun c k h => ?_, fun _ _ => rfl, fun p hp => rfl, fun k hk => ?_, ?_⟩
  · have h : c ≠ 78 ∧ c ≠ 79 ∧ c ≠ 80 ∧ c ≠ 81 := by
      refine ⟨?_, ?_, ?_, ?_⟩ <;> (rintro rfl; exact hc (by decide))
    simp [pushG, gA_pF, gA_pA, h.1, h.2.1, h.2.2.1, h.2.2.2]
  · simp only [pushG, gF_pF, gF_pA]
    split
    · rename_i e
      rw [e.1, e.2, if_neg (by omega), add_n0]
    · rfl
  · simp only [pushG, gA_pF, gA_pA, reduceIte, Nat.reduceEqDiff, upd]
    rw [if_neg (by omega), if_neg (by omega), if_neg (by omega)]
    exact ⟨rfl, rfl, rfl⟩
  · simp only [pushG, gA_pF, gA_pA, reduceIte, upd]
    rw [if_neg (by omega)]
theorem KB.pl (g : GH) (L : List En) : KB g (plA g L) := (KL.pl g L).km.kb
theorem KB.a98 (g : GH) (f : Nat → Int32) : KB g (pA g 98 f) := (KL.big f (by decide)).km.kb
theorem KB.fl {g : GH} {n : Nat} (hs : ∀ k, k < n → gA g 78 (60 * 1 + k) = -1 ∨ ∃ s, s < 16 ∧ gA g 78 (60 * 1 + k) = nI s) : KB g (flG g 1 n) := by
  refine ⟨fun c hc => ?_, fun _ _ _ => rfl, fun _ _ => rfl, fun p hp => ?_, fun k hk => ⟨rfl, rfl, rfl⟩, ?_⟩
  · have h : c ≠ 77 ∧ c ≠ 81 := by
      refine ⟨?_, ?_⟩ <;> (rintro rfl; exact hc (by decide))
    simp [flG, gA_pA, h.1, h.2]
  · simp only [flG, gA_pA, reduceIte, Nat.reduceEqDiff]
    exact flP_out n hs p (by omega)
  · simp [flG, gA_pA, upd]
def KG (g g' : GH) : Prop := (∀ a, a ∉ [77, 78, 79, 80, 81, 84, 85, 86, 87, 88, 89, 90, 91, 92, 98, 100, 103, 104, 105] → gA g' a = gA g a) ∧ (∀ a k, ¬ (a = 76 ∧ (k = 11 ∨ k = 21 ∨ k = 32 ∨ k = 33)) → gF g' a k = gF g a k) ∧ (∀ a, a ≠ 97 → a ≠ 102 → gL g' a = gL g a) ∧ (∀ p, p < 32 → gA g' 77 p = gA g 77 p) ∧ (∀ k, k < 60 → gA g' 78 k = gA g 78 k ∧ gA g' 79 k = gA g 79 k ∧ gA g' 80 k = gA g 80 k) ∧ gA g' 81 0 = gA g 81 0
theorem KG.rf (g : GH) : KG g g := ⟨fun _ _ => rfl, fun _ _ _ => rfl, fun _ _ _ => rfl, fun _ _ => rfl, fun _ _ => ⟨rfl, rfl, rfl⟩, rfl⟩
theorem KG.tr {g g' g'' : GH} (h : KG g g') (h' : KG g' g'') : KG g g'' := ⟨fun a ha => (h'.1 a ha).trans (h.1 a ha), fun a k ha => (h'.2.1 a k ha).trans (h.2.1 a k ha), fun a ha hb => (h'.2.2.1 a ha hb).trans (h.2.2.1 a ha hb), fun p hp => (h'.2.2.2.1 p hp).trans (h.2.2.2.1 p hp), fun k hk => ⟨(h'.2.2.2.2.1 k hk).1.trans (h.2.2.2.2.1 k hk).1, (h'.2.2.2.2.1 k hk).2.1.trans (h.2.2.2.2.1 k hk).2.1, (h'.2.2.2.2.1 k hk).2.2.trans (h.2.2.2.2.1 k hk).2.2⟩, h'.2.2.2.2.2.trans h.2.2.2.2.2⟩
theorem KB.kg {g g' : GH} (h : KB g g') : KG g g' := ⟨fun a ha => h.1 a (fun z => ha (by
    simp only [List.mem_cons, List.not_mem_nil, or_false] at z ⊢
    rcases z with rfl | rfl | rfl | rfl | rfl | rfl | rfl | rfl | rfl | rfl | rfl | rfl | rfl | rfl | rfl | rfl <;> simp)), fun a k ha => h.2.1 a k (fun z => ha ⟨z.1, by omega⟩), fun a _ hb => h.2.2.1 a hb, h.2.2.2⟩
theorem KG.f32 (g : GH) (x : Int32) : KG g (pF g 76 32 x) := ⟨fun _ _ => rfl, fun a k h => by rw [gF_pF, if_neg (fun z => h ⟨z.1, by omega⟩)], fun _ _ _ => rfl, fun _ _ => rfl, fun _ _ => ⟨rfl, rfl, rfl⟩, rfl⟩
theorem KG.f33 (g : GH) (x : Int32) : KG g (pF g 76 33 x) := ⟨fun _ _ => rfl, fun a k h => by rw [gF_pF, if_neg (fun z => h ⟨z.1, by omega⟩)], fun _ _ _ => rfl, fun _ _ => rfl, fun _ _ => ⟨rfl, rfl, rfl⟩, rfl⟩
theorem KG.l97 (g : GH) (f : Nat → Int64) : KG g (pL g 97 f) := ⟨fun _ _ => rfl, fun _ _ _ => rfl, fun a h _ => by rw [gL_pL, if_neg h], fun _ _ => rfl, fun _ _ => ⟨rfl, rfl, rfl⟩, rfl⟩
/-- the held rows alone have changed -/
def HK (g g' : GH) : Prop := (∀ a, a ≠ 103 → a ≠ 104 → a ≠ 105 → gA g' a = gA g a) ∧ (∀ a k, gF g' a k = gF g a k) ∧ (∀ a, gL g' a = gL g a)
theorem HK.kg {g g' : GH} (h : HK g g') : KG g g' := by
  refine ⟨fun a ha => h.1 a ?_ ?_ ?_, fun a k _ => h.2.1 a k, fun a _ _ => h.2.2 a, fun p _ => by rw [h.1 77 (by decide) (by decide) (by decide)], fun k _ => ?_, by rw [h.1 81 (by decide) (by decide) (by decide)]⟩
  · rintro rfl; exact ha (by decide)
  · rintro rfl; exact ha (by decide)
  · rintro rfl; exact ha (by decide)
  · rw [h.1 78 (by decide) (by decide) (by decide), h.1 79 (by decide) (by decide) (by decide), h.1 80 (by decide) (by decide) (by decide)]
    exact ⟨rfl, rfl, rfl⟩
theorem MD.keep {g g' : GH} {d : Nat} {q : Qd} (h : MD g d q) (e7 : gA g' 77 = gA g 77) (e8 : gA g' 78 = gA g 78) (e9 : gA g' 79 = gA g 79) (e80 : gA g' 80 = gA g 80) (e81 : gA g' 81 = gA g 81) : MD g' d q := by
  unfold MD at h ⊢
  rw [e7, e8, e9, e80, e81]
  exact h
theorem RpM.tick {g : GH} {rp : Rp} (h : RpM g rp) (j : Nat) (hj : j ≠ 2) : RpM (pA g 98 (upd (gA g 98) j (nI (rp.1 j + 1)))) (tk rp j) := by
  obtain ⟨h1, h2, h3⟩ := h
  refine ⟨fun i hi => ?_, ?_, h3⟩
  · rw [gA_pA, if_pos rfl]
    simp only [upd, tk, tu]
    split
    · rfl
    · exact h1 i hi
  · show rp.2.length = min ((tk rp j).1 2) 50
    rw [tk_0 _ _ _ (fun z => hj z.symm)]
    exact h2
