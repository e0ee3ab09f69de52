/-! what is spared, as bits -/
theorem bt_or : ∀ m f, m < 16 → f < 4 → nI m ||| (nI 1 <<< (nI f &&& 31)) = nI (m ||| 1 <<< f) ∧ (m ||| 1 <<< f) < 16 := by
  have : ∀ m : Fin 16, ∀ f : Fin 4, nI m.1 ||| (nI 1 <<< (nI f.1 &&& 31)) = nI (m.1 ||| 1 <<< f.1) ∧ (m.1 ||| 1 <<< f.1) < 16 := by decide +kernel
  intro m f hm hf
  exact this ⟨m, hm⟩ ⟨f, hf⟩
theorem bt_t : ∀ m f f', m < 16 → f < 4 → f' < 4 → (m ||| 1 <<< f).testBit f' = (if f' = f then true else m.testBit f') := by
  have : ∀ m : Fin 16, ∀ f f' : Fin 4, (m.1 ||| 1 <<< f.1).testBit f'.1 = (if f'.1 = f.1 then true else m.1.testBit f'.1) := by decide +kernel
  intro m f f' hm hf hf'
  exact this ⟨m, hm⟩ ⟨f, hf⟩ ⟨f', hf'⟩
theorem bt_mod : ∀ m f, m < 16 → f < 4 → nI (m % 2 ^ f) ||| (if m.testBit f = true then nI 1 <<< (nI f &&& 31) else nI 0) = nI (m % 2 ^ (f + 1)) := by
  have : ∀ m : Fin 16, ∀ f : Fin 4, nI (m.1 % 2 ^ f.1) ||| (if m.1.testBit f.1 = true then nI 1 <<< (nI f.1 &&& 31) else nI 0) = nI (m.1 % 2 ^ (f.1 + 1)) := by decide +kernel
  intro m f hm hf
  exact this ⟨m, hm⟩ ⟨f, hf⟩
theorem bt_at : ∀ m f, m < 16 → f < 4 → (nI m >>> (nI f &&& 31)) &&& nI 1 = bI (m.testBit f) := by
  have : ∀ m : Fin 16, ∀ f : Fin 4, (nI m.1 >>> (nI f.1 &&& 31)) &&& nI 1 = bI (m.1.testBit f.1) := by decide +kernel
  intro m f hm hf
  exact this ⟨m, hm⟩ ⟨f, hf⟩
theorem bt_no : ∀ m f, m < 2 ^ f → f < 4 → m.testBit f = false := fun m f h _ => Nat.testBit_lt_two_pow h
/-- the reference's row of spared fences has the bits m for the store -/
def SpM (sp : Nat → Int32) (st m : Nat) : Prop := ∀ f, f < 4 → sp (4 * st + f) = bI (m.testBit f)
def spB (st m : Nat) : Nat → Int32 := fun i => bI (m.testBit (i - 4 * st))
theorem SpM.own (st m : Nat) : SpM (spB st m) st m := fun f hf => by
  unfold spB
  rw [show 4 * st + f - 4 * st = f by omega]
theorem fnc_sp {sp sp' : Nat → Int32} {i : Nat} (h : sp i = sp' i) : fnc sp i = fnc sp' i := by unfold fnc; rw [h]
theorem chgQ_sp {q : Qd} {st : Nat} {sp sp' : Nat → Int32} (hst : st < 3) (h : ∀ f, f < 4 → sp (4 * st + f) = sp' (4 * st + f)) (k : Nat) (v : Int64) (lw : Option Nat) : chgQ q st sp k v lw = chgQ q st sp' k v lw := by
  unfold chgQ chg
  match st, hst with
  | 0, _ => rfl
  | 1, _ =>
    unfold ch1
    rw [fnc_sp (h 0 (by decide)), fnc_sp (h 1 (by decide)), fnc_sp (h 2 (by decide)), fnc_sp (h 3 (by decide))]
    rfl
  | 2, _ =>
    unfold ch2
    rw [fnc_sp (h 0 (by decide)), fnc_sp (h 1 (by decide))]
    rfl
theorem risQ_sp {F : Nat → Int32} {st : Nat} {sp sp' : Nat → Int32} (h : ∀ f, f < 4 → sp (4 * st + f) = sp' (4 * st + f)) : risQ F st sp = risQ F st sp' := by
  unfold risQ risL
  by_cases e : st = 1
  · subst e
    rw [if_pos rfl, if_pos rfl]
    unfold ris1
    rw [fnc_sp (h 2 (by decide)), fnc_sp (h 3 (by decide))]
  · rw [if_neg e, if_neg e]
theorem camQ_sp {F : Nat → Int32} {st : Nat} {sp sp' : Nat → Int32} (h : ∀ f, f < 4 → sp (4 * st + f) = sp' (4 * st + f)) : camQ F st sp = camQ F st sp' := by
  funext k
  unfold camQ
  rw [risQ_sp h]
theorem momO_sp {A : List Ac} {st : Nat} {sp sp' : Nat → Int32} (h : ∀ f, f < 4 → sp (4 * st + f) = sp' (4 * st + f)) (su be : Nat) (q : Qd) (rp : Rp) : momO A st sp su be q rp = momO A st sp' su be q rp := by
  have h1 : ∀ i, momF A (fSt q) st sp su be rp i = momF A (fSt q) st sp' su be rp i := by
    intro i
    induction i with
    | zero => rfl
    | succ i ih => rw [momF, momF, ih, camQ_sp h]
  unfold momO momP
  rw [h1]
theorem entsO_sp {A : List Ac} {st : Nat} {sp sp' : Nat → Int32} (h : ∀ f, f < 4 → sp (4 * st + f) = sp' (4 * st + f)) (su be : Nat) : ∀ (L : List En) (w : Ws), entsO A st sp su be L w = entsO A st sp' su be L w
  | [], _ => rfl
  | x :: L, w => by
    have e : entO A st sp su be w x = entO A st sp' su be w x := by
      unfold entO
      rw [momO_sp h]
    have e2 : entsO A st sp su be L = entsO A st sp' su be L := funext (entsO_sp h su be L)
    rw [entsO, entsO, e, e2]
theorem goO_sp {A : List Ac} {st : Nat} {sp sp' : Nat → Int32} (hst : st < 3) (h : ∀ f, f < 4 → sp (4 * st + f) = sp' (4 * st + f)) : ∀ n, goO A st sp n = goO A st sp' n
  | 0 => by rw [goO, goO, momO_sp h]
  | n + 1 => by
    have e : ∀ n a su w, actO A st sp n a su w = actO A st sp' n a su w := by
      intro n a su w
      unfold actO actL
      rw [momO_sp h, chgQ_sp hst h, chgQ_sp hst h, entsO_sp h]
    rw [goO, goO, goO_sp hst h n]
    congr 1
    funext s
    congr 1
    funext a
    exact e _ _ _ _
noncomputable def walkM (A : List Ac) (st m : Nat) : Option Rp := walkO A st (spB st m)
theorem walkM_of {A : List Ac} {st m : Nat} {sp : Nat → Int32} (hst : st < 3) (h : SpM sp st m) : walkO A st sp = walkM A st m := by
  unfold walkM walkO
  rw [goO_sp hst (fun f hf => (h f hf).trans (SpM.own st m f hf).symm)]
def goodM (A : List Ac) (st m : Nat) : Prop := ∃ rp, walkM A st m = some rp ∧ rp.1 2 = 0
noncomputable def lstW (A : List Ac) (st : Nat) : Nat → Nat × Nat
  | 0 => (0, 0)
  | f + 1 => @ite _ (goodM A st ((lstW A st f).1 ||| 1 <<< f)) (Classical.propDecidable _) ((lstW A st f).1 ||| 1 <<< f, (lstW A st f).2) ((lstW A st f).1, (lstW A st f).2 ||| 1 <<< f)
theorem lstW_y {A : List Ac} {st f : Nat} (h : goodM A st ((lstW A st f).1 ||| 1 <<< f)) : lstW A st (f + 1) = ((lstW A st f).1 ||| 1 <<< f, (lstW A st f).2) := if_pos h
theorem lstW_n {A : List Ac} {st f : Nat} (h : ¬ goodM A st ((lstW A st f).1 ||| 1 <<< f)) : lstW A st (f + 1) = ((lstW A st f).1, (lstW A st f).2 ||| 1 <<< f) := if_neg h
theorem lstW_lt (A : List Ac) (st : Nat) : ∀ f, f ≤ 4 → (lstW A st f).1 < 16 ∧ (lstW A st f).2 < 16 ∧ (lstW A st f).1 < 2 ^ f
  | 0, _ => ⟨show 0 < 16 by decide, show 0 < 16 by decide, show 0 < 2 ^ 0 by decide⟩
  | f + 1, h => by
    obtain ⟨h1, h2, h3⟩ := lstW_lt A st f (by omega)
    have h4 : (lstW A st f).1 ||| 1 <<< f < 2 ^ (f + 1) := by
      apply Nat.or_lt_two_pow
      · rw [Nat.pow_succ]; omega
      · rw [Nat.shiftLeft_eq, Nat.pow_succ]
        have := Nat.two_pow_pos f
        omega
    by_cases g : goodM A st ((lstW A st f).1 ||| 1 <<< f)
    · rw [lstW_y g]
      exact ⟨(bt_or _ f h1 (by omega)).2, h2, h4⟩
    · rw [lstW_n g]
      refine ⟨h1, (bt_or _ f h2 (by omega)).2, ?_⟩
      rw [Nat.pow_succ]
      omega
def fnN (st : Nat) : Nat := if st = 1 then 4 else if st = 2 then 2 else 0
theorem fnN_le (st : Nat) : fnN st ≤ 4 := by unfold fnN; split <;> (try split) <;> omega
/-- as KG, but for the row of spared fences -/
def K8 (g g' : GH) : Prop := KG (pA g 82 (gA g' 82)) g'
theorem K8.rf (g : GH) : K8 g g := by
  unfold K8
  rw [pA_self]
  exact KG.rf g
theorem K8.kg {g g' g'' : GH} (h : K8 g g') (k : KG g' g'') : K8 g g'' := by
  unfold K8 at h ⊢
  rw [k.1 82 (by decide)]
  exact h.tr k
theorem K8.st {g g' : GH} (h : K8 g g') (f : Nat → Int32) : K8 g (pA g' 82 f) := by
  unfold K8 at h ⊢
  obtain ⟨h1, h2, h3, h4, h5, h6⟩ := h
  refine ⟨fun a ha => ?_, h2, h3, h4, h5, h6⟩
  simp only [gA_pA]
  by_cases e : a = 82
  · rw [if_pos e, if_pos trivial, if_pos e]
  · rw [if_neg e, if_neg e]
    have := h1 a ha
    rw [gA_pA, if_neg e] at this
    exact this
theorem K8.of {g g' : GH} (h : K8 g g') (e : gA g' 82 = gA g 82) : KG g g' := by
  unfold K8 at h
  rw [e, pA_self] at h
  exact h
theorem K8.msc {g g' : GH} {A : List Ac} (h : K8 g g') (hA : MSc g A) : MSc g' A := MSc.kg (g := pA g 82 (gA g' 82)) hA h
