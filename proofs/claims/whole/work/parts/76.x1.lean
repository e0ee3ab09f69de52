theorem y_through {y : Sy} (h : Yok y) (hA : (yA y).length ≤ 8) (x : Int32) : Yok (oThrough y x).2 := by
  unfold oThrough
  split
  · split
    · exact h
    · rename_i rp e
      refine ⟨h.1, h.2.1, ?_⟩
      show RpN 900 rp
      unfold walkM walkO at e
      rw [Option.map_eq_some_iff] at e
      obtain ⟨⟨su, w⟩, e1, rfl⟩ := e
      exact (goO_N _ _ _ e1).mono (by omega)
  · exact h
/-! THROWS: what is known for them -/
abbrev eI : String := "java/lang/IndexOutOfBoundsException"
abbrev eS : String := "java/lang/IllegalStateException"
abbrev nmE : List String := ["java/lang/RuntimeException", "java/lang/Exception"]
def Tx (A : Nat → Prop) (U : State) (H : Heap) : Prop :=
  (vx_Zq Bundle.tN "UNASSIGNED_STACK" Bundle.steD A U H ∧ vx_Zq Bundle.tN "SUPPRESSED_SENTINEL" Bundle.listD A U H) ∧
  (va_Nw (.castable eI eI) U ∧ va_Nw (.castable eS eS) U ∧ va_Nc eI eS U) ∧
  (∃ a, vk_R RX10 106 "no such PART" a U) ∧ (∃ a, vk_R RX10 136 "no such STATE" a U) ∧ (∃ a, vk_R RX10 189 "no such KEY" a U) ∧ ∃ a, vk_R RX10 186 "no store" a U
theorem Tx.warm {A : Nat → Prop} {s U : State} {H : Heap} (hW : s.WarmedH U.vm) (h : Tx A s H) : Tx A U H := by
  obtain ⟨⟨h1, h2⟩, ⟨h3, h4, h5⟩, ⟨a, h6⟩, ⟨b, h7⟩, ⟨c, h8⟩, ⟨d, h9⟩⟩ := h
  exact ⟨⟨vx_Zq.moved hW.alike h1, vx_Zq.moved hW.alike h2⟩, ⟨va_Nw.warmC hW h3, va_Nw.warmC hW h4, va_Nc.moved hW.alike h5⟩, ⟨a, vk_R.warm hW h6⟩, ⟨b, vk_R.warm hW h7⟩, ⟨c, vk_R.warm hW h8⟩, ⟨d, vk_R.warm hW h9⟩⟩
theorem Tx.same {A : Nat → Prop} {s U : State} {H : Heap} (hv : s.vm = U.vm) (h : Tx A s H) : Tx A U H := h.warm (by rw [← hv]; exact State.WarmedH.refl s)
theorem Tx.kept {A : Nat → Prop} {U : State} {H H1 : Heap} (h : Tx A U H) (hq : ∀ a : Nat, a < H.size → ¬ A a → H1[a]? = H[a]?) : Tx A U H1 := ⟨⟨h.1.1.kept hq, h.1.2.kept hq⟩, h.2⟩
theorem Tx.narrow {A B : Nat → Prop} {U : State} {H : Heap} (h : Tx A U H) (hAB : ∀ q, B q → A q) : Tx B U H := ⟨⟨h.1.1.narrow hAB, h.1.2.narrow hAB⟩, h.2⟩
def rmX (d : Nat) : Room := { frames := d, cells := 1, slots := 6, locals := 64 * d }
def WdX (D : va_G) (dA : Nat → ClassId) (ad : Nat → Nat) (S : sH) (g : GH) (sz : Nat) (U : State) : Prop := Wd D dA ad S g sz U ∧ Tx (va_A (sw dA ad (conc S g)) sz) U U.heap
def XB (D : va_G) (dA : Nat → ClassId) (ad : Nat → Nat) (S : sH) (g : GH) (sz : Nat) (Px : String → sH → GH → Prop) : String → (sH × GH) → State → Prop := fun E u t => Px E u.1 u.2 ∧ Bd D dA ad S g sz u t
theorem WdX.blind {D : va_G} {dA : Nat → ClassId} {ad : Nat → Nat} {S : sH} {g : GH} {sz : Nat} {vs : List Value} : FrameBlind (va_Pc (vs.map (sv ad)) (WdX D dA ad S g sz)) := fun _ U _ _ q => ⟨q.1, ⟨q.2.1.1, q.2.1.2.1, Kn.same (s := U) rfl q.2.1.2.2.1, q.2.1.2.2.2⟩, Tx.same (s := U) rfl q.2.2⟩
/-- a method that answers or throws -/
def XCi (M : Mi) (d : Nat) (S : sH) (g : GH) (vs : List Value) (Po : Int32 → sH → GH → Prop) (Px : String → sH → GH → Prop) : Prop := ∀ (l : Launch), l.stackTraces = false → ∀ (D : va_G) (dA : Nat → ClassId) (ad : Nat → Nat) (sz : Nat), vx_Met l (my M) (mws M) (rmX d) (va_Pc (vs.map (sv ad)) (WdX D dA ad S g sz)) (va_Qi (fun r (u : sH × GH) => Po r u.1 u.2) (Bd D dA ad S g sz) (va_A (sw dA ad (conc S g)) sz)) (vx_X (fun (_ : sH × GH) => True) (XB D dA ad S g sz Px) (va_A (sw dA ad (conc S g)) sz)) 1 6 (va_A (sw dA ad (conc S g)) sz)
def XCl (M : Mi) (d : Nat) (S : sH) (g : GH) (vs : List Value) (Po : Int64 → sH → GH → Prop) (Px : String → sH → GH → Prop) : Prop := ∀ (l : Launch), l.stackTraces = false → ∀ (D : va_G) (dA : Nat → ClassId) (ad : Nat → Nat) (sz : Nat), vx_Met l (my M) (mws M) (rmX d) (va_Pc (vs.map (sv ad)) (WdX D dA ad S g sz)) (va_Ql (fun r (u : sH × GH) => Po r u.1 u.2) (Bd D dA ad S g sz) (va_A (sw dA ad (conc S g)) sz)) (vx_X (fun (_ : sH × GH) => True) (XB D dA ad S g sz Px) (va_A (sw dA ad (conc S g)) sz)) 1 6 (va_A (sw dA ad (conc S g)) sz)
/-- a static method with a table, that only answers -/
abbrev hws (M : Mi) (hh : List (Nat × Nat × Nat × Nat)) : List Cond := Cond.codeWith (my M) (mcc M) (mnL M) (mret M) hh :: gW
def HCi (M : Mi) (hh : List (Nat × Nat × Nat × Nat)) (d : Nat) (S : sH) (g : GH) (vs : List Value) (Po : Int32 → sH → GH → Prop) : Prop := ∀ (l : Launch), l.stackTraces = false → ∀ (D : va_G) (dA : Nat → ClassId) (ad : Nat → Nat) (sz : Nat), vx_Met l (my M) (hws M hh) (rmX d) (va_Pc (vs.map (sv ad)) (WdX D dA ad S g sz)) (va_Qi (fun r (u : sH × GH) => Po r u.1 u.2) (Bd D dA ad S g sz) (va_A (sw dA ad (conc S g)) sz)) (vx_X (fun (_ : sH × GH) => False) (XB D dA ad S g sz (fun _ _ _ => False)) (va_A (sw dA ad (conc S g)) sz)) 1 6 (va_A (sw dA ad (conc S g)) sz)
/-! the words of a throw -/
theorem th_pl {L : List Cond} (is : List Nat) (h : L.map some = is.map (fun i => lw_tbl[i]?)) : ∀ w ∈ L, w ∈ lw_tbl := by
  intro w hw
  have h2 : some w ∈ L.map some := List.mem_map.mpr ⟨w, hw, rfl⟩
  rw [h, List.mem_map] at h2
  obtain ⟨i, -, hi⟩ := h2
  exact List.mem_of_getElem? hi
theorem th_hat {M : Mi} {X : Cx} (C : XOk M X) {E : String} {L : List Cond} (hL : ∀ w ∈ L, w ∈ lw_tbl) (hg : L.all (fun w => goodWord w || isN w || decide (w = .castable E E)) = true) (hc : va_Nw (.castable E E) (xs X)) : ∀ w ∈ L, w.before (xa X) (xs X) = true := by
  intro w hw
  have h1 := List.all_eq_true.mp hg w hw
  simp only [Bool.or_eq_true, decide_eq_true_iff] at h1
  rcases h1 with (h1 | h1) | h1
  · exact C.2.2.2.2.1 w (List.mem_filter.mpr ⟨hL w hw, h1⟩)
  · have h2 := C.2.2.2.2.2.2.2.2.1.2.1 w (List.mem_filter.mpr ⟨hL w hw, h1⟩)
    refine va_Nw.use ?_ h2
    cases w with
    | methodLinkNest => rfl
    | declares => rfl
    | _ => cases h1
  · subst h1
    exact va_Nw.use rfl hc
def plI : List Nat := [62, 866, 875, 878, 881, 883, 867, 868, 77, 78, 869, 874, 879, 899, 856, 900, 858, 901, 860, 870, 872, 862, 895, 896, 898, 862, 886, 887, 888, 889, 848, 889, 890, 891, 892, 850, 892, 893, 894, 895, 852, 885, 845, 846, 853, 854, 855, 857, 859, 861, 865, 864, 863]
def plS : List Nat := [62, 866, 875, 878, 881, 883, 867, 868, 77, 78, 869, 874, 879, 899, 856, 900, 858, 901, 860, 870, 872, 862, 895, 896, 898, 862, 945, 946, 947, 889, 848, 889, 890, 891, 892, 850, 892, 893, 894, 895, 852, 944, 935, 936, 937, 877, 938, 939, 940, 941, 865, 864, 942]
theorem th_I : (vx_atS RX10 108 eI nmE).map some = plI.map (fun i => lw_tbl[i]?) := by decide +kernel
theorem th_S : (vx_atS RX10 188 eS nmE).map some = plS.map (fun i => lw_tbl[i]?) := by decide +kernel
theorem th_gI : (vx_atS RX10 108 eI nmE).all (fun w => goodWord w || isN w || decide (w = .castable eI eI)) = true := by decide +kernel
theorem th_gS : (vx_atS RX10 188 eS nmE).all (fun w => goodWord w || isN w || decide (w = .castable eS eS)) = true := by decide +kernel
theorem th_oI : (Cond.classLink RX10 104 eI :: Cond.initialized eI :: vx_atS RX10 108 eI nmE).all vx_ot = true := by decide +kernel
theorem th_oS : (Cond.classLink RX10 184 eS :: Cond.initialized eS :: vx_atS RX10 188 eS nmE).all vx_ot = true := by decide +kernel
/-- 'throw new E("..")' of the class, at pc -/
def thA (M : Mi) (pc : Nat) (E : String) : Prop := mown M = RX10 ∧ ∃ ik is ic : Nat, (decode (mcc M) pc = .ok (.new ik, 3) ∧ decode (mcc M) (pc + 3) = .ok (.dup, 1) ∧ decode (mcc M) (pc + 4) = .ok (.ldc is, 2) ∧ decode (mcc M) (pc + 6) = .ok (.invokespecial ic, 3) ∧ decode (mcc M) (pc + 9) = .ok (.athrow, 1)) ∧ ((E = eI ∧ ik = 104 ∧ ic = 108 ∧ (is = 106 ∨ is = 136 ∨ is = 189)) ∨ (E = eS ∧ ik = 184 ∧ ic = 188 ∧ is = 186))
theorem th_go {M : Mi} {X : Cx} {A : Nat → Prop} {H : Heap} (C : XOk M X) (hT : Tx A (xs X) H) {E : String} {ik is ic : Nat} (h : (E = eI ∧ ik = 104 ∧ ic = 108 ∧ (is = 106 ∨ is = 136 ∨ is = 189)) ∨ (E = eS ∧ ik = 184 ∧ ic = 188 ∧ is = 186)) : Bundle.fit E = true ∧ (Cond.classLink RX10 ik E).before (xa X) (xs X) = true ∧ (Cond.initialized E).before (xa X) (xs X) = true ∧ (∃ tx a, vk_R RX10 is tx a (xs X)) ∧ (∀ w ∈ vx_atS RX10 ic E nmE, w.before (xa X) (xs X) = true) ∧ ∀ w ∈ Cond.classLink RX10 ik E :: Cond.initialized E :: vx_atS RX10 ic E nmE, vx_ot w = true := by
  rcases h with ⟨rfl, rfl, rfl, h⟩ | ⟨rfl, rfl, rfl, rfl⟩
  · refine ⟨by decide +kernel, C.2.2.2.2.1 _ (gW_in 844 (by decide +kernel) rfl), C.2.2.2.2.1 _ (gW_in 65 (by decide +kernel) rfl), ?_, th_hat C (th_pl plI th_I) th_gI hT.2.1.1, List.all_eq_true.mp th_oI⟩
    rcases h with rfl | rfl | rfl
    · exact ⟨_, hT.2.2.1⟩
    · exact ⟨_, hT.2.2.2.1⟩
    · exact ⟨_, hT.2.2.2.2.1⟩
  · exact ⟨by decide +kernel, C.2.2.2.2.1 _ (gW_in 934 (by decide +kernel) rfl), C.2.2.2.2.1 _ (gW_in 69 (by decide +kernel) rfl), ⟨_, hT.2.2.2.2.2⟩, th_hat C (th_pl plS th_S) th_gS hT.2.1.2.1, List.all_eq_true.mp th_oS⟩
