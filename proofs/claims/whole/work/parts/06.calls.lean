/-! CONTRACTS over stores, and calls -/
def rmD (d : Nat) : Room := { frames := d, cells := 0, slots := 0, locals := 64 * d }
def Wd (D : va_G) (dA : Nat → ClassId) (ad : Nat → Nat) (S : sH) (g : GH) (sz : Nat) (U : State) : Prop := U.heap.size = sz ∧ va_P D vwCl (sw dA ad (conc S g)) U.heap ∧ Kn D dA U ∧ va_D (fun _ => True) (sw dA ad (conc S g))
def Bd (D : va_G) (dA : Nat → ClassId) (ad : Nat → Nat) (S : sH) (g : GH) (sz : Nat) (u : sH × GH) (t : State) : Prop := u.1.1 = S.1 ∧ va_P D vwCl (sw dA ad (conc u.1 u.2)) t.heap ∧ va_D (va_A (sw dA ad (conc S g)) sz) (sw dA ad (conc u.1 u.2))
def ACi (M : Mi) (d : Nat) (S : sH) (g : GH) (vs : List Value) (Po : Int32 → sH → GH → Prop) : Prop := ∀ (l : Launch) (D : va_G) (dA : Nat → ClassId) (ad : Nat → Nat) (sz : Nat), Met l (my M) (mws M) (rmD d) (va_Pc (vs.map (sv ad)) (Wd D dA ad S g sz)) (va_Qi (fun r (u : sH × GH) => Po r u.1 u.2) (Bd D dA ad S g sz) (va_A (sw dA ad (conc S g)) sz)) 0 0 (va_A (sw dA ad (conc S g)) sz)
def ACl (M : Mi) (d : Nat) (S : sH) (g : GH) (vs : List Value) (Po : Int64 → sH → GH → Prop) : Prop := ∀ (l : Launch) (D : va_G) (dA : Nat → ClassId) (ad : Nat → Nat) (sz : Nat), Met l (my M) (mws M) (rmD d) (va_Pc (vs.map (sv ad)) (Wd D dA ad S g sz)) (va_Ql (fun r (u : sH × GH) => Po r u.1 u.2) (Bd D dA ad S g sz) (va_A (sw dA ad (conc S g)) sz)) 0 0 (va_A (sw dA ad (conc S g)) sz)
def ACv (M : Mi) (d : Nat) (S : sH) (g : GH) (vs : List Value) (Po : sH → GH → Prop) : Prop := ∀ (l : Launch) (D : va_G) (dA : Nat → ClassId) (ad : Nat → Nat) (sz : Nat), Met l (my M) (mws M) (rmD d) (va_Pc (vs.map (sv ad)) (Wd D dA ad S g sz)) (va_Qv (fun (u : sH × GH) => Po u.1 u.2) (Bd D dA ad S g sz) (va_A (sw dA ad (conc S g)) sz)) 0 0 (va_A (sw dA ad (conc S g)) sz)
theorem Wd.blind {D : va_G} {dA : Nat → ClassId} {ad : Nat → Nat} {S : sH} {g : GH} {sz : Nat} {vs : List Value} : FrameBlind (va_Pc (vs.map (sv ad)) (Wd D dA ad S g sz)) := fun _ U _ _ q => ⟨q.1, q.2.1, q.2.2.1, Kn.same (s := U) rfl q.2.2.2.1, q.2.2.2.2⟩
theorem sen_has (ad : Nat → Nat) (vs : List Value) {n : Nat} (hn : (lg_sl vs).length ≤ n) : lv_has ((lg_sl (vs.map (sv ad)) ++ List.replicate (n - (lg_sl (vs.map (sv ad))).length) Slot.unset).toArray) n (sl ad (sen n vs)) := by
  have hlen : ∀ vs : List Value, (lg_sl (vs.map (sv ad))).length = (lg_sl vs).length := by
    intro vs
    induction vs with
    | nil => rfl
    | cons v vs ih =>
      simp only [lg_sl, List.map_cons, List.flatMap_cons, List.length_append, sv_cat] at ih ⊢
      rw [ih]
      by_cases hc : v.category = 2 <;> simp [hc]
  have h1 := lv_entry (vs.map (sv ad)) (n := n) (by rw [hlen vs]; exact hn)
  refine ⟨h1.1, h1.2.1, fun q hq => ?_⟩
  obtain ⟨v, hv, hq2⟩ := sl_mem.mp hq
  have hs : (vs.flatMap fun v => if v.category = 2 then [some v, none] else [some v])[q.1]? = some (some v) := by
    unfold sen at hv
    by_cases hl : q.1 < (vs.flatMap fun v => if v.category = 2 then [some v, none] else [some v]).length
    · rw [List.getElem?_append_left hl] at hv
      exact hv
    · rw [List.getElem?_append_right (by omega)] at hv
      have := List.eq_of_mem_replicate (List.mem_of_getElem? hv)
      cases this
  have key : ∀ (vs : List Value) (i : Nat), (vs.flatMap fun v => if v.category = 2 then [some v, none] else [some v])[i]? = some (some v) → (lg_sl (vs.map (sv ad)))[i]? = some (.val (sv ad v)) := by
    intro vs
    induction vs with
    | nil => intro i h; simp at h
    | cons w vs ih =>
      intro i h
      simp only [List.flatMap_cons] at h
      simp only [lg_sl, List.map_cons, List.flatMap_cons, sv_cat]
      by_cases hc : w.category = 2
      · simp only [hc, if_true] at h ⊢
        match i, h with
        | 0, h =>
          simp at h
          subst h
          simp
        | 1, h => simp at h
        | i + 2, h =>
          have h2 : (vs.flatMap fun v => if v.category = 2 then [some v, none] else [some v])[i]? = some (some v) := by simpa using h
          simpa [lg_sl] using ih i h2
      · simp only [hc, if_false] at h ⊢
        match i, h with
        | 0, h =>
          simp at h
          subst h
          simp
        | i + 1, h =>
          have h2 : (vs.flatMap fun v => if v.category = 2 then [some v, none] else [some v])[i]? = some (some v) := by simpa using h
          simpa [lg_sl] using ih i h2
  have hk := key vs q.1 hs
  have hl : q.1 < (lg_sl (vs.map (sv ad))).length := (List.getElem?_eq_some_iff.mp hk).1
  rw [hq2, List.getElem?_toArray, List.getElem?_append_left hl]
  exact hk
def Fit (X : Cx) (M : Mi) (d k n : Nat) : Prop := (d + 1 ≤ (xR X).frames ∧ 8 + (mnL M + 11) + 64 * d ≤ (xR X).locals) ∧ k ≤ (xR X).cells ∧ n ≤ (xR X).slots
theorem fit_of {X : Cx} {M : Mi} {d e : Nat} (hR : xR X = rmD e) (h : d < e) (hL : Nat.ble (mnL M) 45 = true) : Fit X M d 0 0 := by
  have h2 := Nat.le_of_ble_eq_true hL
  unfold Fit
  rw [hR]
  exact ⟨⟨h, by show 8 + (mnL M + 11) + 64 * d ≤ 64 * e; omega⟩, Nat.zero_le _, Nat.zero_le _⟩
def LkC (M : Mi) (n : Nat) : Prop := Cond.code (my M) (mcc M) (mnL M) (mret M) ∈ gW ∧ (mown M ≠ "java/lang/invoke/MethodHandle" ∧ mown M ≠ "java/lang/invoke/VarHandle" ∧ (parseMethodDescriptor (mds M)).map (fun d => d.parameters.length) = some n) ∧ Cond.initialized (mown M) ∈ gW ∧ plainName (mown M) = true
def LkV (own : String) (idx : Nat) (M : Mi) : Prop := Cond.methodLink own idx (my M) ∈ gW ∧ Cond.instanceMethod (my M) ∈ gW ∧ Cond.selects (mown M) (my M) (my M) ∈ gW
def LkS (own : String) (idx : Nat) (M : Mi) : Prop := Cond.methodLink own idx (my M) ∈ gW ∧ Cond.static (my M) ∈ gW
def LkN (own : String) (idx : Nat) (M : Mi) : Prop := (∃ host : String, Cond.methodLinkNest own idx (my M) host ∈ nW) ∧ Cond.static (my M) ∈ gW
def LkU (own : String) (idx : Nat) (C : String) (M : Mi) (n : Nat) : Prop := ∃ (owner : String) (x : MethodName), Cond.methodLink own idx x ∈ gW ∧ Cond.sameMethod x.cls owner x.name x.desc ∈ gW ∧ Cond.selects C x (my M) ∈ gW ∧ Cond.instanceMethod (my M) ∈ gW ∧ (owner ≠ "java/lang/invoke/MethodHandle" ∧ owner ≠ "java/lang/invoke/VarHandle" ∧ (parseMethodDescriptor x.desc).map (fun d => d.parameters.length) = some n) ∧ (my M = ⟨owner, x.name, x.desc⟩ ∨ (∃ (b0 : ByteArray) (m0 : Nat) (r0 : Option FieldType), Cond.instanceMethod ⟨owner, x.name, x.desc⟩ ∈ gW ∧ Cond.code ⟨owner, x.name, x.desc⟩ b0 m0 r0 ∈ gW) ∨ Cond.declares ⟨owner, x.name, x.desc⟩ ∈ nW)
/-- an object of a class stands at a place -/
def isO (S : sH) (a ci : Nat) : Bool := Nat.blt a S.1 && (match S.2 a with
  | .inr x => Nat.beq x.1 ci
  | _ => false)
theorem isO_ok {S : sH} {g : GH} {a ci : Nat} (h : isO S a ci = true) : a < S.1 ∧ ∃ fs, (conc S g).2 a = .inr (ci, fs) := by
  simp only [isO, Bool.and_eq_true] at h
  obtain ⟨h1, h2⟩ := h
  refine ⟨blt_lt h1, ?_⟩
  split at h2
  · rename_i x hx
    have h3 := Nat.eq_of_beq_eq_true h2
    obtain ⟨c, sf⟩ := x
    simp only at h3
    subst h3
    refine ⟨cf (g.1 a) 0 sf, ?_⟩
    show cg g a (S.2 a) = _
    rw [hx]
    rfl
  · cases h2
section A6
variable {M : Mi} {X : Cx} {Q : State → Prop} {ad : Nat → Nat} {k n : Nat} {S : sH} {g : GH} {pc : Nat} {ls : List (Option Value)} {st : List Value}
theorem Rl.free {h : sH} {H : Heap} {locs : List Loc} {lc : Array Slot} (C : XOk M X) (r : Rl M X ad h ls H locs lc) : ∀ q, va_A (sw (xdA X) ad h) H.size q → xA X q := by
  intro q hq
  rcases hq with ⟨i, e, hi⟩ | hq
  · exact r.2.1.2 i (q, e) hi
  · exact C.2.2.2.2.2.2.2.2.2 q (Nat.le_trans r.2.2.1.1 hq)
theorem Rl.pre {vs : List Value} {H : Heap} {locs : List Loc} {lc : Array Slot} (C : XOk M X) (r : Rl M X ad (conc S g) ls H locs lc) : ∀ U : State, U.heap = H → (xs X).WarmedH U.vm → va_Pc (vs.map (sv ad)) (Wd (xD X) (xdA X) ad S g H.size) (vs.map (sv ad)).toArray U :=
  fun U hU hW => ⟨rfl, by rw [hU], by rw [hU]; exact r.1, Kn.warm hW C.2.2.2.2.2.2.2.2.1, r.2.1.weaken (fun _ _ _ _ => trivial)⟩
theorem rest_cat (st : List Value) (h : (st.map Value.category).sum ≤ 8) : ((st.map (sv ad)).map fun v => v.category).sum ≤ 8 := by
  rw [List.map_map]
  have : (fun v : Value => v.category) ∘ sv ad = Value.category := funext fun v => sv_cat ad v
  rw [this]
  exact h

theorem core_i {M' : Mi} {d' : Nat} {vs : List Value} {Po : Int32 → sH → GH → Prop} (c : ACi M' d' S g vs Po) {stk : List Value}
    (hrun : XOk M X → ∀ (H : Heap) (locs : List Loc) (lc : Array Slot), Rl M X ad (conc S g) ls H locs lc → Met (xl X) (my M') (mws M') (rmD d') (va_Pc (vs.map (sv ad)) (Wd (xD X) (xdA X) ad S g H.size)) (va_Qi (fun r (u : sH × GH) => Po r u.1 u.2) (Bd (xD X) (xdA X) ad S g H.size) (va_A (sw (xdA X) ad (conc S g)) H.size)) 0 0 (va_A (sw (xdA X) ad (conc S g)) H.size) →
      va_Run (xp X) (xl X) (xe X) (xR X) (xs X) (xm X) (xa X) (xb X) (xme X) (xc X) H locs k n 0 0 (F0 (xm X) pc lc (stk.map (sv ad))) (st.map (sv ad)) ((va_Qi (fun r (u : sH × GH) => Po r u.1 u.2) (Bd (xD X) (xdA X) ad S g H.size) (va_A (sw (xdA X) ad (conc S g)) H.size)) (vs.map (sv ad)).toArray) (va_A (sw (xdA X) ad (conc S g)) H.size))
    (kk : ∀ (r : Int32) (S' : sH) (g' : GH), S'.1 = S.1 → Po r S' g' → AW M X Q ad k n (conc S' g') (pc + 3) ls (.int r :: st)) : AW M X Q ad k n (conc S g) pc ls stk := by
  intro C H locs lc r
  have hF := Rl.free C r
  exact va_calli (hrun C H locs lc r (c (xl X) (xD X) (xdA X) ad H.size)) r.2.2.1 (fun q _ hq => hF q hq) hF (fun r1 u t H1 locs1 ht hvm hp hB hz hk hS => kk r1 u.1 u.2 hB.1 hp C H1 locs1 lc ⟨ht ▸ hB.2.1, hB.2.2.weaken (fun _ _ _ hq => hF _ hq), hS, r.2.2.2⟩)
theorem call_Vi {M' : Mi} {d' a idx ci nn : Nat} {q : vw_C} {vs : List Value} {Po : Int32 → sH → GH → Prop} (d : decode (mcc M) pc = .ok (.invokevirtual idx, 3)) (LC : LkC M' nn) (L : LkV (mown M) idx M') (hq : vwCl[ci]? = some q) (hq1 : q.1 = mown M') (e : isO S a ci = true) (hR : Fit X M' d' k n) (c : ACi M' d' S g (.ref a :: vs) Po) (hn : vs.length = nn) (hw : Nat.ble (st.map Value.category).sum 8 = true)
    (kk : ∀ (r : Int32) (S' : sH) (g' : GH), S'.1 = S.1 → Po r S' g' → AW M X Q ad k n (conc S' g') (pc + 3) ls (.int r :: st)) : AW M X Q ad k n (conc S g) pc ls (vs.reverse ++ .ref a :: st) := by
  refine core_i c (fun C H locs lc r hM => ?_) kk
  obtain ⟨ha, fs, hfs⟩ := isO_ok (g := g) e
  have hG : GoodIn gW (wsV (mown M) idx (mown M') (my M') (mws M')) := by
    intro w hwm
    simp only [wsV, List.cons_append, List.nil_append, List.mem_cons] at hwm
    rcases hwm with rfl | rfl | rfl | rfl | h
    · exact gW_good _ L.1
    · exact gW_good _ L.2.1
    · exact gW_good _ L.2.2
    · exact gW_good _ LC.2.2.1
    · exact gW_cons LC.1 _ h
  have hrec := va_recv (q := q) C.2.2.2.2.2.2.2.2.1.1 r.1 hq (q0 := a) (a := ad a) (ci := ci) (fs := fs.map (sv ad)) (by rw [sw_at (h := conc S g) ha, hfs]; rfl)
  rw [hq1] at hrec
  refine va_runV (As := vs.map (sv ad)) (b := ad a) (n := nn) (C := mown M') ⟨C.1, C.2.1, C.2.2.1, C.2.2.2.1, C.2.2.2.2.1⟩ hM (cwV nn C.2.2.2.2.1 hG rfl rfl rfl ⟨rfl, LC.2.1⟩ hR.1) ⟨Wd.blind, hrec, Rl.pre C r⟩ rfl (by simpa using hn) r.2.2.2.1 (by simp [F0, sv]) (lv_room (rest_cat st (Nat.le_of_ble_eq_true hw))) d hR.2
theorem call_Ui {M' : Mi} {d' a idx ci nn : Nat} {q : vw_C} {vs : List Value} {Po : Int32 → sH → GH → Prop} (d : decode (mcc M) pc = .ok (.invokevirtual idx, 3)) (hq : vwCl[ci]? = some q) (LC : LkC M' nn) (L : LkU (mown M) idx q.1 M' nn) (e : isO S a ci = true) (hR : Fit X M' d' k n) (c : ACi M' d' S g (.ref a :: vs) Po) (hn : vs.length = nn) (hw : Nat.ble (st.map Value.category).sum 8 = true)
    (kk : ∀ (r : Int32) (S' : sH) (g' : GH), S'.1 = S.1 → Po r S' g' → AW M X Q ad k n (conc S' g') (pc + 3) ls (.int r :: st)) : AW M X Q ad k n (conc S g) pc ls (vs.reverse ++ .ref a :: st) := by
  refine core_i c (fun C H locs lc r hM => ?_) kk
  obtain ⟨ha, fs, hfs⟩ := isO_ok (g := g) e
  obtain ⟨owner, x, l1, l2, l3, l4, l5, l6⟩ := L
  have hrec := va_recv (q := q) C.2.2.2.2.2.2.2.2.1.1 r.1 hq (q0 := a) (a := ad a) (ci := ci) (fs := fs.map (sv ad)) (by rw [sw_at (h := conc S g) ha, hfs]; rfl)
  have hcw : va_CU (xR X) (xs X) (xa X) (mown M) q.1 owner idx x (my M') (mcc M') (mnL M') (mret M') (mws M') (rmD d') 0 0 nn := by
    have hG : GoodIn gW (va_wsU (mown M) idx q.1 owner x (my M') (mws M')) := by
      intro w hwm
      simp only [va_wsU, List.cons_append, List.nil_append, List.mem_cons] at hwm
      rcases hwm with rfl | rfl | rfl | rfl | rfl | h
      · exact gW_good _ l1
      · exact gW_good _ l2
      · exact gW_good _ l3
      · exact gW_good _ l4
      · exact gW_good _ LC.2.2.1
      · exact gW_cons LC.1 _ h
    rcases l6 with h | ⟨b0, m0, r0, h0, h⟩ | h
    · exact va_cwU nn C.2.2.2.2.1 hG rfl rfl rfl h l5 hR.1
    · refine va_cwO nn C.2.2.2.2.1 ?_ rfl rfl rfl h l5 hR.1
      intro w hwm
      simp only [va_wsO, List.cons_append, List.nil_append, List.mem_cons] at hwm
      rcases hwm with rfl | rfl | rfl | rfl | rfl | rfl | h
      · exact gW_good _ l1
      · exact gW_good _ l2
      · exact gW_good _ h0
      · exact gW_good _ l3
      · exact gW_good _ l4
      · exact gW_good _ LC.2.2.1
      · exact gW_cons LC.1 _ h
    · exact va_cwA nn C.2.2.2.2.1 hG rfl rfl rfl (C.2.2.2.2.2.2.2.2.1.2.1 _ h) l5 hR.1
  exact va_runU (As := vs.map (sv ad)) (b := ad a) (n := nn) ⟨C.1, C.2.1, C.2.2.1, C.2.2.2.1, C.2.2.2.2.1⟩ hM hcw ⟨Wd.blind, hrec, Rl.pre C r⟩ rfl (by simpa using hn) r.2.2.2.1 (by simp [F0, sv]) (lv_room (rest_cat st (Nat.le_of_ble_eq_true hw))) d hR.2
theorem call_Si {M' : Mi} {d' idx nn : Nat} {vs : List Value} {Po : Int32 → sH → GH → Prop} (d : decode (mcc M) pc = .ok (.invokestatic idx, 3)) (LC : LkC M' nn) (L : LkS (mown M) idx M' ∨ LkN (mown M) idx M') (hR : Fit X M' d' k n) (c : ACi M' d' S g vs Po) (hn : vs.length = nn) (hw : Nat.ble (st.map Value.category).sum 8 = true)
    (kk : ∀ (r : Int32) (S' : sH) (g' : GH), S'.1 = S.1 → Po r S' g' → AW M X Q ad k n (conc S' g') (pc + 3) ls (.int r :: st)) : AW M X Q ad k n (conc S g) pc ls (vs.reverse ++ st) := by
  refine core_i c (fun C H locs lc r hM => ?_) kk
  rcases L with L | L
  · have hG : GoodIn gW (va_wsS (mown M) idx (my M') (mws M')) := by
      intro w hwm
      simp only [va_wsS, List.cons_append, List.nil_append, List.mem_cons] at hwm
      rcases hwm with rfl | rfl | rfl | h
      · exact gW_good _ L.1
      · exact gW_good _ L.2
      · exact gW_good _ LC.2.2.1
      · exact gW_cons LC.1 _ h
    exact va_runS (As := vs.map (sv ad)) (n := nn) ⟨C.1, C.2.1, C.2.2.1, C.2.2.2.1, C.2.2.2.2.1⟩ hM (va_cwS nn C.2.2.2.2.1 hG rfl rfl rfl LC.2.1 hR.1) ⟨Wd.blind, Rl.pre C r⟩ rfl (by simpa using hn) r.2.2.2.1 (by simp [F0]) (lv_room (rest_cat st (Nat.le_of_ble_eq_true hw))) d hR.2
  · obtain ⟨⟨host, hh⟩, hs⟩ := L
    exact va_runSN (As := vs.map (sv ad)) (n := nn) ⟨C.1, C.2.1, C.2.2.1, C.2.2.2.1, C.2.2.2.2.1⟩ hM ⟨va_cnB (host := host) nn C.2.2.2.2.1 (gW_cons LC.1) rfl rfl rfl (C.2.2.2.2.2.2.2.2.1.2.1 _ hh) (C.2.2.2.2.1 _ LC.2.2.1) LC.2.1 hR.1, C.2.2.2.2.1 _ hs, trivial⟩ ⟨Wd.blind, Rl.pre C r⟩ rfl (by simpa using hn) r.2.2.2.1 (by simp [F0]) (lv_room (rest_cat st (Nat.le_of_ble_eq_true hw))) d hR.2
theorem a_V0i {M' : Mi} {d' a idx : Nat} (ci : Nat) {q : vw_C} {vs : List Value} {Po : Int32 → sH → GH → Prop} (d : decode (mcc M) pc = .ok (.invokevirtual idx, 3)) (LC : LkC M' 0) (L : LkV (mown M) idx M') (hq : vwCl[ci]? = some q) (hq1 : q.1 = mown M') (e : isO S a ci = true) (hR : Fit X M' d' k n) (c : ACi M' d' S g vs Po) (hv : vs = [.ref a]) (hw : Nat.ble (st.map Value.category).sum 8 = true) (kk : ∀ (r : Int32) (S' : sH) (g' : GH), S'.1 = S.1 → Po r S' g' → AW M X Q ad k n (conc S' g') (pc + 3) ls (.int r :: st)) : AW M X Q ad k n (conc S g) pc ls (.ref a :: st) := by
  subst hv
  exact call_Vi (vs := []) d LC L hq hq1 e hR c rfl hw kk
theorem a_U0i {M' : Mi} {d' a idx : Nat} (ci : Nat) {q : vw_C} {vs : List Value} {Po : Int32 → sH → GH → Prop} (d : decode (mcc M) pc = .ok (.invokevirtual idx, 3)) (hq : vwCl[ci]? = some q) (LC : LkC M' 0) (L : LkU (mown M) idx q.1 M' 0) (e : isO S a ci = true) (hR : Fit X M' d' k n) (c : ACi M' d' S g vs Po) (hv : vs = [.ref a]) (hw : Nat.ble (st.map Value.category).sum 8 = true) (kk : ∀ (r : Int32) (S' : sH) (g' : GH), S'.1 = S.1 → Po r S' g' → AW M X Q ad k n (conc S' g') (pc + 3) ls (.int r :: st)) : AW M X Q ad k n (conc S g) pc ls (.ref a :: st) := by
  subst hv
  exact call_Ui (vs := []) d hq LC L e hR c rfl hw kk
theorem a_V1i {M' : Mi} {d' a idx : Nat} (ci : Nat) {q : vw_C} {v1 : Value} {vs : List Value} {Po : Int32 → sH → GH → Prop} (d : decode (mcc M) pc = .ok (.invokevirtual idx, 3)) (LC : LkC M' 1) (L : LkV (mown M) idx M') (hq : vwCl[ci]? = some q) (hq1 : q.1 = mown M') (e : isO S a ci = true) (hR : Fit X M' d' k n) (c : ACi M' d' S g vs Po) (hv : vs = [.ref a, v1]) (hw : Nat.ble (st.map Value.category).sum 8 = true) (kk : ∀ (r : Int32) (S' : sH) (g' : GH), S'.1 = S.1 → Po r S' g' → AW M X Q ad k n (conc S' g') (pc + 3) ls (.int r :: st)) : AW M X Q ad k n (conc S g) pc ls (v1 :: .ref a :: st) := by
  subst hv
  exact call_Vi (vs := [v1]) d LC L hq hq1 e hR c rfl hw kk
theorem a_U1i {M' : Mi} {d' a idx : Nat} (ci : Nat) {q : vw_C} {v1 : Value} {vs : List Value} {Po : Int32 → sH → GH → Prop} (d : decode (mcc M) pc = .ok (.invokevirtual idx, 3)) (hq : vwCl[ci]? = some q) (LC : LkC M' 1) (L : LkU (mown M) idx q.1 M' 1) (e : isO S a ci = true) (hR : Fit X M' d' k n) (c : ACi M' d' S g vs Po) (hv : vs = [.ref a, v1]) (hw : Nat.ble (st.map Value.category).sum 8 = true) (kk : ∀ (r : Int32) (S' : sH) (g' : GH), S'.1 = S.1 → Po r S' g' → AW M X Q ad k n (conc S' g') (pc + 3) ls (.int r :: st)) : AW M X Q ad k n (conc S g) pc ls (v1 :: .ref a :: st) := by
  subst hv
  exact call_Ui (vs := [v1]) d hq LC L e hR c rfl hw kk
theorem a_V2i {M' : Mi} {d' a idx : Nat} (ci : Nat) {q : vw_C} {v1 v2 : Value} {vs : List Value} {Po : Int32 → sH → GH → Prop} (d : decode (mcc M) pc = .ok (.invokevirtual idx, 3)) (LC : LkC M' 2) (L : LkV (mown M) idx M') (hq : vwCl[ci]? = some q) (hq1 : q.1 = mown M') (e : isO S a ci = true) (hR : Fit X M' d' k n) (c : ACi M' d' S g vs Po) (hv : vs = [.ref a, v1, v2]) (hw : Nat.ble (st.map Value.category).sum 8 = true) (kk : ∀ (r : Int32) (S' : sH) (g' : GH), S'.1 = S.1 → Po r S' g' → AW M X Q ad k n (conc S' g') (pc + 3) ls (.int r :: st)) : AW M X Q ad k n (conc S g) pc ls (v2 :: v1 :: .ref a :: st) := by
  subst hv
  exact call_Vi (vs := [v1, v2]) d LC L hq hq1 e hR c rfl hw kk
theorem a_U2i {M' : Mi} {d' a idx : Nat} (ci : Nat) {q : vw_C} {v1 v2 : Value} {vs : List Value} {Po : Int32 → sH → GH → Prop} (d : decode (mcc M) pc = .ok (.invokevirtual idx, 3)) (hq : vwCl[ci]? = some q) (LC : LkC M' 2) (L : LkU (mown M) idx q.1 M' 2) (e : isO S a ci = true) (hR : Fit X M' d' k n) (c : ACi M' d' S g vs Po) (hv : vs = [.ref a, v1, v2]) (hw : Nat.ble (st.map Value.category).sum 8 = true) (kk : ∀ (r : Int32) (S' : sH) (g' : GH), S'.1 = S.1 → Po r S' g' → AW M X Q ad k n (conc S' g') (pc + 3) ls (.int r :: st)) : AW M X Q ad k n (conc S g) pc ls (v2 :: v1 :: .ref a :: st) := by
  subst hv
  exact call_Ui (vs := [v1, v2]) d hq LC L e hR c rfl hw kk
theorem a_V3i {M' : Mi} {d' a idx : Nat} (ci : Nat) {q : vw_C} {v1 v2 v3 : Value} {vs : List Value} {Po : Int32 → sH → GH → Prop} (d : decode (mcc M) pc = .ok (.invokevirtual idx, 3)) (LC : LkC M' 3) (L : LkV (mown M) idx M') (hq : vwCl[ci]? = some q) (hq1 : q.1 = mown M') (e : isO S a ci = true) (hR : Fit X M' d' k n) (c : ACi M' d' S g vs Po) (hv : vs = [.ref a, v1, v2, v3]) (hw : Nat.ble (st.map Value.category).sum 8 = true) (kk : ∀ (r : Int32) (S' : sH) (g' : GH), S'.1 = S.1 → Po r S' g' → AW M X Q ad k n (conc S' g') (pc + 3) ls (.int r :: st)) : AW M X Q ad k n (conc S g) pc ls (v3 :: v2 :: v1 :: .ref a :: st) := by
  subst hv
  exact call_Vi (vs := [v1, v2, v3]) d LC L hq hq1 e hR c rfl hw kk
theorem a_U3i {M' : Mi} {d' a idx : Nat} (ci : Nat) {q : vw_C} {v1 v2 v3 : Value} {vs : List Value} {Po : Int32 → sH → GH → Prop} (d : decode (mcc M) pc = .ok (.invokevirtual idx, 3)) (hq : vwCl[ci]? = some q) (LC : LkC M' 3) (L : LkU (mown M) idx q.1 M' 3) (e : isO S a ci = true) (hR : Fit X M' d' k n) (c : ACi M' d' S g vs Po) (hv : vs = [.ref a, v1, v2, v3]) (hw : Nat.ble (st.map Value.category).sum 8 = true) (kk : ∀ (r : Int32) (S' : sH) (g' : GH), S'.1 = S.1 → Po r S' g' → AW M X Q ad k n (conc S' g') (pc + 3) ls (.int r :: st)) : AW M X Q ad k n (conc S g) pc ls (v3 :: v2 :: v1 :: .ref a :: st) := by
  subst hv
  exact call_Ui (vs := [v1, v2, v3]) d hq LC L e hR c rfl hw kk
theorem a_V4i {M' : Mi} {d' a idx : Nat} (ci : Nat) {q : vw_C} {v1 v2 v3 v4 : Value} {vs : List Value} {Po : Int32 → sH → GH → Prop} (d : decode (mcc M) pc = .ok (.invokevirtual idx, 3)) (LC : LkC M' 4) (L : LkV (mown M) idx M') (hq : vwCl[ci]? = some q) (hq1 : q.1 = mown M') (e : isO S a ci = true) (hR : Fit X M' d' k n) (c : ACi M' d' S g vs Po) (hv : vs = [.ref a, v1, v2, v3, v4]) (hw : Nat.ble (st.map Value.category).sum 8 = true) (kk : ∀ (r : Int32) (S' : sH) (g' : GH), S'.1 = S.1 → Po r S' g' → AW M X Q ad k n (conc S' g') (pc + 3) ls (.int r :: st)) : AW M X Q ad k n (conc S g) pc ls (v4 :: v3 :: v2 :: v1 :: .ref a :: st) := by
  subst hv
  exact call_Vi (vs := [v1, v2, v3, v4]) d LC L hq hq1 e hR c rfl hw kk
theorem a_U4i {M' : Mi} {d' a idx : Nat} (ci : Nat) {q : vw_C} {v1 v2 v3 v4 : Value} {vs : List Value} {Po : Int32 → sH → GH → Prop} (d : decode (mcc M) pc = .ok (.invokevirtual idx, 3)) (hq : vwCl[ci]? = some q) (LC : LkC M' 4) (L : LkU (mown M) idx q.1 M' 4) (e : isO S a ci = true) (hR : Fit X M' d' k n) (c : ACi M' d' S g vs Po) (hv : vs = [.ref a, v1, v2, v3, v4]) (hw : Nat.ble (st.map Value.category).sum 8 = true) (kk : ∀ (r : Int32) (S' : sH) (g' : GH), S'.1 = S.1 → Po r S' g' → AW M X Q ad k n (conc S' g') (pc + 3) ls (.int r :: st)) : AW M X Q ad k n (conc S g) pc ls (v4 :: v3 :: v2 :: v1 :: .ref a :: st) := by
  subst hv
  exact call_Ui (vs := [v1, v2, v3, v4]) d hq LC L e hR c rfl hw kk
theorem a_V5i {M' : Mi} {d' a idx : Nat} (ci : Nat) {q : vw_C} {v1 v2 v3 v4 v5 : Value} {vs : List Value} {Po : Int32 → sH → GH → Prop} (d : decode (mcc M) pc = .ok (.invokevirtual idx, 3)) (LC : LkC M' 5) (L : LkV (mown M) idx M') (hq : vwCl[ci]? = some q) (hq1 : q.1 = mown M') (e : isO S a ci = true) (hR : Fit X M' d' k n) (c : ACi M' d' S g vs Po) (hv : vs = [.ref a, v1, v2, v3, v4, v5]) (hw : Nat.ble (st.map Value.category).sum 8 = true) (kk : ∀ (r : Int32) (S' : sH) (g' : GH), S'.1 = S.1 → Po r S' g' → AW M X Q ad k n (conc S' g') (pc + 3) ls (.int r :: st)) : AW M X Q ad k n (conc S g) pc ls (v5 :: v4 :: v3 :: v2 :: v1 :: .ref a :: st) := by
  subst hv
  exact call_Vi (vs := [v1, v2, v3, v4, v5]) d LC L hq hq1 e hR c rfl hw kk
theorem a_U5i {M' : Mi} {d' a idx : Nat} (ci : Nat) {q : vw_C} {v1 v2 v3 v4 v5 : Value} {vs : List Value} {Po : Int32 → sH → GH → Prop} (d : decode (mcc M) pc = .ok (.invokevirtual idx, 3)) (hq : vwCl[ci]? = some q) (LC : LkC M' 5) (L : LkU (mown M) idx q.1 M' 5) (e : isO S a ci = true) (hR : Fit X M' d' k n) (c : ACi M' d' S g vs Po) (hv : vs = [.ref a, v1, v2, v3, v4, v5]) (hw : Nat.ble (st.map Value.category).sum 8 = true) (kk : ∀ (r : Int32) (S' : sH) (g' : GH), S'.1 = S.1 → Po r S' g' → AW M X Q ad k n (conc S' g') (pc + 3) ls (.int r :: st)) : AW M X Q ad k n (conc S g) pc ls (v5 :: v4 :: v3 :: v2 :: v1 :: .ref a :: st) := by
  subst hv
  exact call_Ui (vs := [v1, v2, v3, v4, v5]) d hq LC L e hR c rfl hw kk
theorem a_V6i {M' : Mi} {d' a idx : Nat} (ci : Nat) {q : vw_C} {v1 v2 v3 v4 v5 v6 : Value} {vs : List Value} {Po : Int32 → sH → GH → Prop} (d : decode (mcc M) pc = .ok (.invokevirtual idx, 3)) (LC : LkC M' 6) (L : LkV (mown M) idx M') (hq : vwCl[ci]? = some q) (hq1 : q.1 = mown M') (e : isO S a ci = true) (hR : Fit X M' d' k n) (c : ACi M' d' S g vs Po) (hv : vs = [.ref a, v1, v2, v3, v4, v5, v6]) (hw : Nat.ble (st.map Value.category).sum 8 = true) (kk : ∀ (r : Int32) (S' : sH) (g' : GH), S'.1 = S.1 → Po r S' g' → AW M X Q ad k n (conc S' g') (pc + 3) ls (.int r :: st)) : AW M X Q ad k n (conc S g) pc ls (v6 :: v5 :: v4 :: v3 :: v2 :: v1 :: .ref a :: st) := by
  subst hv
  exact call_Vi (vs := [v1, v2, v3, v4, v5, v6]) d LC L hq hq1 e hR c rfl hw kk
theorem a_U6i {M' : Mi} {d' a idx : Nat} (ci : Nat) {q : vw_C} {v1 v2 v3 v4 v5 v6 : Value} {vs : List Value} {Po : Int32 → sH → GH → Prop} (d : decode (mcc M) pc = .ok (.invokevirtual idx, 3)) (hq : vwCl[ci]? = some q) (LC : LkC M' 6) (L : LkU (mown M) idx q.1 M' 6) (e : isO S a ci = true) (hR : Fit X M' d' k n) (c : ACi M' d' S g vs Po) (hv : vs = [.ref a, v1, v2, v3, v4, v5, v6]) (hw : Nat.ble (st.map Value.category).sum 8 = true) (kk : ∀ (r : Int32) (S' : sH) (g' : GH), S'.1 = S.1 → Po r S' g' → AW M X Q ad k n (conc S' g') (pc + 3) ls (.int r :: st)) : AW M X Q ad k n (conc S g) pc ls (v6 :: v5 :: v4 :: v3 :: v2 :: v1 :: .ref a :: st) := by
  subst hv
  exact call_Ui (vs := [v1, v2, v3, v4, v5, v6]) d hq LC L e hR c rfl hw kk
theorem a_S0i {M' : Mi} {d' idx : Nat} {vs : List Value} {Po : Int32 → sH → GH → Prop} (d : decode (mcc M) pc = .ok (.invokestatic idx, 3)) (LC : LkC M' 0) (L : LkS (mown M) idx M' ∨ LkN (mown M) idx M') (hR : Fit X M' d' k n) (c : ACi M' d' S g vs Po) (hv : vs = []) (hw : Nat.ble (st.map Value.category).sum 8 = true) (kk : ∀ (r : Int32) (S' : sH) (g' : GH), S'.1 = S.1 → Po r S' g' → AW M X Q ad k n (conc S' g') (pc + 3) ls (.int r :: st)) : AW M X Q ad k n (conc S g) pc ls st := by
  subst hv
  exact call_Si (vs := []) d LC L hR c rfl hw kk
theorem a_S1i {M' : Mi} {d' idx : Nat} {v1 : Value} {vs : List Value} {Po : Int32 → sH → GH → Prop} (d : decode (mcc M) pc = .ok (.invokestatic idx, 3)) (LC : LkC M' 1) (L : LkS (mown M) idx M' ∨ LkN (mown M) idx M') (hR : Fit X M' d' k n) (c : ACi M' d' S g vs Po) (hv : vs = [v1]) (hw : Nat.ble (st.map Value.category).sum 8 = true) (kk : ∀ (r : Int32) (S' : sH) (g' : GH), S'.1 = S.1 → Po r S' g' → AW M X Q ad k n (conc S' g') (pc + 3) ls (.int r :: st)) : AW M X Q ad k n (conc S g) pc ls (v1 :: st) := by
  subst hv
  exact call_Si (vs := [v1]) d LC L hR c rfl hw kk
theorem a_S2i {M' : Mi} {d' idx : Nat} {v1 v2 : Value} {vs : List Value} {Po : Int32 → sH → GH → Prop} (d : decode (mcc M) pc = .ok (.invokestatic idx, 3)) (LC : LkC M' 2) (L : LkS (mown M) idx M' ∨ LkN (mown M) idx M') (hR : Fit X M' d' k n) (c : ACi M' d' S g vs Po) (hv : vs = [v1, v2]) (hw : Nat.ble (st.map Value.category).sum 8 = true) (kk : ∀ (r : Int32) (S' : sH) (g' : GH), S'.1 = S.1 → Po r S' g' → AW M X Q ad k n (conc S' g') (pc + 3) ls (.int r :: st)) : AW M X Q ad k n (conc S g) pc ls (v2 :: v1 :: st) := by
  subst hv
  exact call_Si (vs := [v1, v2]) d LC L hR c rfl hw kk
theorem a_S3i {M' : Mi} {d' idx : Nat} {v1 v2 v3 : Value} {vs : List Value} {Po : Int32 → sH → GH → Prop} (d : decode (mcc M) pc = .ok (.invokestatic idx, 3)) (LC : LkC M' 3) (L : LkS (mown M) idx M' ∨ LkN (mown M) idx M') (hR : Fit X M' d' k n) (c : ACi M' d' S g vs Po) (hv : vs = [v1, v2, v3]) (hw : Nat.ble (st.map Value.category).sum 8 = true) (kk : ∀ (r : Int32) (S' : sH) (g' : GH), S'.1 = S.1 → Po r S' g' → AW M X Q ad k n (conc S' g') (pc + 3) ls (.int r :: st)) : AW M X Q ad k n (conc S g) pc ls (v3 :: v2 :: v1 :: st) := by
  subst hv
  exact call_Si (vs := [v1, v2, v3]) d LC L hR c rfl hw kk
theorem a_S4i {M' : Mi} {d' idx : Nat} {v1 v2 v3 v4 : Value} {vs : List Value} {Po : Int32 → sH → GH → Prop} (d : decode (mcc M) pc = .ok (.invokestatic idx, 3)) (LC : LkC M' 4) (L : LkS (mown M) idx M' ∨ LkN (mown M) idx M') (hR : Fit X M' d' k n) (c : ACi M' d' S g vs Po) (hv : vs = [v1, v2, v3, v4]) (hw : Nat.ble (st.map Value.category).sum 8 = true) (kk : ∀ (r : Int32) (S' : sH) (g' : GH), S'.1 = S.1 → Po r S' g' → AW M X Q ad k n (conc S' g') (pc + 3) ls (.int r :: st)) : AW M X Q ad k n (conc S g) pc ls (v4 :: v3 :: v2 :: v1 :: st) := by
  subst hv
  exact call_Si (vs := [v1, v2, v3, v4]) d LC L hR c rfl hw kk
theorem a_S5i {M' : Mi} {d' idx : Nat} {v1 v2 v3 v4 v5 : Value} {vs : List Value} {Po : Int32 → sH → GH → Prop} (d : decode (mcc M) pc = .ok (.invokestatic idx, 3)) (LC : LkC M' 5) (L : LkS (mown M) idx M' ∨ LkN (mown M) idx M') (hR : Fit X M' d' k n) (c : ACi M' d' S g vs Po) (hv : vs = [v1, v2, v3, v4, v5]) (hw : Nat.ble (st.map Value.category).sum 8 = true) (kk : ∀ (r : Int32) (S' : sH) (g' : GH), S'.1 = S.1 → Po r S' g' → AW M X Q ad k n (conc S' g') (pc + 3) ls (.int r :: st)) : AW M X Q ad k n (conc S g) pc ls (v5 :: v4 :: v3 :: v2 :: v1 :: st) := by
  subst hv
  exact call_Si (vs := [v1, v2, v3, v4, v5]) d LC L hR c rfl hw kk
theorem a_S6i {M' : Mi} {d' idx : Nat} {v1 v2 v3 v4 v5 v6 : Value} {vs : List Value} {Po : Int32 → sH → GH → Prop} (d : decode (mcc M) pc = .ok (.invokestatic idx, 3)) (LC : LkC M' 6) (L : LkS (mown M) idx M' ∨ LkN (mown M) idx M') (hR : Fit X M' d' k n) (c : ACi M' d' S g vs Po) (hv : vs = [v1, v2, v3, v4, v5, v6]) (hw : Nat.ble (st.map Value.category).sum 8 = true) (kk : ∀ (r : Int32) (S' : sH) (g' : GH), S'.1 = S.1 → Po r S' g' → AW M X Q ad k n (conc S' g') (pc + 3) ls (.int r :: st)) : AW M X Q ad k n (conc S g) pc ls (v6 :: v5 :: v4 :: v3 :: v2 :: v1 :: st) := by
  subst hv
  exact call_Si (vs := [v1, v2, v3, v4, v5, v6]) d LC L hR c rfl hw kk
theorem a_S7i {M' : Mi} {d' idx : Nat} {v1 v2 v3 v4 v5 v6 v7 : Value} {vs : List Value} {Po : Int32 → sH → GH → Prop} (d : decode (mcc M) pc = .ok (.invokestatic idx, 3)) (LC : LkC M' 7) (L : LkS (mown M) idx M' ∨ LkN (mown M) idx M') (hR : Fit X M' d' k n) (c : ACi M' d' S g vs Po) (hv : vs = [v1, v2, v3, v4, v5, v6, v7]) (hw : Nat.ble (st.map Value.category).sum 8 = true) (kk : ∀ (r : Int32) (S' : sH) (g' : GH), S'.1 = S.1 → Po r S' g' → AW M X Q ad k n (conc S' g') (pc + 3) ls (.int r :: st)) : AW M X Q ad k n (conc S g) pc ls (v7 :: v6 :: v5 :: v4 :: v3 :: v2 :: v1 :: st) := by
  subst hv
  exact call_Si (vs := [v1, v2, v3, v4, v5, v6, v7]) d LC L hR c rfl hw kk
theorem core_l {M' : Mi} {d' : Nat} {vs : List Value} {Po : Int64 → sH → GH → Prop} (c : ACl M' d' S g vs Po) {stk : List Value}
    (hrun : XOk M X → ∀ (H : Heap) (locs : List Loc) (lc : Array Slot), Rl M X ad (conc S g) ls H locs lc → Met (xl X) (my M') (mws M') (rmD d') (va_Pc (vs.map (sv ad)) (Wd (xD X) (xdA X) ad S g H.size)) (va_Ql (fun r (u : sH × GH) => Po r u.1 u.2) (Bd (xD X) (xdA X) ad S g H.size) (va_A (sw (xdA X) ad (conc S g)) H.size)) 0 0 (va_A (sw (xdA X) ad (conc S g)) H.size) →
      va_Run (xp X) (xl X) (xe X) (xR X) (xs X) (xm X) (xa X) (xb X) (xme X) (xc X) H locs k n 0 0 (F0 (xm X) pc lc (stk.map (sv ad))) (st.map (sv ad)) ((va_Ql (fun r (u : sH × GH) => Po r u.1 u.2) (Bd (xD X) (xdA X) ad S g H.size) (va_A (sw (xdA X) ad (conc S g)) H.size)) (vs.map (sv ad)).toArray) (va_A (sw (xdA X) ad (conc S g)) H.size))
    (kk : ∀ (r : Int64) (S' : sH) (g' : GH), S'.1 = S.1 → Po r S' g' → AW M X Q ad k n (conc S' g') (pc + 3) ls (.long r :: st)) : AW M X Q ad k n (conc S g) pc ls stk := by
  intro C H locs lc r
  have hF := Rl.free C r
  exact va_calll (hrun C H locs lc r (c (xl X) (xD X) (xdA X) ad H.size)) r.2.2.1 (fun q _ hq => hF q hq) hF (fun r1 u t H1 locs1 ht hvm hp hB hz hk hS => kk r1 u.1 u.2 hB.1 hp C H1 locs1 lc ⟨ht ▸ hB.2.1, hB.2.2.weaken (fun _ _ _ hq => hF _ hq), hS, r.2.2.2⟩)
theorem call_Vl {M' : Mi} {d' a idx ci nn : Nat} {q : vw_C} {vs : List Value} {Po : Int64 → sH → GH → Prop} (d : decode (mcc M) pc = .ok (.invokevirtual idx, 3)) (LC : LkC M' nn) (L : LkV (mown M) idx M') (hq : vwCl[ci]? = some q) (hq1 : q.1 = mown M') (e : isO S a ci = true) (hR : Fit X M' d' k n) (c : ACl M' d' S g (.ref a :: vs) Po) (hn : vs.length = nn) (hw : Nat.ble (st.map Value.category).sum 8 = true)
    (kk : ∀ (r : Int64) (S' : sH) (g' : GH), S'.1 = S.1 → Po r S' g' → AW M X Q ad k n (conc S' g') (pc + 3) ls (.long r :: st)) : AW M X Q ad k n (conc S g) pc ls (vs.reverse ++ .ref a :: st) := by
  refine core_l c (fun C H locs lc r hM => ?_) kk
  obtain ⟨ha, fs, hfs⟩ := isO_ok (g := g) e
  have hG : GoodIn gW (wsV (mown M) idx (mown M') (my M') (mws M')) := by
    intro w hwm
    simp only [wsV, List.cons_append, List.nil_append, List.mem_cons] at hwm
    rcases hwm with rfl | rfl | rfl | rfl | h
    · exact gW_good _ L.1
    · exact gW_good _ L.2.1
    · exact gW_good _ L.2.2
    · exact gW_good _ LC.2.2.1
    · exact gW_cons LC.1 _ h
  have hrec := va_recv (q := q) C.2.2.2.2.2.2.2.2.1.1 r.1 hq (q0 := a) (a := ad a) (ci := ci) (fs := fs.map (sv ad)) (by rw [sw_at (h := conc S g) ha, hfs]; rfl)
  rw [hq1] at hrec
  refine va_runV (As := vs.map (sv ad)) (b := ad a) (n := nn) (C := mown M') ⟨C.1, C.2.1, C.2.2.1, C.2.2.2.1, C.2.2.2.2.1⟩ hM (cwV nn C.2.2.2.2.1 hG rfl rfl rfl ⟨rfl, LC.2.1⟩ hR.1) ⟨Wd.blind, hrec, Rl.pre C r⟩ rfl (by simpa using hn) r.2.2.2.1 (by simp [F0, sv]) (lv_room (rest_cat st (Nat.le_of_ble_eq_true hw))) d hR.2
theorem call_Ul {M' : Mi} {d' a idx ci nn : Nat} {q : vw_C} {vs : List Value} {Po : Int64 → sH → GH → Prop} (d : decode (mcc M) pc = .ok (.invokevirtual idx, 3)) (hq : vwCl[ci]? = some q) (LC : LkC M' nn) (L : LkU (mown M) idx q.1 M' nn) (e : isO S a ci = true) (hR : Fit X M' d' k n) (c : ACl M' d' S g (.ref a :: vs) Po) (hn : vs.length = nn) (hw : Nat.ble (st.map Value.category).sum 8 = true)
    (kk : ∀ (r : Int64) (S' : sH) (g' : GH), S'.1 = S.1 → Po r S' g' → AW M X Q ad k n (conc S' g') (pc + 3) ls (.long r :: st)) : AW M X Q ad k n (conc S g) pc ls (vs.reverse ++ .ref a :: st) := by
  refine core_l c (fun C H locs lc r hM => ?_) kk
  obtain ⟨ha, fs, hfs⟩ := isO_ok (g := g) e
  obtain ⟨owner, x, l1, l2, l3, l4, l5, l6⟩ := L
  have hrec := va_recv (q := q) C.2.2.2.2.2.2.2.2.1.1 r.1 hq (q0 := a) (a := ad a) (ci := ci) (fs := fs.map (sv ad)) (by rw [sw_at (h := conc S g) ha, hfs]; rfl)
  have hcw : va_CU (xR X) (xs X) (xa X) (mown M) q.1 owner idx x (my M') (mcc M') (mnL M') (mret M') (mws M') (rmD d') 0 0 nn := by
    have hG : GoodIn gW (va_wsU (mown M) idx q.1 owner x (my M') (mws M')) := by
      intro w hwm
      simp only [va_wsU, List.cons_append, List.nil_append, List.mem_cons] at hwm
      rcases hwm with rfl | rfl | rfl | rfl | rfl | h
      · exact gW_good _ l1
      · exact gW_good _ l2
      · exact gW_good _ l3
      · exact gW_good _ l4
      · exact gW_good _ LC.2.2.1
      · exact gW_cons LC.1 _ h
    rcases l6 with h | ⟨b0, m0, r0, h0, h⟩ | h
    · exact va_cwU nn C.2.2.2.2.1 hG rfl rfl rfl h l5 hR.1
    · refine va_cwO nn C.2.2.2.2.1 ?_ rfl rfl rfl h l5 hR.1
      intro w hwm
      simp only [va_wsO, List.cons_append, List.nil_append, List.mem_cons] at hwm
      rcases hwm with rfl | rfl | rfl | rfl | rfl | rfl | h
      · exact gW_good _ l1
      · exact gW_good _ l2
      · exact gW_good _ h0
      · exact gW_good _ l3
      · exact gW_good _ l4
      · exact gW_good _ LC.2.2.1
      · exact gW_cons LC.1 _ h
    · exact va_cwA nn C.2.2.2.2.1 hG rfl rfl rfl (C.2.2.2.2.2.2.2.2.1.2.1 _ h) l5 hR.1
  exact va_runU (As := vs.map (sv ad)) (b := ad a) (n := nn) ⟨C.1, C.2.1, C.2.2.1, C.2.2.2.1, C.2.2.2.2.1⟩ hM hcw ⟨Wd.blind, hrec, Rl.pre C r⟩ rfl (by simpa using hn) r.2.2.2.1 (by simp [F0, sv]) (lv_room (rest_cat st (Nat.le_of_ble_eq_true hw))) d hR.2
theorem call_Sl {M' : Mi} {d' idx nn : Nat} {vs : List Value} {Po : Int64 → sH → GH → Prop} (d : decode (mcc M) pc = .ok (.invokestatic idx, 3)) (LC : LkC M' nn) (L : LkS (mown M) idx M' ∨ LkN (mown M) idx M') (hR : Fit X M' d' k n) (c : ACl M' d' S g vs Po) (hn : vs.length = nn) (hw : Nat.ble (st.map Value.category).sum 8 = true)
    (kk : ∀ (r : Int64) (S' : sH) (g' : GH), S'.1 = S.1 → Po r S' g' → AW M X Q ad k n (conc S' g') (pc + 3) ls (.long r :: st)) : AW M X Q ad k n (conc S g) pc ls (vs.reverse ++ st) := by
  refine core_l c (fun C H locs lc r hM => ?_) kk
  rcases L with L | L
  · have hG : GoodIn gW (va_wsS (mown M) idx (my M') (mws M')) := by
      intro w hwm
      simp only [va_wsS, List.cons_append, List.nil_append, List.mem_cons] at hwm
      rcases hwm with rfl | rfl | rfl | h
      · exact gW_good _ L.1
      · exact gW_good _ L.2
      · exact gW_good _ LC.2.2.1
      · exact gW_cons LC.1 _ h
    exact va_runS (As := vs.map (sv ad)) (n := nn) ⟨C.1, C.2.1, C.2.2.1, C.2.2.2.1, C.2.2.2.2.1⟩ hM (va_cwS nn C.2.2.2.2.1 hG rfl rfl rfl LC.2.1 hR.1) ⟨Wd.blind, Rl.pre C r⟩ rfl (by simpa using hn) r.2.2.2.1 (by simp [F0]) (lv_room (rest_cat st (Nat.le_of_ble_eq_true hw))) d hR.2
  · obtain ⟨⟨host, hh⟩, hs⟩ := L
    exact va_runSN (As := vs.map (sv ad)) (n := nn) ⟨C.1, C.2.1, C.2.2.1, C.2.2.2.1, C.2.2.2.2.1⟩ hM ⟨va_cnB (host := host) nn C.2.2.2.2.1 (gW_cons LC.1) rfl rfl rfl (C.2.2.2.2.2.2.2.2.1.2.1 _ hh) (C.2.2.2.2.1 _ LC.2.2.1) LC.2.1 hR.1, C.2.2.2.2.1 _ hs, trivial⟩ ⟨Wd.blind, Rl.pre C r⟩ rfl (by simpa using hn) r.2.2.2.1 (by simp [F0]) (lv_room (rest_cat st (Nat.le_of_ble_eq_true hw))) d hR.2
theorem a_V0l {M' : Mi} {d' a idx : Nat} (ci : Nat) {q : vw_C} {vs : List Value} {Po : Int64 → sH → GH → Prop} (d : decode (mcc M) pc = .ok (.invokevirtual idx, 3)) (LC : LkC M' 0) (L : LkV (mown M) idx M') (hq : vwCl[ci]? = some q) (hq1 : q.1 = mown M') (e : isO S a ci = true) (hR : Fit X M' d' k n) (c : ACl M' d' S g vs Po) (hv : vs = [.ref a]) (hw : Nat.ble (st.map Value.category).sum 8 = true) (kk : ∀ (r : Int64) (S' : sH) (g' : GH), S'.1 = S.1 → Po r S' g' → AW M X Q ad k n (conc S' g') (pc + 3) ls (.long r :: st)) : AW M X Q ad k n (conc S g) pc ls (.ref a :: st) := by
  subst hv
  exact call_Vl (vs := []) d LC L hq hq1 e hR c rfl hw kk
theorem a_U0l {M' : Mi} {d' a idx : Nat} (ci : Nat) {q : vw_C} {vs : List Value} {Po : Int64 → sH → GH → Prop} (d : decode (mcc M) pc = .ok (.invokevirtual idx, 3)) (hq : vwCl[ci]? = some q) (LC : LkC M' 0) (L : LkU (mown M) idx q.1 M' 0) (e : isO S a ci = true) (hR : Fit X M' d' k n) (c : ACl M' d' S g vs Po) (hv : vs = [.ref a]) (hw : Nat.ble (st.map Value.category).sum 8 = true) (kk : ∀ (r : Int64) (S' : sH) (g' : GH), S'.1 = S.1 → Po r S' g' → AW M X Q ad k n (conc S' g') (pc + 3) ls (.long r :: st)) : AW M X Q ad k n (conc S g) pc ls (.ref a :: st) := by
  subst hv
  exact call_Ul (vs := []) d hq LC L e hR c rfl hw kk
theorem a_V1l {M' : Mi} {d' a idx : Nat} (ci : Nat) {q : vw_C} {v1 : Value} {vs : List Value} {Po : Int64 → sH → GH → Prop} (d : decode (mcc M) pc = .ok (.invokevirtual idx, 3)) (LC : LkC M' 1) (L : LkV (mown M) idx M') (hq : vwCl[ci]? = some q) (hq1 : q.1 = mown M') (e : isO S a ci = true) (hR : Fit X M' d' k n) (c : ACl M' d' S g vs Po) (hv : vs = [.ref a, v1]) (hw : Nat.ble (st.map Value.category).sum 8 = true) (kk : ∀ (r : Int64) (S' : sH) (g' : GH), S'.1 = S.1 → Po r S' g' → AW M X Q ad k n (conc S' g') (pc + 3) ls (.long r :: st)) : AW M X Q ad k n (conc S g) pc ls (v1 :: .ref a :: st) := by
  subst hv
  exact call_Vl (vs := [v1]) d LC L hq hq1 e hR c rfl hw kk
theorem a_U1l {M' : Mi} {d' a idx : Nat} (ci : Nat) {q : vw_C} {v1 : Value} {vs : List Value} {Po : Int64 → sH → GH → Prop} (d : decode (mcc M) pc = .ok (.invokevirtual idx, 3)) (hq : vwCl[ci]? = some q) (LC : LkC M' 1) (L : LkU (mown M) idx q.1 M' 1) (e : isO S a ci = true) (hR : Fit X M' d' k n) (c : ACl M' d' S g vs Po) (hv : vs = [.ref a, v1]) (hw : Nat.ble (st.map Value.category).sum 8 = true) (kk : ∀ (r : Int64) (S' : sH) (g' : GH), S'.1 = S.1 → Po r S' g' → AW M X Q ad k n (conc S' g') (pc + 3) ls (.long r :: st)) : AW M X Q ad k n (conc S g) pc ls (v1 :: .ref a :: st) := by
  subst hv
  exact call_Ul (vs := [v1]) d hq LC L e hR c rfl hw kk
theorem a_V2l {M' : Mi} {d' a idx : Nat} (ci : Nat) {q : vw_C} {v1 v2 : Value} {vs : List Value} {Po : Int64 → sH → GH → Prop} (d : decode (mcc M) pc = .ok (.invokevirtual idx, 3)) (LC : LkC M' 2) (L : LkV (mown M) idx M') (hq : vwCl[ci]? = some q) (hq1 : q.1 = mown M') (e : isO S a ci = true) (hR : Fit X M' d' k n) (c : ACl M' d' S g vs Po) (hv : vs = [.ref a, v1, v2]) (hw : Nat.ble (st.map Value.category).sum 8 = true) (kk : ∀ (r : Int64) (S' : sH) (g' : GH), S'.1 = S.1 → Po r S' g' → AW M X Q ad k n (conc S' g') (pc + 3) ls (.long r :: st)) : AW M X Q ad k n (conc S g) pc ls (v2 :: v1 :: .ref a :: st) := by
  subst hv
  exact call_Vl (vs := [v1, v2]) d LC L hq hq1 e hR c rfl hw kk
theorem a_U2l {M' : Mi} {d' a idx : Nat} (ci : Nat) {q : vw_C} {v1 v2 : Value} {vs : List Value} {Po : Int64 → sH → GH → Prop} (d : decode (mcc M) pc = .ok (.invokevirtual idx, 3)) (hq : vwCl[ci]? = some q) (LC : LkC M' 2) (L : LkU (mown M) idx q.1 M' 2) (e : isO S a ci = true) (hR : Fit X M' d' k n) (c : ACl M' d' S g vs Po) (hv : vs = [.ref a, v1, v2]) (hw : Nat.ble (st.map Value.category).sum 8 = true) (kk : ∀ (r : Int64) (S' : sH) (g' : GH), S'.1 = S.1 → Po r S' g' → AW M X Q ad k n (conc S' g') (pc + 3) ls (.long r :: st)) : AW M X Q ad k n (conc S g) pc ls (v2 :: v1 :: .ref a :: st) := by
  subst hv
  exact call_Ul (vs := [v1, v2]) d hq LC L e hR c rfl hw kk
theorem a_V3l {M' : Mi} {d' a idx : Nat} (ci : Nat) {q : vw_C} {v1 v2 v3 : Value} {vs : List Value} {Po : Int64 → sH → GH → Prop} (d : decode (mcc M) pc = .ok (.invokevirtual idx, 3)) (LC : LkC M' 3) (L : LkV (mown M) idx M') (hq : vwCl[ci]? = some q) (hq1 : q.1 = mown M') (e : isO S a ci = true) (hR : Fit X M' d' k n) (c : ACl M' d' S g vs Po) (hv : vs = [.ref a, v1, v2, v3]) (hw : Nat.ble (st.map Value.category).sum 8 = true) (kk : ∀ (r : Int64) (S' : sH) (g' : GH), S'.1 = S.1 → Po r S' g' → AW M X Q ad k n (conc S' g') (pc + 3) ls (.long r :: st)) : AW M X Q ad k n (conc S g) pc ls (v3 :: v2 :: v1 :: .ref a :: st) := by
  subst hv
  exact call_Vl (vs := [v1, v2, v3]) d LC L hq hq1 e hR c rfl hw kk
theorem a_U3l {M' : Mi} {d' a idx : Nat} (ci : Nat) {q : vw_C} {v1 v2 v3 : Value} {vs : List Value} {Po : Int64 → sH → GH → Prop} (d : decode (mcc M) pc = .ok (.invokevirtual idx, 3)) (hq : vwCl[ci]? = some q) (LC : LkC M' 3) (L : LkU (mown M) idx q.1 M' 3) (e : isO S a ci = true) (hR : Fit X M' d' k n) (c : ACl M' d' S g vs Po) (hv : vs = [.ref a, v1, v2, v3]) (hw : Nat.ble (st.map Value.category).sum 8 = true) (kk : ∀ (r : Int64) (S' : sH) (g' : GH), S'.1 = S.1 → Po r S' g' → AW M X Q ad k n (conc S' g') (pc + 3) ls (.long r :: st)) : AW M X Q ad k n (conc S g) pc ls (v3 :: v2 :: v1 :: .ref a :: st) := by
  subst hv
  exact call_Ul (vs := [v1, v2, v3]) d hq LC L e hR c rfl hw kk
theorem a_V4l {M' : Mi} {d' a idx : Nat} (ci : Nat) {q : vw_C} {v1 v2 v3 v4 : Value} {vs : List Value} {Po : Int64 → sH → GH → Prop} (d : decode (mcc M) pc = .ok (.invokevirtual idx, 3)) (LC : LkC M' 4) (L : LkV (mown M) idx M') (hq : vwCl[ci]? = some q) (hq1 : q.1 = mown M') (e : isO S a ci = true) (hR : Fit X M' d' k n) (c : ACl M' d' S g vs Po) (hv : vs = [.ref a, v1, v2, v3, v4]) (hw : Nat.ble (st.map Value.category).sum 8 = true) (kk : ∀ (r : Int64) (S' : sH) (g' : GH), S'.1 = S.1 → Po r S' g' → AW M X Q ad k n (conc S' g') (pc + 3) ls (.long r :: st)) : AW M X Q ad k n (conc S g) pc ls (v4 :: v3 :: v2 :: v1 :: .ref a :: st) := by
  subst hv
  exact call_Vl (vs := [v1, v2, v3, v4]) d LC L hq hq1 e hR c rfl hw kk
theorem a_U4l {M' : Mi} {d' a idx : Nat} (ci : Nat) {q : vw_C} {v1 v2 v3 v4 : Value} {vs : List Value} {Po : Int64 → sH → GH → Prop} (d : decode (mcc M) pc = .ok (.invokevirtual idx, 3)) (hq : vwCl[ci]? = some q) (LC : LkC M' 4) (L : LkU (mown M) idx q.1 M' 4) (e : isO S a ci = true) (hR : Fit X M' d' k n) (c : ACl M' d' S g vs Po) (hv : vs = [.ref a, v1, v2, v3, v4]) (hw : Nat.ble (st.map Value.category).sum 8 = true) (kk : ∀ (r : Int64) (S' : sH) (g' : GH), S'.1 = S.1 → Po r S' g' → AW M X Q ad k n (conc S' g') (pc + 3) ls (.long r :: st)) : AW M X Q ad k n (conc S g) pc ls (v4 :: v3 :: v2 :: v1 :: .ref a :: st) := by
  subst hv
  exact call_Ul (vs := [v1, v2, v3, v4]) d hq LC L e hR c rfl hw kk
theorem a_V5l {M' : Mi} {d' a idx : Nat} (ci : Nat) {q : vw_C} {v1 v2 v3 v4 v5 : Value} {vs : List Value} {Po : Int64 → sH → GH → Prop} (d : decode (mcc M) pc = .ok (.invokevirtual idx, 3)) (LC : LkC M' 5) (L : LkV (mown M) idx M') (hq : vwCl[ci]? = some q) (hq1 : q.1 = mown M') (e : isO S a ci = true) (hR : Fit X M' d' k n) (c : ACl M' d' S g vs Po) (hv : vs = [.ref a, v1, v2, v3, v4, v5]) (hw : Nat.ble (st.map Value.category).sum 8 = true) (kk : ∀ (r : Int64) (S' : sH) (g' : GH), S'.1 = S.1 → Po r S' g' → AW M X Q ad k n (conc S' g') (pc + 3) ls (.long r :: st)) : AW M X Q ad k n (conc S g) pc ls (v5 :: v4 :: v3 :: v2 :: v1 :: .ref a :: st) := by
  subst hv
  exact call_Vl (vs := [v1, v2, v3, v4, v5]) d LC L hq hq1 e hR c rfl hw kk
theorem a_U5l {M' : Mi} {d' a idx : Nat} (ci : Nat) {q : vw_C} {v1 v2 v3 v4 v5 : Value} {vs : List Value} {Po : Int64 → sH → GH → Prop} (d : decode (mcc M) pc = .ok (.invokevirtual idx, 3)) (hq : vwCl[ci]? = some q) (LC : LkC M' 5) (L : LkU (mown M) idx q.1 M' 5) (e : isO S a ci = true) (hR : Fit X M' d' k n) (c : ACl M' d' S g vs Po) (hv : vs = [.ref a, v1, v2, v3, v4, v5]) (hw : Nat.ble (st.map Value.category).sum 8 = true) (kk : ∀ (r : Int64) (S' : sH) (g' : GH), S'.1 = S.1 → Po r S' g' → AW M X Q ad k n (conc S' g') (pc + 3) ls (.long r :: st)) : AW M X Q ad k n (conc S g) pc ls (v5 :: v4 :: v3 :: v2 :: v1 :: .ref a :: st) := by
  subst hv
  exact call_Ul (vs := [v1, v2, v3, v4, v5]) d hq LC L e hR c rfl hw kk
theorem a_V6l {M' : Mi} {d' a idx : Nat} (ci : Nat) {q : vw_C} {v1 v2 v3 v4 v5 v6 : Value} {vs : List Value} {Po : Int64 → sH → GH → Prop} (d : decode (mcc M) pc = .ok (.invokevirtual idx, 3)) (LC : LkC M' 6) (L : LkV (mown M) idx M') (hq : vwCl[ci]? = some q) (hq1 : q.1 = mown M') (e : isO S a ci = true) (hR : Fit X M' d' k n) (c : ACl M' d' S g vs Po) (hv : vs = [.ref a, v1, v2, v3, v4, v5, v6]) (hw : Nat.ble (st.map Value.category).sum 8 = true) (kk : ∀ (r : Int64) (S' : sH) (g' : GH), S'.1 = S.1 → Po r S' g' → AW M X Q ad k n (conc S' g') (pc + 3) ls (.long r :: st)) : AW M X Q ad k n (conc S g) pc ls (v6 :: v5 :: v4 :: v3 :: v2 :: v1 :: .ref a :: st) := by
  subst hv
  exact call_Vl (vs := [v1, v2, v3, v4, v5, v6]) d LC L hq hq1 e hR c rfl hw kk
theorem a_U6l {M' : Mi} {d' a idx : Nat} (ci : Nat) {q : vw_C} {v1 v2 v3 v4 v5 v6 : Value} {vs : List Value} {Po : Int64 → sH → GH → Prop} (d : decode (mcc M) pc = .ok (.invokevirtual idx, 3)) (hq : vwCl[ci]? = some q) (LC : LkC M' 6) (L : LkU (mown M) idx q.1 M' 6) (e : isO S a ci = true) (hR : Fit X M' d' k n) (c : ACl M' d' S g vs Po) (hv : vs = [.ref a, v1, v2, v3, v4, v5, v6]) (hw : Nat.ble (st.map Value.category).sum 8 = true) (kk : ∀ (r : Int64) (S' : sH) (g' : GH), S'.1 = S.1 → Po r S' g' → AW M X Q ad k n (conc S' g') (pc + 3) ls (.long r :: st)) : AW M X Q ad k n (conc S g) pc ls (v6 :: v5 :: v4 :: v3 :: v2 :: v1 :: .ref a :: st) := by
  subst hv
  exact call_Ul (vs := [v1, v2, v3, v4, v5, v6]) d hq LC L e hR c rfl hw kk
theorem a_S0l {M' : Mi} {d' idx : Nat} {vs : List Value} {Po : Int64 → sH → GH → Prop} (d : decode (mcc M) pc = .ok (.invokestatic idx, 3)) (LC : LkC M' 0) (L : LkS (mown M) idx M' ∨ LkN (mown M) idx M') (hR : Fit X M' d' k n) (c : ACl M' d' S g vs Po) (hv : vs = []) (hw : Nat.ble (st.map Value.category).sum 8 = true) (kk : ∀ (r : Int64) (S' : sH) (g' : GH), S'.1 = S.1 → Po r S' g' → AW M X Q ad k n (conc S' g') (pc + 3) ls (.long r :: st)) : AW M X Q ad k n (conc S g) pc ls st := by
  subst hv
  exact call_Sl (vs := []) d LC L hR c rfl hw kk
theorem a_S1l {M' : Mi} {d' idx : Nat} {v1 : Value} {vs : List Value} {Po : Int64 → sH → GH → Prop} (d : decode (mcc M) pc = .ok (.invokestatic idx, 3)) (LC : LkC M' 1) (L : LkS (mown M) idx M' ∨ LkN (mown M) idx M') (hR : Fit X M' d' k n) (c : ACl M' d' S g vs Po) (hv : vs = [v1]) (hw : Nat.ble (st.map Value.category).sum 8 = true) (kk : ∀ (r : Int64) (S' : sH) (g' : GH), S'.1 = S.1 → Po r S' g' → AW M X Q ad k n (conc S' g') (pc + 3) ls (.long r :: st)) : AW M X Q ad k n (conc S g) pc ls (v1 :: st) := by
  subst hv
  exact call_Sl (vs := [v1]) d LC L hR c rfl hw kk
theorem a_S2l {M' : Mi} {d' idx : Nat} {v1 v2 : Value} {vs : List Value} {Po : Int64 → sH → GH → Prop} (d : decode (mcc M) pc = .ok (.invokestatic idx, 3)) (LC : LkC M' 2) (L : LkS (mown M) idx M' ∨ LkN (mown M) idx M') (hR : Fit X M' d' k n) (c : ACl M' d' S g vs Po) (hv : vs = [v1, v2]) (hw : Nat.ble (st.map Value.category).sum 8 = true) (kk : ∀ (r : Int64) (S' : sH) (g' : GH), S'.1 = S.1 → Po r S' g' → AW M X Q ad k n (conc S' g') (pc + 3) ls (.long r :: st)) : AW M X Q ad k n (conc S g) pc ls (v2 :: v1 :: st) := by
  subst hv
  exact call_Sl (vs := [v1, v2]) d LC L hR c rfl hw kk
theorem a_S3l {M' : Mi} {d' idx : Nat} {v1 v2 v3 : Value} {vs : List Value} {Po : Int64 → sH → GH → Prop} (d : decode (mcc M) pc = .ok (.invokestatic idx, 3)) (LC : LkC M' 3) (L : LkS (mown M) idx M' ∨ LkN (mown M) idx M') (hR : Fit X M' d' k n) (c : ACl M' d' S g vs Po) (hv : vs = [v1, v2, v3]) (hw : Nat.ble (st.map Value.category).sum 8 = true) (kk : ∀ (r : Int64) (S' : sH) (g' : GH), S'.1 = S.1 → Po r S' g' → AW M X Q ad k n (conc S' g') (pc + 3) ls (.long r :: st)) : AW M X Q ad k n (conc S g) pc ls (v3 :: v2 :: v1 :: st) := by
  subst hv
  exact call_Sl (vs := [v1, v2, v3]) d LC L hR c rfl hw kk
theorem a_S4l {M' : Mi} {d' idx : Nat} {v1 v2 v3 v4 : Value} {vs : List Value} {Po : Int64 → sH → GH → Prop} (d : decode (mcc M) pc = .ok (.invokestatic idx, 3)) (LC : LkC M' 4) (L : LkS (mown M) idx M' ∨ LkN (mown M) idx M') (hR : Fit X M' d' k n) (c : ACl M' d' S g vs Po) (hv : vs = [v1, v2, v3, v4]) (hw : Nat.ble (st.map Value.category).sum 8 = true) (kk : ∀ (r : Int64) (S' : sH) (g' : GH), S'.1 = S.1 → Po r S' g' → AW M X Q ad k n (conc S' g') (pc + 3) ls (.long r :: st)) : AW M X Q ad k n (conc S g) pc ls (v4 :: v3 :: v2 :: v1 :: st) := by
  subst hv
  exact call_Sl (vs := [v1, v2, v3, v4]) d LC L hR c rfl hw kk
theorem a_S5l {M' : Mi} {d' idx : Nat} {v1 v2 v3 v4 v5 : Value} {vs : List Value} {Po : Int64 → sH → GH → Prop} (d : decode (mcc M) pc = .ok (.invokestatic idx, 3)) (LC : LkC M' 5) (L : LkS (mown M) idx M' ∨ LkN (mown M) idx M') (hR : Fit X M' d' k n) (c : ACl M' d' S g vs Po) (hv : vs = [v1, v2, v3, v4, v5]) (hw : Nat.ble (st.map Value.category).sum 8 = true) (kk : ∀ (r : Int64) (S' : sH) (g' : GH), S'.1 = S.1 → Po r S' g' → AW M X Q ad k n (conc S' g') (pc + 3) ls (.long r :: st)) : AW M X Q ad k n (conc S g) pc ls (v5 :: v4 :: v3 :: v2 :: v1 :: st) := by
  subst hv
  exact call_Sl (vs := [v1, v2, v3, v4, v5]) d LC L hR c rfl hw kk
theorem a_S6l {M' : Mi} {d' idx : Nat} {v1 v2 v3 v4 v5 v6 : Value} {vs : List Value} {Po : Int64 → sH → GH → Prop} (d : decode (mcc M) pc = .ok (.invokestatic idx, 3)) (LC : LkC M' 6) (L : LkS (mown M) idx M' ∨ LkN (mown M) idx M') (hR : Fit X M' d' k n) (c : ACl M' d' S g vs Po) (hv : vs = [v1, v2, v3, v4, v5, v6]) (hw : Nat.ble (st.map Value.category).sum 8 = true) (kk : ∀ (r : Int64) (S' : sH) (g' : GH), S'.1 = S.1 → Po r S' g' → AW M X Q ad k n (conc S' g') (pc + 3) ls (.long r :: st)) : AW M X Q ad k n (conc S g) pc ls (v6 :: v5 :: v4 :: v3 :: v2 :: v1 :: st) := by
  subst hv
  exact call_Sl (vs := [v1, v2, v3, v4, v5, v6]) d LC L hR c rfl hw kk
theorem a_S7l {M' : Mi} {d' idx : Nat} {v1 v2 v3 v4 v5 v6 v7 : Value} {vs : List Value} {Po : Int64 → sH → GH → Prop} (d : decode (mcc M) pc = .ok (.invokestatic idx, 3)) (LC : LkC M' 7) (L : LkS (mown M) idx M' ∨ LkN (mown M) idx M') (hR : Fit X M' d' k n) (c : ACl M' d' S g vs Po) (hv : vs = [v1, v2, v3, v4, v5, v6, v7]) (hw : Nat.ble (st.map Value.category).sum 8 = true) (kk : ∀ (r : Int64) (S' : sH) (g' : GH), S'.1 = S.1 → Po r S' g' → AW M X Q ad k n (conc S' g') (pc + 3) ls (.long r :: st)) : AW M X Q ad k n (conc S g) pc ls (v7 :: v6 :: v5 :: v4 :: v3 :: v2 :: v1 :: st) := by
  subst hv
  exact call_Sl (vs := [v1, v2, v3, v4, v5, v6, v7]) d LC L hR c rfl hw kk
theorem core_v {M' : Mi} {d' : Nat} {vs : List Value} {Po : sH → GH → Prop} (c : ACv M' d' S g vs Po) {stk : List Value}
    (hrun : XOk M X → ∀ (H : Heap) (locs : List Loc) (lc : Array Slot), Rl M X ad (conc S g) ls H locs lc → Met (xl X) (my M') (mws M') (rmD d') (va_Pc (vs.map (sv ad)) (Wd (xD X) (xdA X) ad S g H.size)) (va_Qv (fun (u : sH × GH) => Po u.1 u.2) (Bd (xD X) (xdA X) ad S g H.size) (va_A (sw (xdA X) ad (conc S g)) H.size)) 0 0 (va_A (sw (xdA X) ad (conc S g)) H.size) →
      va_Run (xp X) (xl X) (xe X) (xR X) (xs X) (xm X) (xa X) (xb X) (xme X) (xc X) H locs k n 0 0 (F0 (xm X) pc lc (stk.map (sv ad))) (st.map (sv ad)) ((va_Qv (fun (u : sH × GH) => Po u.1 u.2) (Bd (xD X) (xdA X) ad S g H.size) (va_A (sw (xdA X) ad (conc S g)) H.size)) (vs.map (sv ad)).toArray) (va_A (sw (xdA X) ad (conc S g)) H.size))
    (kk : ∀ (S' : sH) (g' : GH), S'.1 = S.1 → Po S' g' → AW M X Q ad k n (conc S' g') (pc + 3) ls st) : AW M X Q ad k n (conc S g) pc ls stk := by
  intro C H locs lc r
  have hF := Rl.free C r
  exact va_callv (hrun C H locs lc r (c (xl X) (xD X) (xdA X) ad H.size)) r.2.2.1 (fun q _ hq => hF q hq) hF (fun u t H1 locs1 ht hvm hp hB hz hk hS => kk u.1 u.2 hB.1 hp C H1 locs1 lc ⟨ht ▸ hB.2.1, hB.2.2.weaken (fun _ _ _ hq => hF _ hq), hS, r.2.2.2⟩)
theorem call_Vv {M' : Mi} {d' a idx ci nn : Nat} {q : vw_C} {vs : List Value} {Po : sH → GH → Prop} (d : decode (mcc M) pc = .ok (.invokevirtual idx, 3)) (LC : LkC M' nn) (L : LkV (mown M) idx M') (hq : vwCl[ci]? = some q) (hq1 : q.1 = mown M') (e : isO S a ci = true) (hR : Fit X M' d' k n) (c : ACv M' d' S g (.ref a :: vs) Po) (hn : vs.length = nn) (hw : Nat.ble (st.map Value.category).sum 8 = true)
    (kk : ∀ (S' : sH) (g' : GH), S'.1 = S.1 → Po S' g' → AW M X Q ad k n (conc S' g') (pc + 3) ls st) : AW M X Q ad k n (conc S g) pc ls (vs.reverse ++ .ref a :: st) := by
  refine core_v c (fun C H locs lc r hM => ?_) kk
  obtain ⟨ha, fs, hfs⟩ := isO_ok (g := g) e
  have hG : GoodIn gW (wsV (mown M) idx (mown M') (my M') (mws M')) := by
    intro w hwm
    simp only [wsV, List.cons_append, List.nil_append, List.mem_cons] at hwm
    rcases hwm with rfl | rfl | rfl | rfl | h
    · exact gW_good _ L.1
    · exact gW_good _ L.2.1
    · exact gW_good _ L.2.2
    · exact gW_good _ LC.2.2.1
    · exact gW_cons LC.1 _ h
  have hrec := va_recv (q := q) C.2.2.2.2.2.2.2.2.1.1 r.1 hq (q0 := a) (a := ad a) (ci := ci) (fs := fs.map (sv ad)) (by rw [sw_at (h := conc S g) ha, hfs]; rfl)
  rw [hq1] at hrec
  refine va_runV (As := vs.map (sv ad)) (b := ad a) (n := nn) (C := mown M') ⟨C.1, C.2.1, C.2.2.1, C.2.2.2.1, C.2.2.2.2.1⟩ hM (cwV nn C.2.2.2.2.1 hG rfl rfl rfl ⟨rfl, LC.2.1⟩ hR.1) ⟨Wd.blind, hrec, Rl.pre C r⟩ rfl (by simpa using hn) r.2.2.2.1 (by simp [F0, sv]) (lv_room (rest_cat st (Nat.le_of_ble_eq_true hw))) d hR.2
theorem call_Uv {M' : Mi} {d' a idx ci nn : Nat} {q : vw_C} {vs : List Value} {Po : sH → GH → Prop} (d : decode (mcc M) pc = .ok (.invokevirtual idx, 3)) (hq : vwCl[ci]? = some q) (LC : LkC M' nn) (L : LkU (mown M) idx q.1 M' nn) (e : isO S a ci = true) (hR : Fit X M' d' k n) (c : ACv M' d' S g (.ref a :: vs) Po) (hn : vs.length = nn) (hw : Nat.ble (st.map Value.category).sum 8 = true)
    (kk : ∀ (S' : sH) (g' : GH), S'.1 = S.1 → Po S' g' → AW M X Q ad k n (conc S' g') (pc + 3) ls st) : AW M X Q ad k n (conc S g) pc ls (vs.reverse ++ .ref a :: st) := by
  refine core_v c (fun C H locs lc r hM => ?_) kk
  obtain ⟨ha, fs, hfs⟩ := isO_ok (g := g) e
  obtain ⟨owner, x, l1, l2, l3, l4, l5, l6⟩ := L
  have hrec := va_recv (q := q) C.2.2.2.2.2.2.2.2.1.1 r.1 hq (q0 := a) (a := ad a) (ci := ci) (fs := fs.map (sv ad)) (by rw [sw_at (h := conc S g) ha, hfs]; rfl)
  have hcw : va_CU (xR X) (xs X) (xa X) (mown M) q.1 owner idx x (my M') (mcc M') (mnL M') (mret M') (mws M') (rmD d') 0 0 nn := by
    have hG : GoodIn gW (va_wsU (mown M) idx q.1 owner x (my M') (mws M')) := by
      intro w hwm
      simp only [va_wsU, List.cons_append, List.nil_append, List.mem_cons] at hwm
      rcases hwm with rfl | rfl | rfl | rfl | rfl | h
      · exact gW_good _ l1
      · exact gW_good _ l2
      · exact gW_good _ l3
      · exact gW_good _ l4
      · exact gW_good _ LC.2.2.1
      · exact gW_cons LC.1 _ h
    rcases l6 with h | ⟨b0, m0, r0, h0, h⟩ | h
    · exact va_cwU nn C.2.2.2.2.1 hG rfl rfl rfl h l5 hR.1
    · refine va_cwO nn C.2.2.2.2.1 ?_ rfl rfl rfl h l5 hR.1
      intro w hwm
      simp only [va_wsO, List.cons_append, List.nil_append, List.mem_cons] at hwm
      rcases hwm with rfl | rfl | rfl | rfl | rfl | rfl | h
      · exact gW_good _ l1
      · exact gW_good _ l2
      · exact gW_good _ h0
      · exact gW_good _ l3
      · exact gW_good _ l4
      · exact gW_good _ LC.2.2.1
      · exact gW_cons LC.1 _ h
    · exact va_cwA nn C.2.2.2.2.1 hG rfl rfl rfl (C.2.2.2.2.2.2.2.2.1.2.1 _ h) l5 hR.1
  exact va_runU (As := vs.map (sv ad)) (b := ad a) (n := nn) ⟨C.1, C.2.1, C.2.2.1, C.2.2.2.1, C.2.2.2.2.1⟩ hM hcw ⟨Wd.blind, hrec, Rl.pre C r⟩ rfl (by simpa using hn) r.2.2.2.1 (by simp [F0, sv]) (lv_room (rest_cat st (Nat.le_of_ble_eq_true hw))) d hR.2
theorem call_Sv {M' : Mi} {d' idx nn : Nat} {vs : List Value} {Po : sH → GH → Prop} (d : decode (mcc M) pc = .ok (.invokestatic idx, 3)) (LC : LkC M' nn) (L : LkS (mown M) idx M' ∨ LkN (mown M) idx M') (hR : Fit X M' d' k n) (c : ACv M' d' S g vs Po) (hn : vs.length = nn) (hw : Nat.ble (st.map Value.category).sum 8 = true)
    (kk : ∀ (S' : sH) (g' : GH), S'.1 = S.1 → Po S' g' → AW M X Q ad k n (conc S' g') (pc + 3) ls st) : AW M X Q ad k n (conc S g) pc ls (vs.reverse ++ st) := by
  refine core_v c (fun C H locs lc r hM => ?_) kk
  rcases L with L | L
  · have hG : GoodIn gW (va_wsS (mown M) idx (my M') (mws M')) := by
      intro w hwm
      simp only [va_wsS, List.cons_append, List.nil_append, List.mem_cons] at hwm
      rcases hwm with rfl | rfl | rfl | h
      · exact gW_good _ L.1
      · exact gW_good _ L.2
      · exact gW_good _ LC.2.2.1
      · exact gW_cons LC.1 _ h
    exact va_runS (As := vs.map (sv ad)) (n := nn) ⟨C.1, C.2.1, C.2.2.1, C.2.2.2.1, C.2.2.2.2.1⟩ hM (va_cwS nn C.2.2.2.2.1 hG rfl rfl rfl LC.2.1 hR.1) ⟨Wd.blind, Rl.pre C r⟩ rfl (by simpa using hn) r.2.2.2.1 (by simp [F0]) (lv_room (rest_cat st (Nat.le_of_ble_eq_true hw))) d hR.2
  · obtain ⟨⟨host, hh⟩, hs⟩ := L
    exact va_runSN (As := vs.map (sv ad)) (n := nn) ⟨C.1, C.2.1, C.2.2.1, C.2.2.2.1, C.2.2.2.2.1⟩ hM ⟨va_cnB (host := host) nn C.2.2.2.2.1 (gW_cons LC.1) rfl rfl rfl (C.2.2.2.2.2.2.2.2.1.2.1 _ hh) (C.2.2.2.2.1 _ LC.2.2.1) LC.2.1 hR.1, C.2.2.2.2.1 _ hs, trivial⟩ ⟨Wd.blind, Rl.pre C r⟩ rfl (by simpa using hn) r.2.2.2.1 (by simp [F0]) (lv_room (rest_cat st (Nat.le_of_ble_eq_true hw))) d hR.2
theorem a_V0v {M' : Mi} {d' a idx : Nat} (ci : Nat) {q : vw_C} {vs : List Value} {Po : sH → GH → Prop} (d : decode (mcc M) pc = .ok (.invokevirtual idx, 3)) (LC : LkC M' 0) (L : LkV (mown M) idx M') (hq : vwCl[ci]? = some q) (hq1 : q.1 = mown M') (e : isO S a ci = true) (hR : Fit X M' d' k n) (c : ACv M' d' S g vs Po) (hv : vs = [.ref a]) (hw : Nat.ble (st.map Value.category).sum 8 = true) (kk : ∀ (S' : sH) (g' : GH), S'.1 = S.1 → Po S' g' → AW M X Q ad k n (conc S' g') (pc + 3) ls st) : AW M X Q ad k n (conc S g) pc ls (.ref a :: st) := by
  subst hv
  exact call_Vv (vs := []) d LC L hq hq1 e hR c rfl hw kk
theorem a_U0v {M' : Mi} {d' a idx : Nat} (ci : Nat) {q : vw_C} {vs : List Value} {Po : sH → GH → Prop} (d : decode (mcc M) pc = .ok (.invokevirtual idx, 3)) (hq : vwCl[ci]? = some q) (LC : LkC M' 0) (L : LkU (mown M) idx q.1 M' 0) (e : isO S a ci = true) (hR : Fit X M' d' k n) (c : ACv M' d' S g vs Po) (hv : vs = [.ref a]) (hw : Nat.ble (st.map Value.category).sum 8 = true) (kk : ∀ (S' : sH) (g' : GH), S'.1 = S.1 → Po S' g' → AW M X Q ad k n (conc S' g') (pc + 3) ls st) : AW M X Q ad k n (conc S g) pc ls (.ref a :: st) := by
  subst hv
  exact call_Uv (vs := []) d hq LC L e hR c rfl hw kk
theorem a_V1v {M' : Mi} {d' a idx : Nat} (ci : Nat) {q : vw_C} {v1 : Value} {vs : List Value} {Po : sH → GH → Prop} (d : decode (mcc M) pc = .ok (.invokevirtual idx, 3)) (LC : LkC M' 1) (L : LkV (mown M) idx M') (hq : vwCl[ci]? = some q) (hq1 : q.1 = mown M') (e : isO S a ci = true) (hR : Fit X M' d' k n) (c : ACv M' d' S g vs Po) (hv : vs = [.ref a, v1]) (hw : Nat.ble (st.map Value.category).sum 8 = true) (kk : ∀ (S' : sH) (g' : GH), S'.1 = S.1 → Po S' g' → AW M X Q ad k n (conc S' g') (pc + 3) ls st) : AW M X Q ad k n (conc S g) pc ls (v1 :: .ref a :: st) := by
  subst hv
  exact call_Vv (vs := [v1]) d LC L hq hq1 e hR c rfl hw kk
theorem a_U1v {M' : Mi} {d' a idx : Nat} (ci : Nat) {q : vw_C} {v1 : Value} {vs : List Value} {Po : sH → GH → Prop} (d : decode (mcc M) pc = .ok (.invokevirtual idx, 3)) (hq : vwCl[ci]? = some q) (LC : LkC M' 1) (L : LkU (mown M) idx q.1 M' 1) (e : isO S a ci = true) (hR : Fit X M' d' k n) (c : ACv M' d' S g vs Po) (hv : vs = [.ref a, v1]) (hw : Nat.ble (st.map Value.category).sum 8 = true) (kk : ∀ (S' : sH) (g' : GH), S'.1 = S.1 → Po S' g' → AW M X Q ad k n (conc S' g') (pc + 3) ls st) : AW M X Q ad k n (conc S g) pc ls (v1 :: .ref a :: st) := by
  subst hv
  exact call_Uv (vs := [v1]) d hq LC L e hR c rfl hw kk
theorem a_V2v {M' : Mi} {d' a idx : Nat} (ci : Nat) {q : vw_C} {v1 v2 : Value} {vs : List Value} {Po : sH → GH → Prop} (d : decode (mcc M) pc = .ok (.invokevirtual idx, 3)) (LC : LkC M' 2) (L : LkV (mown M) idx M') (hq : vwCl[ci]? = some q) (hq1 : q.1 = mown M') (e : isO S a ci = true) (hR : Fit X M' d' k n) (c : ACv M' d' S g vs Po) (hv : vs = [.ref a, v1, v2]) (hw : Nat.ble (st.map Value.category).sum 8 = true) (kk : ∀ (S' : sH) (g' : GH), S'.1 = S.1 → Po S' g' → AW M X Q ad k n (conc S' g') (pc + 3) ls st) : AW M X Q ad k n (conc S g) pc ls (v2 :: v1 :: .ref a :: st) := by
  subst hv
  exact call_Vv (vs := [v1, v2]) d LC L hq hq1 e hR c rfl hw kk
theorem a_U2v {M' : Mi} {d' a idx : Nat} (ci : Nat) {q : vw_C} {v1 v2 : Value} {vs : List Value} {Po : sH → GH → Prop} (d : decode (mcc M) pc = .ok (.invokevirtual idx, 3)) (hq : vwCl[ci]? = some q) (LC : LkC M' 2) (L : LkU (mown M) idx q.1 M' 2) (e : isO S a ci = true) (hR : Fit X M' d' k n) (c : ACv M' d' S g vs Po) (hv : vs = [.ref a, v1, v2]) (hw : Nat.ble (st.map Value.category).sum 8 = true) (kk : ∀ (S' : sH) (g' : GH), S'.1 = S.1 → Po S' g' → AW M X Q ad k n (conc S' g') (pc + 3) ls st) : AW M X Q ad k n (conc S g) pc ls (v2 :: v1 :: .ref a :: st) := by
  subst hv
  exact call_Uv (vs := [v1, v2]) d hq LC L e hR c rfl hw kk
theorem a_V3v {M' : Mi} {d' a idx : Nat} (ci : Nat) {q : vw_C} {v1 v2 v3 : Value} {vs : List Value} {Po : sH → GH → Prop} (d : decode (mcc M) pc = .ok (.invokevirtual idx, 3)) (LC : LkC M' 3) (L : LkV (mown M) idx M') (hq : vwCl[ci]? = some q) (hq1 : q.1 = mown M') (e : isO S a ci = true) (hR : Fit X M' d' k n) (c : ACv M' d' S g vs Po) (hv : vs = [.ref a, v1, v2, v3]) (hw : Nat.ble (st.map Value.category).sum 8 = true) (kk : ∀ (S' : sH) (g' : GH), S'.1 = S.1 → Po S' g' → AW M X Q ad k n (conc S' g') (pc + 3) ls st) : AW M X Q ad k n (conc S g) pc ls (v3 :: v2 :: v1 :: .ref a :: st) := by
  subst hv
  exact call_Vv (vs := [v1, v2, v3]) d LC L hq hq1 e hR c rfl hw kk
theorem a_U3v {M' : Mi} {d' a idx : Nat} (ci : Nat) {q : vw_C} {v1 v2 v3 : Value} {vs : List Value} {Po : sH → GH → Prop} (d : decode (mcc M) pc = .ok (.invokevirtual idx, 3)) (hq : vwCl[ci]? = some q) (LC : LkC M' 3) (L : LkU (mown M) idx q.1 M' 3) (e : isO S a ci = true) (hR : Fit X M' d' k n) (c : ACv M' d' S g vs Po) (hv : vs = [.ref a, v1, v2, v3]) (hw : Nat.ble (st.map Value.category).sum 8 = true) (kk : ∀ (S' : sH) (g' : GH), S'.1 = S.1 → Po S' g' → AW M X Q ad k n (conc S' g') (pc + 3) ls st) : AW M X Q ad k n (conc S g) pc ls (v3 :: v2 :: v1 :: .ref a :: st) := by
  subst hv
  exact call_Uv (vs := [v1, v2, v3]) d hq LC L e hR c rfl hw kk
theorem a_V4v {M' : Mi} {d' a idx : Nat} (ci : Nat) {q : vw_C} {v1 v2 v3 v4 : Value} {vs : List Value} {Po : sH → GH → Prop} (d : decode (mcc M) pc = .ok (.invokevirtual idx, 3)) (LC : LkC M' 4) (L : LkV (mown M) idx M') (hq : vwCl[ci]? = some q) (hq1 : q.1 = mown M') (e : isO S a ci = true) (hR : Fit X M' d' k n) (c : ACv M' d' S g vs Po) (hv : vs = [.ref a, v1, v2, v3, v4]) (hw : Nat.ble (st.map Value.category).sum 8 = true) (kk : ∀ (S' : sH) (g' : GH), S'.1 = S.1 → Po S' g' → AW M X Q ad k n (conc S' g') (pc + 3) ls st) : AW M X Q ad k n (conc S g) pc ls (v4 :: v3 :: v2 :: v1 :: .ref a :: st) := by
  subst hv
  exact call_Vv (vs := [v1, v2, v3, v4]) d LC L hq hq1 e hR c rfl hw kk
theorem a_U4v {M' : Mi} {d' a idx : Nat} (ci : Nat) {q : vw_C} {v1 v2 v3 v4 : Value} {vs : List Value} {Po : sH → GH → Prop} (d : decode (mcc M) pc = .ok (.invokevirtual idx, 3)) (hq : vwCl[ci]? = some q) (LC : LkC M' 4) (L : LkU (mown M) idx q.1 M' 4) (e : isO S a ci = true) (hR : Fit X M' d' k n) (c : ACv M' d' S g vs Po) (hv : vs = [.ref a, v1, v2, v3, v4]) (hw : Nat.ble (st.map Value.category).sum 8 = true) (kk : ∀ (S' : sH) (g' : GH), S'.1 = S.1 → Po S' g' → AW M X Q ad k n (conc S' g') (pc + 3) ls st) : AW M X Q ad k n (conc S g) pc ls (v4 :: v3 :: v2 :: v1 :: .ref a :: st) := by
  subst hv
  exact call_Uv (vs := [v1, v2, v3, v4]) d hq LC L e hR c rfl hw kk
theorem a_V5v {M' : Mi} {d' a idx : Nat} (ci : Nat) {q : vw_C} {v1 v2 v3 v4 v5 : Value} {vs : List Value} {Po : sH → GH → Prop} (d : decode (mcc M) pc = .ok (.invokevirtual idx, 3)) (LC : LkC M' 5) (L : LkV (mown M) idx M') (hq : vwCl[ci]? = some q) (hq1 : q.1 = mown M') (e : isO S a ci = true) (hR : Fit X M' d' k n) (c : ACv M' d' S g vs Po) (hv : vs = [.ref a, v1, v2, v3, v4, v5]) (hw : Nat.ble (st.map Value.category).sum 8 = true) (kk : ∀ (S' : sH) (g' : GH), S'.1 = S.1 → Po S' g' → AW M X Q ad k n (conc S' g') (pc + 3) ls st) : AW M X Q ad k n (conc S g) pc ls (v5 :: v4 :: v3 :: v2 :: v1 :: .ref a :: st) := by
  subst hv
  exact call_Vv (vs := [v1, v2, v3, v4, v5]) d LC L hq hq1 e hR c rfl hw kk
theorem a_U5v {M' : Mi} {d' a idx : Nat} (ci : Nat) {q : vw_C} {v1 v2 v3 v4 v5 : Value} {vs : List Value} {Po : sH → GH → Prop} (d : decode (mcc M) pc = .ok (.invokevirtual idx, 3)) (hq : vwCl[ci]? = some q) (LC : LkC M' 5) (L : LkU (mown M) idx q.1 M' 5) (e : isO S a ci = true) (hR : Fit X M' d' k n) (c : ACv M' d' S g vs Po) (hv : vs = [.ref a, v1, v2, v3, v4, v5]) (hw : Nat.ble (st.map Value.category).sum 8 = true) (kk : ∀ (S' : sH) (g' : GH), S'.1 = S.1 → Po S' g' → AW M X Q ad k n (conc S' g') (pc + 3) ls st) : AW M X Q ad k n (conc S g) pc ls (v5 :: v4 :: v3 :: v2 :: v1 :: .ref a :: st) := by
  subst hv
  exact call_Uv (vs := [v1, v2, v3, v4, v5]) d hq LC L e hR c rfl hw kk
theorem a_V6v {M' : Mi} {d' a idx : Nat} (ci : Nat) {q : vw_C} {v1 v2 v3 v4 v5 v6 : Value} {vs : List Value} {Po : sH → GH → Prop} (d : decode (mcc M) pc = .ok (.invokevirtual idx, 3)) (LC : LkC M' 6) (L : LkV (mown M) idx M') (hq : vwCl[ci]? = some q) (hq1 : q.1 = mown M') (e : isO S a ci = true) (hR : Fit X M' d' k n) (c : ACv M' d' S g vs Po) (hv : vs = [.ref a, v1, v2, v3, v4, v5, v6]) (hw : Nat.ble (st.map Value.category).sum 8 = true) (kk : ∀ (S' : sH) (g' : GH), S'.1 = S.1 → Po S' g' → AW M X Q ad k n (conc S' g') (pc + 3) ls st) : AW M X Q ad k n (conc S g) pc ls (v6 :: v5 :: v4 :: v3 :: v2 :: v1 :: .ref a :: st) := by
  subst hv
  exact call_Vv (vs := [v1, v2, v3, v4, v5, v6]) d LC L hq hq1 e hR c rfl hw kk
theorem a_U6v {M' : Mi} {d' a idx : Nat} (ci : Nat) {q : vw_C} {v1 v2 v3 v4 v5 v6 : Value} {vs : List Value} {Po : sH → GH → Prop} (d : decode (mcc M) pc = .ok (.invokevirtual idx, 3)) (hq : vwCl[ci]? = some q) (LC : LkC M' 6) (L : LkU (mown M) idx q.1 M' 6) (e : isO S a ci = true) (hR : Fit X M' d' k n) (c : ACv M' d' S g vs Po) (hv : vs = [.ref a, v1, v2, v3, v4, v5, v6]) (hw : Nat.ble (st.map Value.category).sum 8 = true) (kk : ∀ (S' : sH) (g' : GH), S'.1 = S.1 → Po S' g' → AW M X Q ad k n (conc S' g') (pc + 3) ls st) : AW M X Q ad k n (conc S g) pc ls (v6 :: v5 :: v4 :: v3 :: v2 :: v1 :: .ref a :: st) := by
  subst hv
  exact call_Uv (vs := [v1, v2, v3, v4, v5, v6]) d hq LC L e hR c rfl hw kk
theorem a_S0v {M' : Mi} {d' idx : Nat} {vs : List Value} {Po : sH → GH → Prop} (d : decode (mcc M) pc = .ok (.invokestatic idx, 3)) (LC : LkC M' 0) (L : LkS (mown M) idx M' ∨ LkN (mown M) idx M') (hR : Fit X M' d' k n) (c : ACv M' d' S g vs Po) (hv : vs = []) (hw : Nat.ble (st.map Value.category).sum 8 = true) (kk : ∀ (S' : sH) (g' : GH), S'.1 = S.1 → Po S' g' → AW M X Q ad k n (conc S' g') (pc + 3) ls st) : AW M X Q ad k n (conc S g) pc ls st := by
  subst hv
  exact call_Sv (vs := []) d LC L hR c rfl hw kk
theorem a_S1v {M' : Mi} {d' idx : Nat} {v1 : Value} {vs : List Value} {Po : sH → GH → Prop} (d : decode (mcc M) pc = .ok (.invokestatic idx, 3)) (LC : LkC M' 1) (L : LkS (mown M) idx M' ∨ LkN (mown M) idx M') (hR : Fit X M' d' k n) (c : ACv M' d' S g vs Po) (hv : vs = [v1]) (hw : Nat.ble (st.map Value.category).sum 8 = true) (kk : ∀ (S' : sH) (g' : GH), S'.1 = S.1 → Po S' g' → AW M X Q ad k n (conc S' g') (pc + 3) ls st) : AW M X Q ad k n (conc S g) pc ls (v1 :: st) := by
  subst hv
  exact call_Sv (vs := [v1]) d LC L hR c rfl hw kk
theorem a_S2v {M' : Mi} {d' idx : Nat} {v1 v2 : Value} {vs : List Value} {Po : sH → GH → Prop} (d : decode (mcc M) pc = .ok (.invokestatic idx, 3)) (LC : LkC M' 2) (L : LkS (mown M) idx M' ∨ LkN (mown M) idx M') (hR : Fit X M' d' k n) (c : ACv M' d' S g vs Po) (hv : vs = [v1, v2]) (hw : Nat.ble (st.map Value.category).sum 8 = true) (kk : ∀ (S' : sH) (g' : GH), S'.1 = S.1 → Po S' g' → AW M X Q ad k n (conc S' g') (pc + 3) ls st) : AW M X Q ad k n (conc S g) pc ls (v2 :: v1 :: st) := by
  subst hv
  exact call_Sv (vs := [v1, v2]) d LC L hR c rfl hw kk
theorem a_S3v {M' : Mi} {d' idx : Nat} {v1 v2 v3 : Value} {vs : List Value} {Po : sH → GH → Prop} (d : decode (mcc M) pc = .ok (.invokestatic idx, 3)) (LC : LkC M' 3) (L : LkS (mown M) idx M' ∨ LkN (mown M) idx M') (hR : Fit X M' d' k n) (c : ACv M' d' S g vs Po) (hv : vs = [v1, v2, v3]) (hw : Nat.ble (st.map Value.category).sum 8 = true) (kk : ∀ (S' : sH) (g' : GH), S'.1 = S.1 → Po S' g' → AW M X Q ad k n (conc S' g') (pc + 3) ls st) : AW M X Q ad k n (conc S g) pc ls (v3 :: v2 :: v1 :: st) := by
  subst hv
  exact call_Sv (vs := [v1, v2, v3]) d LC L hR c rfl hw kk
theorem a_S4v {M' : Mi} {d' idx : Nat} {v1 v2 v3 v4 : Value} {vs : List Value} {Po : sH → GH → Prop} (d : decode (mcc M) pc = .ok (.invokestatic idx, 3)) (LC : LkC M' 4) (L : LkS (mown M) idx M' ∨ LkN (mown M) idx M') (hR : Fit X M' d' k n) (c : ACv M' d' S g vs Po) (hv : vs = [v1, v2, v3, v4]) (hw : Nat.ble (st.map Value.category).sum 8 = true) (kk : ∀ (S' : sH) (g' : GH), S'.1 = S.1 → Po S' g' → AW M X Q ad k n (conc S' g') (pc + 3) ls st) : AW M X Q ad k n (conc S g) pc ls (v4 :: v3 :: v2 :: v1 :: st) := by
  subst hv
  exact call_Sv (vs := [v1, v2, v3, v4]) d LC L hR c rfl hw kk
theorem a_S5v {M' : Mi} {d' idx : Nat} {v1 v2 v3 v4 v5 : Value} {vs : List Value} {Po : sH → GH → Prop} (d : decode (mcc M) pc = .ok (.invokestatic idx, 3)) (LC : LkC M' 5) (L : LkS (mown M) idx M' ∨ LkN (mown M) idx M') (hR : Fit X M' d' k n) (c : ACv M' d' S g vs Po) (hv : vs = [v1, v2, v3, v4, v5]) (hw : Nat.ble (st.map Value.category).sum 8 = true) (kk : ∀ (S' : sH) (g' : GH), S'.1 = S.1 → Po S' g' → AW M X Q ad k n (conc S' g') (pc + 3) ls st) : AW M X Q ad k n (conc S g) pc ls (v5 :: v4 :: v3 :: v2 :: v1 :: st) := by
  subst hv
  exact call_Sv (vs := [v1, v2, v3, v4, v5]) d LC L hR c rfl hw kk
theorem a_S6v {M' : Mi} {d' idx : Nat} {v1 v2 v3 v4 v5 v6 : Value} {vs : List Value} {Po : sH → GH → Prop} (d : decode (mcc M) pc = .ok (.invokestatic idx, 3)) (LC : LkC M' 6) (L : LkS (mown M) idx M' ∨ LkN (mown M) idx M') (hR : Fit X M' d' k n) (c : ACv M' d' S g vs Po) (hv : vs = [v1, v2, v3, v4, v5, v6]) (hw : Nat.ble (st.map Value.category).sum 8 = true) (kk : ∀ (S' : sH) (g' : GH), S'.1 = S.1 → Po S' g' → AW M X Q ad k n (conc S' g') (pc + 3) ls st) : AW M X Q ad k n (conc S g) pc ls (v6 :: v5 :: v4 :: v3 :: v2 :: v1 :: st) := by
  subst hv
  exact call_Sv (vs := [v1, v2, v3, v4, v5, v6]) d LC L hR c rfl hw kk
theorem a_S7v {M' : Mi} {d' idx : Nat} {v1 v2 v3 v4 v5 v6 v7 : Value} {vs : List Value} {Po : sH → GH → Prop} (d : decode (mcc M) pc = .ok (.invokestatic idx, 3)) (LC : LkC M' 7) (L : LkS (mown M) idx M' ∨ LkN (mown M) idx M') (hR : Fit X M' d' k n) (c : ACv M' d' S g vs Po) (hv : vs = [v1, v2, v3, v4, v5, v6, v7]) (hw : Nat.ble (st.map Value.category).sum 8 = true) (kk : ∀ (S' : sH) (g' : GH), S'.1 = S.1 → Po S' g' → AW M X Q ad k n (conc S' g') (pc + 3) ls st) : AW M X Q ad k n (conc S g) pc ls (v7 :: v6 :: v5 :: v4 :: v3 :: v2 :: v1 :: st) := by
  subst hv
  exact call_Sv (vs := [v1, v2, v3, v4, v5, v6, v7]) d LC L hR c rfl hw kk
end A6
theorem ACi.of {M : Mi} {dd nn : Nat} {S : sH} {g : GH} {vs : List Value} {Po : Int32 → sH → GH → Prop} (LC : LkC M nn) (hret : mret M = some .int) (hl : Nat.ble (lg_sl vs).length (mnL M) = true)
    (body : ∀ (X : Cx) (Q : State → Prop) (ad : Nat → Nat), xR X = rmD dd → (∀ (S' : sH) (g' : GH) (pc : Nat) (ls : List (Option Value)) (v : Int32) , decode (mcc M) pc = .ok (.ireturn, 1) → S'.1 = S.1 → Po v S' g' → AW M X Q ad 0 0 (conc S' g') pc ls [.int v]) → AW M X Q ad 0 0 (conc S g) 0 (sen (mnL M) vs) []) : ACi M dd S g vs Po := by
  intro l D dA ad sz
  refine Met.ofW (cc := mcc M) (maxL := mnL M) (ret := mret M) LC.2.2.2 rfl ?_
  intro p e s m args below meth c s₁ B hml hv
  obtain ⟨rfl, hsz, hP, hK, hD0⟩ := hv
  subst hsz
  have hts := atoms_spec (ws := mws M) B.pre
  have hD := hD0.self (sz := s.heap.size)
  have hA : ∀ q : Nat, s.heap.size ≤ q → va_A (sw dA ad (conc S g)) s.heap.size q := fun q h => Or.inr h
  have C : XOk M (p, l, e, rmD dd, s, m, (vs.map (sv ad)).toArray, below, meth, c, D, dA, va_A (sw dA ad (conc S g)) s.heap.size, s.heap) := ⟨B.exec, B.bytes, hml, findClass_of_methodNamed B.named, fun w hw => hts w (List.mem_cons_of_mem _ hw), B.notSynchronized, (name_of_methodNamed B.named B.method).1, B.returns, hK, hA⟩
  rw [lg_entry_eq]
  have hr := B.returns
  rw [hret] at hr
  have hb2 := body (p, l, e, rmD dd, s, m, (vs.map (sv ad)).toArray, below, meth, c, D, dA, va_A (sw dA ad (conc S g)) s.heap.size, s.heap) (MQ below (va_Qi (fun r (u : sH × GH) => Po r u.1 u.2) (Bd D dA ad S g s.heap.size) (va_A (sw dA ad (conc S g)) s.heap.size)) (vs.map (sv ad)).toArray s 0 0 (va_A (sw dA ad (conc S g)) s.heap.size)) ad rfl (by
    intro S' g' pc ls v d hS' hp C H locs lc r
    exact W.iret (v := v) C.1 C.2.1 hr (fun t ht hW => ⟨⟨v, (S', g'), rfl, hp, hS', by rw [ht]; exact r.1, r.2.1⟩, r.2.2.1.F ht⟩) r.2.2.1.2.2 d C.2.2.2.2.2.1)
  exact hb2 C s.heap [] _ ⟨hP, hD, va_S.rf, sen_has ad vs (Nat.le_of_ble_eq_true hl)⟩
theorem ACz.of {M : Mi} {dd nn : Nat} {S : sH} {g : GH} {vs : List Value} {Po : Int32 → sH → GH → Prop} (LC : LkC M nn) (hret : mret M = some .boolean) (hl : Nat.ble (lg_sl vs).length (mnL M) = true)
    (body : ∀ (X : Cx) (Q : State → Prop) (ad : Nat → Nat), xR X = rmD dd → (∀ (S' : sH) (g' : GH) (pc : Nat) (ls : List (Option Value)) (v : Int32) , decode (mcc M) pc = .ok (.ireturn, 1) → S'.1 = S.1 → v = 0 ∨ v = 1 → Po v S' g' → AW M X Q ad 0 0 (conc S' g') pc ls [.int v]) → AW M X Q ad 0 0 (conc S g) 0 (sen (mnL M) vs) []) : ACi M dd S g vs Po := by
  intro l D dA ad sz
  refine Met.ofW (cc := mcc M) (maxL := mnL M) (ret := mret M) LC.2.2.2 rfl ?_
  intro p e s m args below meth c s₁ B hml hv
  obtain ⟨rfl, hsz, hP, hK, hD0⟩ := hv
  subst hsz
  have hts := atoms_spec (ws := mws M) B.pre
  have hD := hD0.self (sz := s.heap.size)
  have hA : ∀ q : Nat, s.heap.size ≤ q → va_A (sw dA ad (conc S g)) s.heap.size q := fun q h => Or.inr h
  have C : XOk M (p, l, e, rmD dd, s, m, (vs.map (sv ad)).toArray, below, meth, c, D, dA, va_A (sw dA ad (conc S g)) s.heap.size, s.heap) := ⟨B.exec, B.bytes, hml, findClass_of_methodNamed B.named, fun w hw => hts w (List.mem_cons_of_mem _ hw), B.notSynchronized, (name_of_methodNamed B.named B.method).1, B.returns, hK, hA⟩
  rw [lg_entry_eq]
  have hr := B.returns
  rw [hret] at hr
  have hb2 := body (p, l, e, rmD dd, s, m, (vs.map (sv ad)).toArray, below, meth, c, D, dA, va_A (sw dA ad (conc S g)) s.heap.size, s.heap) (MQ below (va_Qi (fun r (u : sH × GH) => Po r u.1 u.2) (Bd D dA ad S g s.heap.size) (va_A (sw dA ad (conc S g)) s.heap.size)) (vs.map (sv ad)).toArray s 0 0 (va_A (sw dA ad (conc S g)) s.heap.size)) ad rfl (by
    intro S' g' pc ls v d hS' hz hp C H locs lc r
    exact W.zret (v := v) C.1 C.2.1 hr (by rcases hz with rfl | rfl <;> rfl) (fun t ht hW => ⟨⟨v, (S', g'), rfl, hp, hS', by rw [ht]; exact r.1, r.2.1⟩, r.2.2.1.F ht⟩) r.2.2.1.2.2 d C.2.2.2.2.2.1)
  exact hb2 C s.heap [] _ ⟨hP, hD, va_S.rf, sen_has ad vs (Nat.le_of_ble_eq_true hl)⟩
theorem ACl.of {M : Mi} {dd nn : Nat} {S : sH} {g : GH} {vs : List Value} {Po : Int64 → sH → GH → Prop} (LC : LkC M nn) (hret : mret M = some .long) (hl : Nat.ble (lg_sl vs).length (mnL M) = true)
    (body : ∀ (X : Cx) (Q : State → Prop) (ad : Nat → Nat), xR X = rmD dd → (∀ (S' : sH) (g' : GH) (pc : Nat) (ls : List (Option Value)) (v : Int64) , decode (mcc M) pc = .ok (.lreturn, 1) → S'.1 = S.1 → Po v S' g' → AW M X Q ad 0 0 (conc S' g') pc ls [.long v]) → AW M X Q ad 0 0 (conc S g) 0 (sen (mnL M) vs) []) : ACl M dd S g vs Po := by
  intro l D dA ad sz
  refine Met.ofW (cc := mcc M) (maxL := mnL M) (ret := mret M) LC.2.2.2 rfl ?_
  intro p e s m args below meth c s₁ B hml hv
  obtain ⟨rfl, hsz, hP, hK, hD0⟩ := hv
  subst hsz
  have hts := atoms_spec (ws := mws M) B.pre
  have hD := hD0.self (sz := s.heap.size)
  have hA : ∀ q : Nat, s.heap.size ≤ q → va_A (sw dA ad (conc S g)) s.heap.size q := fun q h => Or.inr h
  have C : XOk M (p, l, e, rmD dd, s, m, (vs.map (sv ad)).toArray, below, meth, c, D, dA, va_A (sw dA ad (conc S g)) s.heap.size, s.heap) := ⟨B.exec, B.bytes, hml, findClass_of_methodNamed B.named, fun w hw => hts w (List.mem_cons_of_mem _ hw), B.notSynchronized, (name_of_methodNamed B.named B.method).1, B.returns, hK, hA⟩
  rw [lg_entry_eq]
  have hr := B.returns
  rw [hret] at hr
  have hb2 := body (p, l, e, rmD dd, s, m, (vs.map (sv ad)).toArray, below, meth, c, D, dA, va_A (sw dA ad (conc S g)) s.heap.size, s.heap) (MQ below (va_Ql (fun r (u : sH × GH) => Po r u.1 u.2) (Bd D dA ad S g s.heap.size) (va_A (sw dA ad (conc S g)) s.heap.size)) (vs.map (sv ad)).toArray s 0 0 (va_A (sw dA ad (conc S g)) s.heap.size)) ad rfl (by
    intro S' g' pc ls v d hS' hp C H locs lc r
    exact W.lret (v := v) C.1 C.2.1 hr (fun t ht hW => ⟨⟨v, (S', g'), rfl, hp, hS', by rw [ht]; exact r.1, r.2.1⟩, r.2.2.1.F ht⟩) r.2.2.1.2.2 d C.2.2.2.2.2.1)
  exact hb2 C s.heap [] _ ⟨hP, hD, va_S.rf, sen_has ad vs (Nat.le_of_ble_eq_true hl)⟩
theorem ACv.of {M : Mi} {dd nn : Nat} {S : sH} {g : GH} {vs : List Value} {Po : sH → GH → Prop} (LC : LkC M nn) (hret : mret M = none) (hl : Nat.ble (lg_sl vs).length (mnL M) = true)
    (body : ∀ (X : Cx) (Q : State → Prop) (ad : Nat → Nat), xR X = rmD dd → (∀ (S' : sH) (g' : GH) (pc : Nat) (ls : List (Option Value)) , decode (mcc M) pc = .ok (.return_, 1) → S'.1 = S.1 → Po S' g' → AW M X Q ad 0 0 (conc S' g') pc ls []) → AW M X Q ad 0 0 (conc S g) 0 (sen (mnL M) vs) []) : ACv M dd S g vs Po := by
  intro l D dA ad sz
  refine Met.ofW (cc := mcc M) (maxL := mnL M) (ret := mret M) LC.2.2.2 rfl ?_
  intro p e s m args below meth c s₁ B hml hv
  obtain ⟨rfl, hsz, hP, hK, hD0⟩ := hv
  subst hsz
  have hts := atoms_spec (ws := mws M) B.pre
  have hD := hD0.self (sz := s.heap.size)
  have hA : ∀ q : Nat, s.heap.size ≤ q → va_A (sw dA ad (conc S g)) s.heap.size q := fun q h => Or.inr h
  have C : XOk M (p, l, e, rmD dd, s, m, (vs.map (sv ad)).toArray, below, meth, c, D, dA, va_A (sw dA ad (conc S g)) s.heap.size, s.heap) := ⟨B.exec, B.bytes, hml, findClass_of_methodNamed B.named, fun w hw => hts w (List.mem_cons_of_mem _ hw), B.notSynchronized, (name_of_methodNamed B.named B.method).1, B.returns, hK, hA⟩
  rw [lg_entry_eq]
  have hr := B.returns
  rw [hret] at hr
  have hb2 := body (p, l, e, rmD dd, s, m, (vs.map (sv ad)).toArray, below, meth, c, D, dA, va_A (sw dA ad (conc S g)) s.heap.size, s.heap) (MQ below (va_Qv (fun (u : sH × GH) => Po u.1 u.2) (Bd D dA ad S g s.heap.size) (va_A (sw dA ad (conc S g)) s.heap.size)) (vs.map (sv ad)).toArray s 0 0 (va_A (sw dA ad (conc S g)) s.heap.size)) ad rfl (by
    intro S' g' pc ls d hS' hp C H locs lc r
    exact W.vret C.1 C.2.1 hr (fun t ht hW => ⟨⟨(S', g'), rfl, hp, hS', by rw [ht]; exact r.1, r.2.1⟩, r.2.2.1.F ht⟩) r.2.2.1.2.2 d C.2.2.2.2.2.1)
  exact hb2 C s.heap [] _ ⟨hP, hD, va_S.rf, sen_has ad vs (Nat.le_of_ble_eq_true hl)⟩
