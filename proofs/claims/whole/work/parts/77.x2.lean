section X77
theorem XCi.of {M : Mi} {dd nn : Nat} {S : sH} {g : GH} {vs : List Value} {Po : Int32 → sH → GH → Prop} {Px : String → sH → GH → Prop} (LC : LkC M nn) (hret : mret M = some .int) (hl : Nat.ble (lg_sl vs).length (mnL M) = true) (hdd : 6 ≤ dd)
    (body : ∀ (X : Cx) (Q : State → Prop) (ad : Nat → Nat), xR X = rmX dd → (∀ (S' : sH) (g' : GH) (pc : Nat) (ls : List (Option Value)) (v : Int32) , decode (mcc M) pc = .ok (.ireturn, 1) → S'.1 = S.1 → Po v S' g' → AW M X Q ad 0 0 (conc S' g') pc ls [.int v]) → (∀ (S' : sH) (g' : GH) (pc : Nat) (ls : List (Option Value)) (E : String), thA M pc E → S'.1 = S.1 → Px E S' g' → AW M X Q ad 0 0 (conc S' g') pc ls []) → AW M X Q ad 0 0 (conc S g) 0 (sen (mnL M) vs) []) : XCi M dd S g vs Po Px := by
  intro l hl0 D dA ad sz
  refine vx_ofW (cc := mcc M) (maxL := mnL M) (ret := mret M) LC.2.2.2 rfl ?_
  intro p e s m args below meth c s₁ B hml hex hv
  obtain ⟨rfl, ⟨hsz, hP, hK, hD0⟩, hT⟩ := hv
  subst hsz
  have hts := atoms_spec (ws := mws M) B.pre
  have hD := hD0.self (sz := s.heap.size)
  have hA : ∀ q : Nat, s.heap.size ≤ q → va_A (sw dA ad (conc S g)) s.heap.size q := fun q h => Or.inr h
  have C : XOk M (p, l, e, rmX dd, s, m, (vs.map (sv ad)).toArray, below, meth, c, D, dA, va_A (sw dA ad (conc S g)) s.heap.size, s.heap) := ⟨B.exec, B.bytes, hml, findClass_of_methodNamed B.named, fun w hw => hts w (List.mem_cons_of_mem _ hw), B.notSynchronized, (name_of_methodNamed B.named B.method).1, B.returns, hK, hA⟩
  rw [lg_entry_eq]
  have hr := B.returns
  rw [hret] at hr
  have hb2 := body (p, l, e, rmX dd, s, m, (vs.map (sv ad)).toArray, below, meth, c, D, dA, va_A (sw dA ad (conc S g)) s.heap.size, s.heap) (vx_MQ below (va_Qi (fun r (u : sH × GH) => Po r u.1 u.2) (Bd D dA ad S g s.heap.size) (va_A (sw dA ad (conc S g)) s.heap.size)) (vx_X (fun (_ : sH × GH) => True) (XB D dA ad S g s.heap.size Px) (va_A (sw dA ad (conc S g)) s.heap.size)) (vs.map (sv ad)).toArray s 1 6 (va_A (sw dA ad (conc S g)) s.heap.size)) ad rfl (by
    intro S' g' pc ls v d hS' hp C H locs lc r
    exact vx_ret (W.widen (k := 1) (n := 6) (Nat.zero_le _) (Nat.zero_le _) (W.iret (v := v) C.1 C.2.1 hr (fun t ht hW => ⟨⟨v, (S', g'), rfl, hp, hS', by rw [ht]; exact r.1, r.2.1⟩, r.2.2.1.F ht⟩) r.2.2.1.2.2 d C.2.2.2.2.2.1))) (by
    intro S' g' pc ls E hth hS' hp C H locs lc r
    obtain ⟨how, ik, is, ic, ⟨d0, d3, d4, d6, d9⟩, hk⟩ := hth
    obtain ⟨k1, k2, k3, ⟨tx, sa, k4⟩, k5, k6⟩ := th_go C hT hk
    have hfr : nmE.length + 3 < (rmX dd).frames := by show 2 + 3 < dd; omega
    have hlo : ((([] : List Value).map (sv ad)).map fun v => v.category).sum + (13 * (nmE.length + 1) + 43) ≤ (rmX dd).locals := by show 0 + (13 * (2 + 1) + 43) ≤ 64 * dd; omega
    exact vx_throwS (names := nmE) (A := va_A (sw dA ad (conc S g)) s.heap.size) C.1 C.2.1 hl0 (by rw [← how]; exact C.2.2.2.1) k1 (by decide +kernel) k2 k3 k4 k5 k6 hT.1.1 hT.1.2 r.2.2.1 (r.2.2.2.1.trans C.2.2.1.symm) d0 d3 d4 d6 d9 (fun x hx => (hex x hx).elim) hfr hlo (Nat.le_refl _) (Nat.le_refl _) C.2.2.2.2.2.1
      (fun t hvm hz hq => ⟨(S', g'), trivial, ⟨hp, hS', r.1.kept (fun k q hk => hq _ (vx_lt r.1 hk)), r.2.1⟩, ⟨Nat.le_trans r.2.2.1.1 hz, fun q h1 h2 => by rw [hq q (Nat.lt_of_lt_of_le h1 r.2.2.1.1)]; exact r.2.2.1.2.1 q h1 h2⟩⟩) r.2.2.1.2.2 (Nat.le_refl _) (Nat.le_refl _))
  exact hb2 C s.heap [] _ ⟨hP, hD, va_S.rf, sen_has ad vs (Nat.le_of_ble_eq_true hl)⟩
theorem XCl.of {M : Mi} {dd nn : Nat} {S : sH} {g : GH} {vs : List Value} {Po : Int64 → sH → GH → Prop} {Px : String → sH → GH → Prop} (LC : LkC M nn) (hret : mret M = some .long) (hl : Nat.ble (lg_sl vs).length (mnL M) = true) (hdd : 6 ≤ dd)
    (body : ∀ (X : Cx) (Q : State → Prop) (ad : Nat → Nat), xR X = rmX dd → (∀ (S' : sH) (g' : GH) (pc : Nat) (ls : List (Option Value)) (v : Int64) , decode (mcc M) pc = .ok (.lreturn, 1) → S'.1 = S.1 → Po v S' g' → AW M X Q ad 0 0 (conc S' g') pc ls [.long v]) → (∀ (S' : sH) (g' : GH) (pc : Nat) (ls : List (Option Value)) (E : String), thA M pc E → S'.1 = S.1 → Px E S' g' → AW M X Q ad 0 0 (conc S' g') pc ls []) → AW M X Q ad 0 0 (conc S g) 0 (sen (mnL M) vs) []) : XCl M dd S g vs Po Px := by
  intro l hl0 D dA ad sz
  refine vx_ofW (cc := mcc M) (maxL := mnL M) (ret := mret M) LC.2.2.2 rfl ?_
  intro p e s m args below meth c s₁ B hml hex hv
  obtain ⟨rfl, ⟨hsz, hP, hK, hD0⟩, hT⟩ := hv
  subst hsz
  have hts := atoms_spec (ws := mws M) B.pre
  have hD := hD0.self (sz := s.heap.size)
  have hA : ∀ q : Nat, s.heap.size ≤ q → va_A (sw dA ad (conc S g)) s.heap.size q := fun q h => Or.inr h
  have C : XOk M (p, l, e, rmX dd, s, m, (vs.map (sv ad)).toArray, below, meth, c, D, dA, va_A (sw dA ad (conc S g)) s.heap.size, s.heap) := ⟨B.exec, B.bytes, hml, findClass_of_methodNamed B.named, fun w hw => hts w (List.mem_cons_of_mem _ hw), B.notSynchronized, (name_of_methodNamed B.named B.method).1, B.returns, hK, hA⟩
  rw [lg_entry_eq]
  have hr := B.returns
  rw [hret] at hr
  have hb2 := body (p, l, e, rmX dd, s, m, (vs.map (sv ad)).toArray, below, meth, c, D, dA, va_A (sw dA ad (conc S g)) s.heap.size, s.heap) (vx_MQ below (va_Ql (fun r (u : sH × GH) => Po r u.1 u.2) (Bd D dA ad S g s.heap.size) (va_A (sw dA ad (conc S g)) s.heap.size)) (vx_X (fun (_ : sH × GH) => True) (XB D dA ad S g s.heap.size Px) (va_A (sw dA ad (conc S g)) s.heap.size)) (vs.map (sv ad)).toArray s 1 6 (va_A (sw dA ad (conc S g)) s.heap.size)) ad rfl (by
    intro S' g' pc ls v d hS' hp C H locs lc r
    exact vx_ret (W.widen (k := 1) (n := 6) (Nat.zero_le _) (Nat.zero_le _) (W.lret (v := v) C.1 C.2.1 hr (fun t ht hW => ⟨⟨v, (S', g'), rfl, hp, hS', by rw [ht]; exact r.1, r.2.1⟩, r.2.2.1.F ht⟩) r.2.2.1.2.2 d C.2.2.2.2.2.1))) (by
    intro S' g' pc ls E hth hS' hp C H locs lc r
    obtain ⟨how, ik, is, ic, ⟨d0, d3, d4, d6, d9⟩, hk⟩ := hth
    obtain ⟨k1, k2, k3, ⟨tx, sa, k4⟩, k5, k6⟩ := th_go C hT hk
    have hfr : nmE.length + 3 < (rmX dd).frames := by show 2 + 3 < dd; omega
    have hlo : ((([] : List Value).map (sv ad)).map fun v => v.category).sum + (13 * (nmE.length + 1) + 43) ≤ (rmX dd).locals := by show 0 + (13 * (2 + 1) + 43) ≤ 64 * dd; omega
    exact vx_throwS (names := nmE) (A := va_A (sw dA ad (conc S g)) s.heap.size) C.1 C.2.1 hl0 (by rw [← how]; exact C.2.2.2.1) k1 (by decide +kernel) k2 k3 k4 k5 k6 hT.1.1 hT.1.2 r.2.2.1 (r.2.2.2.1.trans C.2.2.1.symm) d0 d3 d4 d6 d9 (fun x hx => (hex x hx).elim) hfr hlo (Nat.le_refl _) (Nat.le_refl _) C.2.2.2.2.2.1
      (fun t hvm hz hq => ⟨(S', g'), trivial, ⟨hp, hS', r.1.kept (fun k q hk => hq _ (vx_lt r.1 hk)), r.2.1⟩, ⟨Nat.le_trans r.2.2.1.1 hz, fun q h1 h2 => by rw [hq q (Nat.lt_of_lt_of_le h1 r.2.2.1.1)]; exact r.2.2.1.2.1 q h1 h2⟩⟩) r.2.2.1.2.2 (Nat.le_refl _) (Nat.le_refl _))
  exact hb2 C s.heap [] _ ⟨hP, hD, va_S.rf, sen_has ad vs (Nat.le_of_ble_eq_true hl)⟩
theorem HCi.of {M : Mi} {hh : List (Nat × Nat × Nat × Nat)} {dd : Nat} {S : sH} {g : GH} {vs : List Value} {Po : Int32 → sH → GH → Prop} (hpl : plainName (mown M) = true) (hret : mret M = some .int) (hl : Nat.ble (lg_sl vs).length (mnL M) = true)
    (body : ∀ (X : Cx) (Q : State → Prop) (ad : Nat → Nat), xR X = rmX dd → (xl X).stackTraces = false → Tx (xA X) (xs X) (xH X) → (xc X).exceptionTable.toList = tableOf hh → (∀ (S' : sH) (g' : GH) (pc : Nat) (ls : List (Option Value)) (v : Int32) (k n : Nat), k ≤ 1 → n ≤ 6 → decode (mcc M) pc = .ok (.ireturn, 1) → S'.1 = S.1 → Po v S' g' → AW M X Q ad k n (conc S' g') pc ls [.int v]) → AW M X Q ad 0 0 (conc S g) 0 (sen (mnL M) vs) []) : HCi M hh dd S g vs Po := by
  intro l hl0 D dA ad sz
  refine vx_ofWH (cc := mcc M) (maxL := mnL M) (ret := mret M) (hh := hh) hpl rfl ?_
  intro p e s m args below meth c s₁ B hml hv
  obtain ⟨rfl, ⟨hsz, hP, hK, hD0⟩, hT⟩ := hv
  subst hsz
  have hts := atoms_spec (ws := hws M hh) B.pre
  have htb := vx_table (x := my M) B (hts (Cond.codeWith (my M) (mcc M) (mnL M) (mret M) hh) List.mem_cons_self)
  have hD := hD0.self (sz := s.heap.size)
  have hA : ∀ q : Nat, s.heap.size ≤ q → va_A (sw dA ad (conc S g)) s.heap.size q := fun q h => Or.inr h
  have C : XOk M (p, l, e, rmX dd, s, m, (vs.map (sv ad)).toArray, below, meth, c, D, dA, va_A (sw dA ad (conc S g)) s.heap.size, s.heap) := ⟨B.exec, B.bytes, hml, findClass_of_methodNamed B.named, fun w hw => hts w (List.mem_cons_of_mem _ hw), B.notSynchronized, (name_of_methodNamed B.named B.method).1, B.returns, hK, hA⟩
  rw [lg_entry_eq]
  have hr := B.returns
  rw [hret] at hr
  have hb2 := body (p, l, e, rmX dd, s, m, (vs.map (sv ad)).toArray, below, meth, c, D, dA, va_A (sw dA ad (conc S g)) s.heap.size, s.heap) (vx_MQ below (va_Qi (fun r (u : sH × GH) => Po r u.1 u.2) (Bd D dA ad S g s.heap.size) (va_A (sw dA ad (conc S g)) s.heap.size)) (vx_X (fun (_ : sH × GH) => False) (XB D dA ad S g s.heap.size (fun _ _ _ => False)) (va_A (sw dA ad (conc S g)) s.heap.size)) (vs.map (sv ad)).toArray s 1 6 (va_A (sw dA ad (conc S g)) s.heap.size)) ad rfl hl0 hT htb (by
    intro S' g' pc ls v k n hk hn d hS' hp C H locs lc r
    exact vx_ret (W.widen (k := 1) (n := 6) hk hn (W.iret (v := v) C.1 C.2.1 hr (fun t ht hW => ⟨⟨v, (S', g'), rfl, hp, hS', by rw [ht]; exact r.1, r.2.1⟩, r.2.2.1.F ht⟩) r.2.2.1.2.2 d C.2.2.2.2.2.1)))
  exact hb2 C s.heap [] _ ⟨hP, hD, va_S.rf, sen_has ad vs (Nat.le_of_ble_eq_true hl)⟩
/-! calling them -/
variable {M : Mi} {X : Cx} {Q : State → Prop} {ad : Nat → Nat} {k n : Nat} {S : sH} {g : GH} {pc : Nat} {ls : List (Option Value)} {st : List Value}
def FitX (X : Cx) (M : Mi) (d k n : Nat) : Prop := (d + 1 ≤ (xR X).frames ∧ 8 + (mnL M + 11) + 64 * d ≤ (xR X).locals) ∧ k + 1 ≤ (xR X).cells ∧ n + 6 ≤ (xR X).slots
theorem fitX_of {M' : Mi} {d e : Nat} (hR : xR X = rmX e) (h : d < e) (hL : Nat.ble (mnL M') 45 = true) : FitX X M' d 0 0 := by
  have h2 := Nat.le_of_ble_eq_true hL
  unfold FitX
  rw [hR]
  exact ⟨⟨h, by show 8 + (mnL M' + 11) + 64 * d ≤ 64 * e; omega⟩, Nat.le_refl _, Nat.le_refl _⟩
theorem fit_ofX {M' : Mi} {d e : Nat} (hR : xR X = rmX e) (h : d < e) (hL : Nat.ble (mnL M') 45 = true) : Fit X M' d 0 0 := by
  have h2 := Nat.le_of_ble_eq_true hL
  unfold Fit
  rw [hR]
  exact ⟨⟨h, by show 8 + (mnL M' + 11) + 64 * d ≤ 64 * e; omega⟩, Nat.zero_le _, Nat.zero_le _⟩
theorem Rl.preX {vs : List Value} {H : Heap} {locs : List Loc} {lc : Array Slot} (C : XOk M X) (hT : Tx (xA X) (xs X) (xH X)) (r : Rl M X ad (conc S g) ls H locs lc) : ∀ U : State, U.heap = H → (xs X).WarmedH U.vm → va_Pc (vs.map (sv ad)) (WdX (xD X) (xdA X) ad S g H.size) (vs.map (sv ad)).toArray U :=
  fun U hU hW => ⟨rfl, (Rl.pre (vs := vs) C r U hU hW).2, ((hT.kept (H1 := U.heap) (by rw [hU]; exact r.2.2.1.2.1)).narrow (Rl.free C r)).warm hW⟩
/-- what is thrown here, and over which heap -/
def TW (M : Mi) (X : Cx) (Q : State → Prop) (ad : Nat → Nat) (k n : Nat) (h : sH) (pc : Nat) (ls : List (Option Value)) (st : List Value) (E : String) : Prop := XOk M X → ∀ (H : Heap) (locs : List Loc) (lc : Array Slot) (q : Addr) (ce : Cell), Rl M X ad h ls H locs lc → H[q]? = some ce → ce.vm = .none → (xs X).vm.findClass E = some ce.cls → vx_W (xp X) (xl X) (xe X) (xR X) (xs X) (xm X) (xa X) (xb X) (xme X) (xc X) H locs k n Q (F0 (xm X) pc lc (st.map (sv ad))) q
theorem call_VXi {M' : Mi} {d' a idx ci nn : Nat} {q : vw_C} {vs : List Value} {Po : Int32 → sH → GH → Prop} {Px : String → sH → GH → Prop} (d : decode (mcc M) pc = .ok (.invokevirtual idx, 3)) (LC : LkC M' nn) (L : LkV (mown M) idx M') (hq : vwCl[ci]? = some q) (hq1 : q.1 = mown M') (e : isO S a ci = true) (hR : FitX X M' d' k n) (hl : (xl X).stackTraces = false) (hT : Tx (xA X) (xs X) (xH X)) (c : XCi M' d' S g (.ref a :: vs) Po Px) (hn : vs.length = nn) (hw : Nat.ble (st.map Value.category).sum 8 = true)
    (kx : ∀ (E : String) (S' : sH) (g' : GH), S'.1 = S.1 → Px E S' g' → TW M X Q ad (k + 1) (n + 6) (conc S' g') pc ls st E)
    (kk : ∀ (r : Int32) (S' : sH) (g' : GH), S'.1 = S.1 → Po r S' g' → AW M X Q ad (k + 1) (n + 6) (conc S' g') (pc + 3) ls (.int r :: st)) : AW M X Q ad k n (conc S g) pc ls (vs.reverse ++ .ref a :: st) := by
  intro C H locs lc r
  have hF := Rl.free C r
  obtain ⟨ha, fs, hfs⟩ := isO_ok (g := g) e
  have hG : GoodIn gW (wsV (mown M) idx (mown M') (my M') (mws M')) := by
    intro w hwm
    simp only [wsV, List.cons_append, List.nil_append, List.mem_cons] at hwm
    rcases hwm with rfl | rfl | rfl | rfl | h
    · exact gW_good _ L.1
    · exact gW_good _ L.2.1
    · exact gW_good _ L.2.2
    · exact gW_good _ LC.2.2.1
    · exact gW_cons LC.1 _ h
  have hrec := va_recv (q := q) C.2.2.2.2.2.2.2.2.1.1 r.1 hq (q0 := a) (a := ad a) (ci := ci) (fs := fs.map (sv ad)) (by rw [sw_at (h := conc S g) ha, hfs]; rfl)
  rw [hq1] at hrec
  have hrun := vx_runV (e := xe X) (m := xm X) (below := xb X) (meth := xme X) (locs := locs) (cells := k) (slots := n) (rest := st.map (sv ad)) (g := F0 (xm X) pc lc ((vs.reverse ++ .ref a :: st).map (sv ad))) (As := vs.map (sv ad)) (b := ad a) (n := nn) (C := mown M') ⟨C.1, C.2.1, C.2.2.1, C.2.2.2.1, C.2.2.2.2.1⟩ (c (xl X) hl (xD X) (xdA X) ad H.size) (cwV nn C.2.2.2.2.1 hG rfl rfl rfl ⟨rfl, LC.2.1⟩ hR.1) ⟨WdX.blind, hrec, Rl.preX C hT r⟩ rfl (by simpa using hn) r.2.2.2.1 (by simp [F0, sv]) (lv_room (rest_cat st (Nat.le_of_ble_eq_true hw))) d hR.2
  exact vx_calli hrun r.2.2.1 (fun q _ hq => hF q hq) hF (fun q _ hq => hF q hq)
    (fun E ce q9 u t H1 locs1 ht hvm _ hB hz hk hS h1 h2 h3 => kx E u.1 u.2 hB.2.1 hB.1 C H1 locs1 lc q9 ce ⟨ht ▸ hB.2.2.1, hB.2.2.2.weaken (fun _ _ _ hq => hF _ hq), hS, r.2.2.2⟩ h1 h2 h3)
    (fun r1 u t H1 locs1 ht hvm hp hB hz hk hS => kk r1 u.1 u.2 hB.1 hp C H1 locs1 lc ⟨ht ▸ hB.2.1, hB.2.2.weaken (fun _ _ _ hq => hF _ hq), hS, r.2.2.2⟩)
theorem call_VXl {M' : Mi} {d' a idx ci nn : Nat} {q : vw_C} {vs : List Value} {Po : Int64 → sH → GH → Prop} {Px : String → sH → GH → Prop} (d : decode (mcc M) pc = .ok (.invokevirtual idx, 3)) (LC : LkC M' nn) (L : LkV (mown M) idx M') (hq : vwCl[ci]? = some q) (hq1 : q.1 = mown M') (e : isO S a ci = true) (hR : FitX X M' d' k n) (hl : (xl X).stackTraces = false) (hT : Tx (xA X) (xs X) (xH X)) (c : XCl M' d' S g (.ref a :: vs) Po Px) (hn : vs.length = nn) (hw : Nat.ble (st.map Value.category).sum 8 = true)
    (kx : ∀ (E : String) (S' : sH) (g' : GH), S'.1 = S.1 → Px E S' g' → TW M X Q ad (k + 1) (n + 6) (conc S' g') pc ls st E)
    (kk : ∀ (r : Int64) (S' : sH) (g' : GH), S'.1 = S.1 → Po r S' g' → AW M X Q ad (k + 1) (n + 6) (conc S' g') (pc + 3) ls (.long r :: st)) : AW M X Q ad k n (conc S g) pc ls (vs.reverse ++ .ref a :: st) := by
  intro C H locs lc r
  have hF := Rl.free C r
  obtain ⟨ha, fs, hfs⟩ := isO_ok (g := g) e
  have hG : GoodIn gW (wsV (mown M) idx (mown M') (my M') (mws M')) := by
    intro w hwm
    simp only [wsV, List.cons_append, List.nil_append, List.mem_cons] at hwm
    rcases hwm with rfl | rfl | rfl | rfl | h
    · exact gW_good _ L.1
    · exact gW_good _ L.2.1
    · exact gW_good _ L.2.2
    · exact gW_good _ LC.2.2.1
    · exact gW_cons LC.1 _ h
  have hrec := va_recv (q := q) C.2.2.2.2.2.2.2.2.1.1 r.1 hq (q0 := a) (a := ad a) (ci := ci) (fs := fs.map (sv ad)) (by rw [sw_at (h := conc S g) ha, hfs]; rfl)
  rw [hq1] at hrec
  have hrun := vx_runV (e := xe X) (m := xm X) (below := xb X) (meth := xme X) (locs := locs) (cells := k) (slots := n) (rest := st.map (sv ad)) (g := F0 (xm X) pc lc ((vs.reverse ++ .ref a :: st).map (sv ad))) (As := vs.map (sv ad)) (b := ad a) (n := nn) (C := mown M') ⟨C.1, C.2.1, C.2.2.1, C.2.2.2.1, C.2.2.2.2.1⟩ (c (xl X) hl (xD X) (xdA X) ad H.size) (cwV nn C.2.2.2.2.1 hG rfl rfl rfl ⟨rfl, LC.2.1⟩ hR.1) ⟨WdX.blind, hrec, Rl.preX C hT r⟩ rfl (by simpa using hn) r.2.2.2.1 (by simp [F0, sv]) (lv_room (rest_cat st (Nat.le_of_ble_eq_true hw))) d hR.2
  exact vx_calll hrun r.2.2.1 (fun q _ hq => hF q hq) hF (fun q _ hq => hF q hq)
    (fun E ce q9 u t H1 locs1 ht hvm _ hB hz hk hS h1 h2 h3 => kx E u.1 u.2 hB.2.1 hB.1 C H1 locs1 lc q9 ce ⟨ht ▸ hB.2.2.1, hB.2.2.2.weaken (fun _ _ _ hq => hF _ hq), hS, r.2.2.2⟩ h1 h2 h3)
    (fun r1 u t H1 locs1 ht hvm hp hB hz hk hS => kk r1 u.1 u.2 hB.1 hp C H1 locs1 lc ⟨ht ▸ hB.2.1, hB.2.2.weaken (fun _ _ _ hq => hF _ hq), hS, r.2.2.2⟩)
theorem call_SHi {M' : Mi} {hh : List (Nat × Nat × Nat × Nat)} {d' idx nn : Nat} {vs : List Value} {Po : Int32 → sH → GH → Prop} (d : decode (mcc M) pc = .ok (.invokestatic idx, 3)) (w1 : Cond.methodLink (mown M) idx (my M') ∈ gW) (w2 : Cond.static (my M') ∈ gW) (w3 : Cond.initialized (mown M') ∈ gW) (w4 : Cond.codeWith (my M') (mcc M') (mnL M') (mret M') hh ∈ gW) (hd : mown M' ≠ "java/lang/invoke/MethodHandle" ∧ mown M' ≠ "java/lang/invoke/VarHandle" ∧ (parseMethodDescriptor (mds M')).map (fun d => d.parameters.length) = some nn) (hR : FitX X M' d' k n) (hl : (xl X).stackTraces = false) (hT : Tx (xA X) (xs X) (xH X)) (c : HCi M' hh d' S g vs Po) (hn : vs.length = nn) (hw : Nat.ble (st.map Value.category).sum 8 = true)
    (kk : ∀ (r : Int32) (S' : sH) (g' : GH), S'.1 = S.1 → Po r S' g' → AW M X Q ad (k + 1) (n + 6) (conc S' g') (pc + 3) ls (.int r :: st)) : AW M X Q ad k n (conc S g) pc ls (vs.reverse ++ st) := by
  intro C H locs lc r
  have hF := Rl.free C r
  have hG : GoodIn gW (va_wsS (mown M) idx (my M') (hws M' hh)) := by
    intro w hwm
    simp only [va_wsS, List.cons_append, List.nil_append, List.mem_cons] at hwm
    rcases hwm with rfl | rfl | rfl | h
    · exact gW_good _ w1
    · exact gW_good _ w2
    · exact gW_good _ w3
    · exact gW_cons w4 _ (List.mem_cons.mpr h)
  have hrun := vx_runSX (e := xe X) (m := xm X) (below := xb X) (meth := xme X) (locs := locs) (cells := k) (slots := n) (rest := st.map (sv ad)) (g := F0 (xm X) pc lc ((vs.reverse ++ st).map (sv ad))) (As := vs.map (sv ad)) (n := nn) ⟨C.1, C.2.1, C.2.2.1, C.2.2.2.1, C.2.2.2.2.1⟩ (c (xl X) hl (xD X) (xdA X) ad H.size) (vx_cwSW nn C.2.2.2.2.1 hG rfl rfl rfl hd hR.1) ⟨WdX.blind, Rl.preX C hT r⟩ rfl (by simpa using hn) r.2.2.2.1 (by simp [F0]) (lv_room (rest_cat st (Nat.le_of_ble_eq_true hw))) d hR.2
  exact vx_calli hrun r.2.2.1 (fun q _ hq => hF q hq) hF (fun q _ hq => hF q hq)
    (fun E ce q9 u t H1 locs1 ht hvm hp hB hz hk hS h1 h2 h3 => hp.elim)
    (fun r1 u t H1 locs1 ht hvm hp hB hz hk hS => kk r1 u.1 u.2 hB.1 hp C H1 locs1 lc ⟨ht ▸ hB.2.1, hB.2.2.weaken (fun _ _ _ hq => hF _ hq), hS, r.2.2.2⟩)
/-! catching -/
theorem x_catch {E : String} {i : Nat} (hT : Tx (xA X) (xs X) (xH X)) (pre : List ExceptionTableEntry) (x : ExceptionTableEntry) (suf : List ExceptionTableEntry) (hsplit : (xc X).exceptionTable.toList = pre ++ x :: suf) (hpass : ∀ z ∈ pre, covers z pc = false ∨ (z.catchType ≠ 0 ∧ ∃ nm : String, Cond.classLink (mown M) z.catchType nm ∈ gW ∧ va_Nc E nm (xs X))) (hx : covers x pc = true) (h0 : x.catchType ≠ 0) (hlink : Cond.classLink (mown M) x.catchType E ∈ gW) (hcast : va_Nw (.castable E E) (xs X)) (d : decode (mcc M) x.handlerPc = .ok (.astore i, 2)) (hi : i < mnL M) (kk : AW M X Q ad k n (conc S g) (x.handlerPc + 2) [] []) : TW M X Q ad k n (conc S g) pc ls st E := by
  intro C H locs lc q ce r hc hv hcl
  refine vx_catch (own := mown M) C.2.2.2.1 pre x suf hsplit (fun z hz => (hpass z hz).imp id (fun ⟨a, nm, b, c⟩ => ⟨a, nm, C.2.2.2.2.1 _ b, c⟩)) hx h0 (C.2.2.2.2.1 _ hlink) (va_Nw.use rfl hcast) hc hv hcl ?_
  exact lv_astore C.1 C.2.1 d r.2.2.2 hi rfl (fun lc' hl => kk C H locs lc' ⟨r.1, r.2.1, r.2.2.1, lv_less hl (fun q hq => by simp [sl, slF] at hq)⟩)
theorem x_catch_n {E : String} {i : Fin 4} (hT : Tx (xA X) (xs X) (xH X)) (pre : List ExceptionTableEntry) (x : ExceptionTableEntry) (suf : List ExceptionTableEntry) (hsplit : (xc X).exceptionTable.toList = pre ++ x :: suf) (hpass : ∀ z ∈ pre, covers z pc = false ∨ (z.catchType ≠ 0 ∧ ∃ nm : String, Cond.classLink (mown M) z.catchType nm ∈ gW ∧ va_Nc E nm (xs X))) (hx : covers x pc = true) (h0 : x.catchType ≠ 0) (hlink : Cond.classLink (mown M) x.catchType E ∈ gW) (hcast : va_Nw (.castable E E) (xs X)) (d : decode (mcc M) x.handlerPc = .ok (.astore_n i, 1)) (hi : (i : Nat) < mnL M) (kk : AW M X Q ad k n (conc S g) (x.handlerPc + 1) [] []) : TW M X Q ad k n (conc S g) pc ls st E := by
  intro C H locs lc q ce r hc hv hcl
  refine vx_catch (own := mown M) C.2.2.2.1 pre x suf hsplit (fun z hz => (hpass z hz).imp id (fun ⟨a, nm, b, c⟩ => ⟨a, nm, C.2.2.2.2.1 _ b, c⟩)) hx h0 (C.2.2.2.2.1 _ hlink) (va_Nw.use rfl hcast) hc hv hcl ?_
  exact lv_astore_n C.1 C.2.1 d rfl r.2.2.2 hi rfl (fun lc' hl => kk C H locs lc' ⟨r.1, r.2.1, r.2.2.1, lv_less hl (fun q hq => by simp [sl, slF] at hq)⟩)
end X77
