/-! CONSTRUCTORS -/
def scL (N : Nat) : List Value → Prop
  | [] => True
  | v :: r => scV N v ∧ scL N r
theorem scL.all {N : Nat} : ∀ {L : List Value}, scL N L → ∀ v ∈ L, scV N v
  | [], _, _, h => nomatch h
  | _ :: _, h, v, hv => (List.mem_cons.mp hv).elim (fun e => e ▸ h.1) (fun z => scL.all h.2 v z)
def scO (N : Nat) : List (Option Value) → Prop
  | [] => True
  | none :: r => scO N r
  | some v :: r => scV N v ∧ scO N r
theorem scO.all {N : Nat} : ∀ {L : List (Option Value)}, scO N L → ∀ v, some v ∈ L → scV N v
  | [], _, _, h => nomatch h
  | none :: r, h, v, hv => (List.mem_cons.mp hv).elim (fun e => nomatch e) (fun z => scO.all (L := r) h v z)
  | some w :: _, h, v, hv => (List.mem_cons.mp hv).elim (fun e => by cases e; exact h.1) (fun z => scO.all h.2 v z)
theorem Sc.add {N j : Nat} {T T' : List sE} {c : sE} (h : Sc (N + j) T) (hc : scE (N + (j + 1)) c) (e : T ++ [c] = T') : Sc (N + (j + 1)) T' := by
  subst e
  exact (h.up (by omega)).app (fun d hd => by rw [List.mem_singleton] at hd; subst hd; exact hc)
theorem Sc.put {N i ci fi : Nat} {fs : List Value} {v : Value} {T T' : List sE} (h : Sc N T) (hT : T[i]? = some (.inr (ci, fs))) (hv : scV N v) (e : T.set i (.inr (ci, fs.set fi v)) = T') : Sc N T' := by
  subst e
  exact h.set ((h _ (List.mem_of_getElem? hT)).setF hv)
/-- the kinds go into a row of kinds -/
def Kx (U : State) : Prop := va_Nw (.castable "OrderedDisc$Plain" "OrderedDisc$Kind") U ∧ va_Nw (.castable "OrderedDisc$Logged" "OrderedDisc$Kind") U ∧ va_Nw (.castable "OrderedDisc$Shadow" "OrderedDisc$Kind") U
theorem Kx.warm {s U : State} (hW : s.WarmedH U.vm) (h : Kx s) : Kx U := ⟨va_Nw.warmC hW h.1, va_Nw.warmC hW h.2.1, va_Nw.warmC hW h.2.2⟩
theorem Kx.same {s U : State} (hv : s.vm = U.vm) (h : Kx s) : Kx U := h.warm (by rw [← hv]; exact State.WarmedH.refl s)
def rmN (d c s : Nat) : Room := { frames := d, cells := c, slots := s, locals := 64 * d }
def WdN (D : va_G) (dA : Nat → ClassId) (ad : Nat → Nat) (h : sH) (sz : Nat) (U : State) : Prop := U.heap.size = sz ∧ va_P D vwCl (sw dA ad h) U.heap ∧ Kn D dA U ∧ va_D (fun _ => True) (sw dA ad h) ∧ Kx U
def BdN (D : va_G) (dA : Nat → ClassId) (ad : Nat → Nat) (P T : List sE) (sz : Nat) (T' : List sE) (ad' : Nat → Nat) (t : State) : Prop := agr (P.length + T.length) ad ad' ∧ va_P D vwCl (sw dA ad' (hp P T')) t.heap ∧ va_D (va_A (sw dA ad (hp P T)) sz) (sw dA ad' (hp P T'))
def NC (M : Mi) (d c s : Nat) (P T : List sE) (vs : List Value) (T' : List sE) : Prop := ∀ (l : Launch) (D : va_G) (dA : Nat → ClassId) (ad : Nat → Nat) (sz : Nat), Met l (my M) (mws M) (rmN d c s) (va_Pc (vs.map (sv ad)) (WdN D dA ad (hp P T) sz)) (va_Qv (fun (_ : Nat → Nat) => True) (BdN D dA ad P T sz T') (va_A (sw dA ad (hp P T)) sz)) c s (va_A (sw dA ad (hp P T)) sz)
theorem WdN.blind {D : va_G} {dA : Nat → ClassId} {ad : Nat → Nat} {h : sH} {sz : Nat} {vs : List Value} : FrameBlind (va_Pc (vs.map (sv ad)) (WdN D dA ad h sz)) := fun _ U _ _ q => ⟨q.1, q.2.1, q.2.2.1, Kn.same (s := U) rfl q.2.2.2.1, q.2.2.2.2.1, Kx.same (s := U) rfl q.2.2.2.2.2⟩
theorem NC.of {M : Mi} {dd nn cc ss : Nat} {P T T' : List sE} {vs : List Value} (LC : LkC M nn) (hret : mret M = none) (hl : Nat.ble (lg_sl vs).length (mnL M) = true)
    (body : ∀ (X : Cx) (Q : State → Prop) (ad : Nat → Nat), xR X = rmN dd cc ss → Kx (xs X) → (∀ (ad' : Nat → Nat) (pc : Nat) (ls : List (Option Value)) (k n : Nat), agr (P.length + T.length) ad ad' → k ≤ cc → n ≤ ss → decode (mcc M) pc = .ok (.return_, 1) → AW M X Q ad' k n (hp P T') pc ls []) → AW M X Q ad 0 0 (hp P T) 0 (sen (mnL M) vs) []) : NC M dd cc ss P T vs T' := by
  intro l D dA ad sz
  refine Met.ofW (cc := mcc M) (maxL := mnL M) (ret := mret M) LC.2.2.2 rfl ?_
  intro p e s m args below meth c s₁ B hml hv
  obtain ⟨rfl, hsz, hP, hK, hD0, hx⟩ := hv
  subst hsz
  have hts := atoms_spec (ws := mws M) B.pre
  have hD := hD0.self (sz := s.heap.size)
  have hA : ∀ q : Nat, s.heap.size ≤ q → va_A (sw dA ad (hp P T)) s.heap.size q := fun q h => Or.inr h
  have C : XOk M (p, l, e, rmN dd cc ss, s, m, (vs.map (sv ad)).toArray, below, meth, c, D, dA, va_A (sw dA ad (hp P T)) s.heap.size, s.heap) := ⟨B.exec, B.bytes, hml, findClass_of_methodNamed B.named, fun w hw => hts w (List.mem_cons_of_mem _ hw), B.notSynchronized, (name_of_methodNamed B.named B.method).1, B.returns, hK, hA⟩
  rw [lg_entry_eq]
  have hr := B.returns
  rw [hret] at hr
  have hb2 := body (p, l, e, rmN dd cc ss, s, m, (vs.map (sv ad)).toArray, below, meth, c, D, dA, va_A (sw dA ad (hp P T)) s.heap.size, s.heap) (MQ below (va_Qv (fun (_ : Nat → Nat) => True) (BdN D dA ad P T s.heap.size T') (va_A (sw dA ad (hp P T)) s.heap.size)) (vs.map (sv ad)).toArray s cc ss (va_A (sw dA ad (hp P T)) s.heap.size)) ad rfl hx (by
    intro ad' pc ls k n ha hk hn d C H locs lc r
    exact W.widen hk hn (W.vret C.1 C.2.1 hr (fun t ht hW => ⟨⟨ad', rfl, trivial, ha, by rw [ht]; exact r.1, r.2.1⟩, r.2.2.1.F ht⟩) r.2.2.1.2.2 d C.2.2.2.2.2.1))
  exact hb2 C s.heap [] _ ⟨hP, hD, va_S.rf, sen_has ad vs (Nat.le_of_ble_eq_true hl)⟩
/-- a constructor, over any first part -/
def NCI (M : Mi) (d c s : Nat) (f : sE) (tl : Nat → List sE) : Prop := ∀ P : List sE, Sc (P.length + 1) P → scE (P.length + 1) f → P.length + (tl P.length).length ≤ 107 → NC M d c s P [f] [.ref P.length] (tl P.length)
section N81
variable {M : Mi} {X : Cx} {Q : State → Prop} {ad : Nat → Nat} {k n : Nat} {pc : Nat} {ls : List (Option Value)} {st : List Value} {P T : List sE}
theorem n_init {M' : Mi} {d' c s idx j : Nat} {f : sE} {tl : Nat → List sE} {T1 T' : List sE} {N0 : Nat} {ad0 : Nat → Nat} (d : decode (mcc M) pc = .ok (.invokespecial idx, 3)) (LC : LkC M' 0) (hnm : mnm M' = "<init>") (hret : mret M' = none) (wi : Cond.instanceMethod (my M') ∈ gW) (L : Cond.methodLink (mown M) idx (my M') ∈ gW ∨ ∃ host : String, Cond.methodLinkNest (mown M) idx (my M') host ∈ nW) (hR : d' + 1 ≤ (xR X).frames ∧ 8 + (mnL M' + 11) + 64 * d' ≤ (xR X).locals) (hf : k + c ≤ (xR X).cells ∧ n + s ≤ (xR X).slots) (hx : Kx (xs X)) (nc : NCI M' d' c s f tl) (hj : T.length = j) (e1 : T ++ [f] = T1) (e : T ++ tl (P.length + j) = T') (hsP : Sc (P.length + 1) P) (hs : Sc (P.length + (j + 1)) T1) (hts : ∀ b, Sc (b + (tl b).length) (tl b) ∧ 0 < (tl b).length) (hlen : P.length + (j + (tl (P.length + j)).length) ≤ 107) (hw : Nat.ble (st.map Value.category).sum 8 = true) (hl : scO (P.length + (j + 1)) ls) (hst : scL (P.length + (j + 1)) st) (ha : agr N0 ad0 ad) (hN0 : N0 ≤ P.length + (j + 1))
    (kk : ∀ ad', agr N0 ad0 ad' → Sc (P.length + (j + (tl (P.length + j)).length)) T' → AW M X Q ad' (k + c) (n + s) (hp P T') (pc + 3) ls st) : AW M X Q ad k n (hp P T1) pc ls (.ref (P.length + j) :: st) := by
  subst hj
  subst e1
  subst e
  intro C H locs lc r
  have hF : ∀ q, va_A (sw (xdA X) ad (hp P (T ++ [f]))) H.size q → xA X q := Rl.free C r
  have eh : hp P (T ++ [f]) = hp (P ++ T) [f] := hp_app.symm
  have el : (P ++ T).length = P.length + T.length := List.length_append
  have hTs : Sc (P.length + (T.length + 1)) T := fun c hc => hs c (List.mem_append_left _ hc)
  have hsPT : Sc ((P ++ T).length + 1) (P ++ T) := by
    rw [el]
    exact (hsP.up (by omega)).app (hTs.up (by omega))
  have hfs : scE ((P ++ T).length + 1) f := by
    rw [el]
    exact (hs f (List.mem_append_right _ List.mem_cons_self)).up (by omega)
  have hnc := nc (P ++ T) hsPT hfs (by rw [el]; omega) (xl X) (xD X) (xdA X) ad H.size
  rw [el] at hnc
  rw [eh] at r
  have hpre : PreS (xs X) H (va_Pc ([.ref (P.length + T.length)].map (sv ad)) (WdN (xD X) (xdA X) ad (hp (P ++ T) [f]) H.size)) (.ref (ad (P.length + T.length)) :: []) := ⟨WdN.blind, fun U hU hW => ⟨rfl, by rw [hU], by rw [hU]; exact r.1, Kn.warm hW C.2.2.2.2.2.2.2.2.1, r.2.1.weaken (fun _ _ _ _ => trivial), hx.warm hW⟩⟩
  have fin : va_Run (xp X) (xl X) (xe X) (xR X) (xs X) (xm X) (xa X) (xb X) (xme X) (xc X) H locs k n c s (F0 (xm X) pc lc ((.ref (P.length + T.length) :: st).map (sv ad))) (st.map (sv ad)) ((va_Qv (fun (_ : Nat → Nat) => True) (BdN (xD X) (xdA X) ad (P ++ T) [f] H.size (tl (P.length + T.length))) (va_A (sw (xdA X) ad (hp (P ++ T) [f])) H.size)) (Value.ref (ad (P.length + T.length)) :: []).toArray) (va_A (sw (xdA X) ad (hp (P ++ T) [f])) H.size) := by
    rcases L with L | ⟨host, L⟩
    · exact va_runI (As := []) (n := 0) ⟨C.1, C.2.1, C.2.2.1, C.2.2.2.1, C.2.2.2.2.1⟩ hnc ⟨callB_of 0 C.2.2.2.2.1 (gW_cons LC.1) (by rw [← hret]; rfl) rfl rfl (C.2.2.2.2.1 _ LC.2.2.1) (C.2.2.2.2.1 _ L) LC.2.1 hR, hnm, C.2.2.2.2.1 _ wi⟩ hpre rfl rfl r.2.2.2.1 rfl (lv_room (rest_cat st (Nat.le_of_ble_eq_true hw))) d hf
    · exact va_runIN (As := []) (n := 0) (host := host) ⟨C.1, C.2.1, C.2.2.1, C.2.2.2.1, C.2.2.2.2.1⟩ hnc ⟨va_cnB (host := host) 0 C.2.2.2.2.1 (gW_cons LC.1) (by rw [← hret]; rfl) rfl rfl (C.2.2.2.2.2.2.2.2.1.2.1 _ L) (C.2.2.2.2.1 _ LC.2.2.1) LC.2.1 hR, hnm, C.2.2.2.2.1 _ wi⟩ hpre rfl rfl r.2.2.2.1 rfl (lv_room (rest_cat st (Nat.le_of_ble_eq_true hw))) d hf
  rw [eh] at hF
  refine va_callv fin r.2.2.1 (fun q _ hq => hF q hq) hF (fun ad' t H1 locs1 ht hvm _ hB hz hk hS => ?_)
  obtain ⟨b1, b2, b3⟩ := hB
  have b1' : agr (P.length + (T.length + 1)) ad ad' := by
    have z : (P ++ T).length + [f].length = P.length + (T.length + 1) := by rw [el]; show _ + 1 = _; omega
    rw [z] at b1
    exact b1
  have b3' := b3.weaken (fun _ _ _ hq => hF _ hq)
  rw [hp_app] at b2 b3'
  have hpos := (hts (P.length + T.length)).2
  have hkk := kk ad' (ha.tr b1' hN0) ((hTs.up (by omega)).app ?_) C H1 locs1 lc ⟨ht ▸ b2, b3', hS, ?_⟩
  · rw [st_agr b1' hst.all] at hkk
    exact hkk
  · have := (hts (P.length + T.length)).1
    rw [Nat.add_assoc] at this
    exact this
  · show lv_has lc (mnL M) (slF ad' 0 ls)
    rw [sl_agr b1' ls 0 hl.all]
    exact r.2.2.2
end N81
