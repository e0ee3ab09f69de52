/-! NEW CELLS: a heap of a first part P and a tail T -/
abbrev zE : sE := .inr (0, [])
def hp (P T : List sE) : sH := (P.length + T.length, fun k => (P ++ T).getD k zE)
def agr (N : Nat) (ad ad' : Nat → Nat) : Prop := ∀ k, k < N ∨ 107 ≤ k → ad' k = ad k
def scV (N : Nat) : Value → Prop
  | .ref k => k < N ∨ 107 ≤ k
  | _ => True
def scE (N : Nat) : sE → Prop
  | .inr x => ∀ v ∈ x.2, scV N v
  | .inl (_, _, .inr (.inr (.inr (.inr f)))) => ∀ j r, f j = some r → r < N
  | .inl _ => True
def Sc (N : Nat) (L : List sE) : Prop := ∀ c ∈ L, scE N c
theorem agr.rf {N : Nat} {ad : Nat → Nat} : agr N ad ad := fun _ _ => rfl
theorem agr.tr {N N' : Nat} {a b c : Nat → Nat} (h : agr N a b) (h' : agr N' b c) (hN : N ≤ N') : agr N a c := fun k hk => (h' k (by omega)).trans (h k hk)
theorem scV.up {N N' : Nat} {v : Value} (h : scV N v) (hN : N ≤ N') : scV N' v := by
  cases v with
  | ref k =>
    have h1 : k < N ∨ 107 ≤ k := h
    exact h1.imp (fun z => Nat.lt_of_lt_of_le z hN) id
  | _ => trivial
theorem scE.up {N N' : Nat} {c : sE} (h : scE N c) (hN : N ≤ N') : scE N' c := by
  match c, h with
  | .inr x, h => exact fun v hv => (h v hv).up hN
  | .inl (_, _, .inr (.inr (.inr (.inr f)))), h => exact fun j r hr => Nat.lt_of_lt_of_le (h j r hr) hN
  | .inl (_, _, .inl _), _ => trivial
  | .inl (_, _, .inr (.inl _)), _ => trivial
  | .inl (_, _, .inr (.inr (.inl _))), _ => trivial
  | .inl (_, _, .inr (.inr (.inr (.inl _)))), _ => trivial
theorem Sc.up {N N' : Nat} {L : List sE} (h : Sc N L) (hN : N ≤ N') : Sc N' L := fun c hc => (h c hc).up hN
theorem Sc.app {N : Nat} {L L' : List sE} (h : Sc N L) (h' : Sc N L') : Sc N (L ++ L') := fun c hc => (List.mem_append.mp hc).elim (h c) (h' c)
theorem Sc.set {N : Nat} {L : List sE} {i : Nat} {c : sE} (h : Sc N L) (hc : scE N c) : Sc N (L.set i c) := fun d hd => (List.mem_or_eq_of_mem_set hd).elim (h d) (fun e => e ▸ hc)
theorem scE.setF {N ci fi : Nat} {fs : List Value} {v : Value} (h : scE N (.inr (ci, fs))) (hv : scV N v) : scE N (.inr (ci, fs.set fi v)) := fun d hd => (List.mem_or_eq_of_mem_set hd).elim (h d) (fun e => e ▸ hv)
theorem sv_agr {N : Nat} {ad ad' : Nat → Nat} {v : Value} (h : agr N ad ad') (hv : scV N v) : sv ad' v = sv ad v := by
  cases v with
  | ref k => exact congrArg Value.ref (h k hv)
  | _ => rfl
theorem se_agr {N : Nat} {dA : Nat → ClassId} {ad ad' : Nat → Nat} {c : sE} (h : agr N ad ad') (hc : scE N c) : se dA ad' c = se dA ad c := by
  match c, hc with
  | .inr x, hc =>
    show Sum.inr (x.1, x.2.map (sv ad')) = Sum.inr (x.1, x.2.map (sv ad))
    rw [List.map_congr_left (fun v hv => sv_agr h (hc v hv))]
  | .inl (t, m, .inr (.inr (.inr (.inr f)))), hc =>
    have : (fun j => (f j).map ad') = fun j => (f j).map ad := by
      funext j
      cases hf : f j with
      | none => rfl
      | some r => exact congrArg some (h r (Or.inl (hc j r hf)))
    show Sum.inl (dA t, m, _) = Sum.inl (dA t, m, _)
    exact congrArg (fun z => (Sum.inl (dA t, m, Sum.inr (Sum.inr (Sum.inr (Sum.inr z)))) : va_E)) this
  | .inl (_, _, .inl _), _ => rfl
  | .inl (_, _, .inr (.inl _)), _ => rfl
  | .inl (_, _, .inr (.inr (.inl _))), _ => rfl
  | .inl (_, _, .inr (.inr (.inr (.inl _)))), _ => rfl
theorem hp_at {P T : List sE} {k : Nat} : (hp P T).2 k = (P ++ T).getD k zE := rfl
theorem hp_tl {P T : List sE} {i : Nat} {c : sE} (h : T[i]? = some c) : (hp P T).2 (P.length + i) = c := by
  rw [hp_at, List.getD_eq_getElem?_getD, List.getElem?_append_right (by omega), Nat.add_sub_cancel_left, h]
  rfl
theorem hp_lt {P T : List sE} {i : Nat} {c : sE} (h : T[i]? = some c) : P.length + i < (hp P T).1 := by
  have := (List.getElem?_eq_some_iff.mp h).1
  show P.length + i < P.length + T.length
  omega
theorem hp_up {P T : List sE} {i : Nat} {c : sE} (hi : i < T.length) : ((hp P T).1, va_up (hp P T).2 (P.length + i) c) = hp P (T.set i c) := by
  unfold hp
  rw [List.length_set]
  refine congrArg (Prod.mk _) (funext fun k => ?_)
  show va_up _ _ _ k = (P ++ T.set i c).getD k zE
  unfold va_up
  by_cases e : k = P.length + i
  · subst e
    rw [if_pos rfl, List.getD_eq_getElem?_getD, List.getElem?_append_right (by omega), Nat.add_sub_cancel_left, List.getElem?_set_self hi]
    rfl
  · rw [if_neg e]
    show (P ++ T).getD k zE = _
    rw [List.getD_eq_getElem?_getD, List.getD_eq_getElem?_getD]
    by_cases h : k < P.length
    · rw [List.getElem?_append_left h, List.getElem?_append_left h]
    · rw [List.getElem?_append_right (by omega), List.getElem?_append_right (by omega), List.getElem?_set_ne (by omega)]
theorem hp_app {P T1 T2 : List sE} : hp (P ++ T1) T2 = hp P (T1 ++ T2) := by
  unfold hp
  rw [List.length_append, List.length_append, List.append_assoc, Nat.add_assoc]
theorem sw_grow {dA : Nat → ClassId} {ad ad' : Nat → Nat} {P T T' : List sE} (hs : Sc (P.length + T.length) (P ++ T)) (ha : agr (P.length + T.length) ad ad') : sw dA ad' (hp P (T ++ T')) = sw dA ad (hp P T) ++ (List.range T'.length).map (fun i => (ad' (P.length + T.length + i), se dA ad' (T'.getD i zE))) := by
  unfold sw
  have e : (hp P (T ++ T')).1 = P.length + T.length + T'.length := by
    show P.length + (T ++ T').length = _
    rw [List.length_append]
    omega
  rw [e, List.range_add, List.map_append, List.map_map]
  congr 1
  · refine List.map_congr_left (fun k hk => ?_)
    have hk := List.mem_range.mp hk
    have hlt : k < (P ++ T).length := by rw [List.length_append]; exact hk
    have e2 : (hp P (T ++ T')).2 k = (hp P T).2 k := by
      rw [hp_at, hp_at, List.getD_eq_getElem?_getD, List.getD_eq_getElem?_getD, ← List.append_assoc, List.getElem?_append_left hlt]
    rw [e2, ha k (Or.inl hk)]
    refine congrArg (Prod.mk _) (se_agr ha ?_)
    rw [hp_at, List.getD_eq_getElem?_getD, List.getElem?_eq_getElem hlt]
    exact hs _ (List.getElem_mem hlt)
  · refine List.map_congr_left (fun i hi => ?_)
    have e2 : (hp P (T ++ T')).2 (P.length + T.length + i) = T'.getD i zE := by
      rw [hp_at, List.getD_eq_getElem?_getD, List.getD_eq_getElem?_getD, ← List.append_assoc, List.getElem?_append_right (by rw [List.length_append]; omega), List.length_append, Nat.add_sub_cancel_left]
    show (ad' _, se dA ad' _) = _
    rw [e2]
theorem sl_agr {N : Nat} {ad ad' : Nat → Nat} (h : agr N ad ad') : ∀ (ls : List (Option Value)) (i : Nat), (∀ v, some v ∈ ls → scV N v) → slF ad' i ls = slF ad i ls
  | [], _, _ => rfl
  | none :: r, i, hv => by
    rw [slF, slF, sl_agr h r (i + 1) (fun v hm => hv v (List.mem_cons_of_mem _ hm))]
  | some w :: r, i, hv => by
    rw [slF, slF, sl_agr h r (i + 1) (fun v hm => hv v (List.mem_cons_of_mem _ hm)), sv_agr h (hv w List.mem_cons_self)]
theorem st_agr {N : Nat} {ad ad' : Nat → Nat} (h : agr N ad ad') {st : List Value} (hv : ∀ v ∈ st, scV N v) : st.map (sv ad') = st.map (sv ad) := List.map_congr_left (fun v hm => sv_agr h (hv v hm))
theorem va_RA.fc {U : State} {cA : ClassId} {ty : FieldType} (h : va_RA U cA ty) : U.vm.findClass ("[" ++ ty.toString) = some cA := by
  cases ty with
  | object C =>
    obtain ⟨kA, comp, h1, h2, h3, h4⟩ := h
    exact h4
  | _ => exact h
theorem va_K.one {D : va_G} {cl : List vw_C} {tys : List (ClassId × FieldType)} {U : State} {t : Nat} {cA cB : ClassId} {ty : FieldType} (h : va_K D cl (tys ++ [(cA, ty)]) U) (ht : tys[t]? = some (cB, ty)) : cA = cB := by
  have h1 := (h.2 tys.length (cA, ty) (by rw [List.getElem?_append_right (Nat.le_refl _), Nat.sub_self]; rfl)).2.fc
  have h2 := (h.2 t (cB, ty) (by rw [List.getElem?_append_left (List.getElem?_eq_some_iff.mp ht).1]; exact ht)).2.fc
  exact Option.some.inj (h1.symm.trans h2)
section N80
variable {M : Mi} {X : Cx} {Q : State → Prop} {ad : Nat → Nat} {k n : Nat} {h : sH} {pc : Nat} {ls : List (Option Value)} {st : List Value} {P T : List sE}
theorem n_obj {idx a : Nat} (d : decode (mcc M) pc = .ok (.invokespecial idx, 3)) (w : Cond.methodLink (mown M) idx Lib.objectInit ∈ gW) (hR : 1 ≤ (xR X).frames ∧ 20 ≤ (xR X).locals) (hw : Nat.ble (st.map Value.category).sum 8 = true) (kk : AW M X Q ad k n h (pc + 3) ls st) : AW M X Q ad k n h pc ls (.ref a :: st) := by
  intro C H locs lc r T hT Xs
  have hc : ((st.map (sv ad)).map fun v => v.category).sum ≤ 8 := rest_cat st (Nat.le_of_ble_eq_true hw)
  obtain ⟨vm', X', step⟩ := Xs.initObject C.1 (own := mown M) C.2.2.2.1 (C.2.2.2.2.1 _ w) (C.2.2.2.2.1 _ (gW_in 77 (by decide +kernel) rfl)) (C.2.2.2.2.1 _ (gW_in 78 (by decide +kernel) rfl)) (g := F0 (xm X) pc lc ((.ref a :: st).map (sv ad))) rfl (r.2.2.2.1.trans C.2.2.1.symm) (rest := st.map (sv ad)) rfl (by rw [C.2.1]; exact d) hR.1 (by show 2 * 0 + _ + 12 ≤ _; omega)
  obtain ⟨t, a1, b1⟩ := kk C H locs lc r (T.setVm vm') hT X'
  exact ⟨t, step _ a1, b1⟩
/-- one cell more -/
theorem n_one {c : sE} {H1 : Heap} {locs1 : List Loc} {lc : Array Slot} {pc' k' n' q : Nat} {c' : va_E} (C : XOk M X) (hs : Sc (P.length + T.length) (P ++ T)) (hN : P.length + T.length < 107) (hl : ∀ v, some v ∈ ls → scV (P.length + T.length) v) (hst : ∀ v ∈ st, scV (P.length + T.length) v) (hlv : lv_has lc (mnL M) (sl ad ls)) (hc : ∀ ad', se (xdA X) ad' c = c') (hP : va_P (xD X) vwCl (sw (xdA X) ad (hp P T) ++ [(q, c')]) H1) (hD : va_D (xA X) (sw (xdA X) ad (hp P T) ++ [(q, c')])) (hS : va_S (xA X) (xH X) H1 locs1)
    (kk : ∀ ad', agr (P.length + T.length) ad ad' → AW M X Q ad' k' n' (hp P (T ++ [c])) pc' ls (.ref (P.length + T.length) :: st)) : W (xp X) (xl X) (xe X) (xR X) (xs X) (xm X) (xa X) (xb X) (xme X) (xc X) H1 locs1 k' n' Q (F0 (xm X) pc' lc (.ref q :: st.map (sv ad))) := by
  have ha : agr (P.length + T.length) ad (fun j => if j = P.length + T.length then q else ad j) := fun j hj => if_neg (by omega)
  have e := sw_grow (dA := xdA X) (T' := [c]) hs ha
  have e2 : (List.range [c].length).map (fun i => ((fun j => if j = P.length + T.length then q else ad j) (P.length + T.length + i), se (xdA X) (fun j => if j = P.length + T.length then q else ad j) ([c].getD i zE))) = [(q, c')] := by
    show [(_, se (xdA X) _ c)] = _
    rw [hc]
    show [(if P.length + T.length + 0 = P.length + T.length then q else _, c')] = _
    rw [if_pos (Nat.add_zero _)]
  rw [e2] at e
  have := kk _ ha C H1 locs1 lc ⟨e ▸ hP, e ▸ hD, hS, ?_⟩
  · rw [List.map_cons, st_agr ha hst] at this
    have e3 : sv (fun j => if j = P.length + T.length then q else ad j) (.ref (P.length + T.length)) = .ref q := congrArg Value.ref (if_pos rfl)
    rw [e3] at this
    exact this
  · show lv_has lc (mnL M) (slF _ 0 ls)
    rw [sl_agr ha ls 0 hl]
    exact hlv
theorem n_new {ci idx N : Nat} {C : String} {TT : u_T} {ty : Nat → FieldType} (fs : List Value) (d : decode (mcc M) pc = .ok (.new idx, 3)) (K : Cls ci C TT N ty) (w1 : Cond.classLink (mown M) idx C ∈ gW) (w2 : Cond.instantiable C N ∈ gW) (w3 : Cond.initialized C ∈ gW) (hfs : ∀ j, j < N → defaultValue (ty j) = vp_V fs j) (hf : ∀ ad, fs.map (sv ad) = fs) (hk : k + 1 ≤ (xR X).cells) (hn : n + N ≤ (xR X).slots) (hs : Sc (P.length + T.length) (P ++ T)) (hN : P.length + T.length < 107) (hl : ∀ v, some v ∈ ls → scV (P.length + T.length) v) (hst : ∀ v ∈ st, scV (P.length + T.length) v)
    (kk : ∀ ad', agr (P.length + T.length) ad ad' → AW M X Q ad' (k + 1) (n + N) (hp P (T ++ [.inr (ci, fs)])) (pc + 3) ls (.ref (P.length + T.length) :: st)) : AW M X Q ad k n (hp P T) pc ls st := by
  intro C0 H locs lc r
  exact va_new C0.1 C0.2.1 C0.2.2.2.2.1 K.2.1 ty K.2.2.1 C0.2.2.2.1 (C0.2.2.2.2.1 _ w1) (C0.2.2.2.2.1 _ w2) (C0.2.2.2.2.1 _ w3) C0.2.2.2.2.2.2.2.2.1.1 r.1 r.2.1 r.2.2.1 C0.2.2.2.2.2.2.2.2.2 K.1 hfs hk hn d (fun q H1 hP hD hS => n_one (c := .inr (ci, fs)) C0 hs hN hl hst r.2.2.2 (fun ad' => by show Sum.inr (ci, fs.map (sv ad')) = _; rw [hf]) hP hD hS kk)
theorem n_naI {m : Nat} {v : Int32} (d : decode (mcc M) pc = .ok (.newarray .int, 2)) (hv : v = nI m) (hm : m ≤ 200000) (hk : k + 1 ≤ (xR X).cells) (hn : n + m ≤ (xR X).slots) (hs : Sc (P.length + T.length) (P ++ T)) (hN : P.length + T.length < 107) (hl : ∀ v, some v ∈ ls → scV (P.length + T.length) v) (hst : ∀ v ∈ st, scV (P.length + T.length) v)
    (kk : ∀ ad', agr (P.length + T.length) ad ad' → AW M X Q ad' (k + 1) (n + m) (hp P (T ++ [.inl (0, m, .inl (fun _ => 0))])) (pc + 2) ls (.ref (P.length + T.length) :: st)) : AW M X Q ad k n (hp P T) pc ls (.int v :: st) := by
  intro C0 H locs lc r
  subst hv
  have hneg : ¬ nI m < 0 := fun z => vp_in_nI (Nat.lt_succ_self m) (by omega) (Or.inl z)
  refine va_newa (atype := .int) (ty := .int) (a0 := (m, .inl (fun _ => 0))) C0.1 C0.2.1 (C0.2.2.2.2.1 _ (gW_in 145 (by decide +kernel) rfl)) rfl C0.2.2.2.2.2.2.2.2.1.1 r.1 r.2.1 r.2.2.1 C0.2.2.2.2.2.2.2.2.2 (N' := m) (fun cA => rfl) hneg (nI_clamp (by omega)) (by show m * 4 ≤ 536870912; omega) hk hn d (fun q cA H1 hK hP hD hS => ?_)
  obtain rfl : cA = xdA X 0 := hK.one (t := 0) rfl
  exact n_one (c := .inl (0, m, .inl (fun _ => 0))) C0 hs hN hl hst r.2.2.2 (fun ad' => rfl) hP hD hS kk
theorem n_naL {m : Nat} {v : Int32} (d : decode (mcc M) pc = .ok (.newarray .long, 2)) (hv : v = nI m) (hm : m ≤ 200000) (hk : k + 1 ≤ (xR X).cells) (hn : n + m ≤ (xR X).slots) (hs : Sc (P.length + T.length) (P ++ T)) (hN : P.length + T.length < 107) (hl : ∀ v, some v ∈ ls → scV (P.length + T.length) v) (hst : ∀ v ∈ st, scV (P.length + T.length) v)
    (kk : ∀ ad', agr (P.length + T.length) ad ad' → AW M X Q ad' (k + 1) (n + m) (hp P (T ++ [.inl (1, m, .inr (.inl (fun _ => 0)))])) (pc + 2) ls (.ref (P.length + T.length) :: st)) : AW M X Q ad k n (hp P T) pc ls (.int v :: st) := by
  intro C0 H locs lc r
  subst hv
  have hneg : ¬ nI m < 0 := fun z => vp_in_nI (Nat.lt_succ_self m) (by omega) (Or.inl z)
  refine va_newa (atype := .long) (ty := .long) (a0 := (m, .inr (.inl (fun _ => 0)))) C0.1 C0.2.1 (C0.2.2.2.2.1 _ (gW_in 254 (by decide +kernel) rfl)) rfl C0.2.2.2.2.2.2.2.2.1.1 r.1 r.2.1 r.2.2.1 C0.2.2.2.2.2.2.2.2.2 (N' := m) (fun cA => rfl) hneg (nI_clamp (by omega)) (by show m * 8 ≤ 536870912; omega) hk hn d (fun q cA H1 hK hP hD hS => ?_)
  obtain rfl : cA = xdA X 1 := hK.one (t := 1) rfl
  exact n_one (c := .inl (1, m, .inr (.inl (fun _ => 0)))) C0 hs hN hl hst r.2.2.2 (fun ad' => rfl) hP hD hS kk
theorem n_naZ {m : Nat} {v : Int32} (d : decode (mcc M) pc = .ok (.newarray .boolean, 2)) (hv : v = nI m) (hm : m ≤ 200000) (hk : k + 1 ≤ (xR X).cells) (hn : n + m ≤ (xR X).slots) (hs : Sc (P.length + T.length) (P ++ T)) (hN : P.length + T.length < 107) (hl : ∀ v, some v ∈ ls → scV (P.length + T.length) v) (hst : ∀ v ∈ st, scV (P.length + T.length) v)
    (kk : ∀ ad', agr (P.length + T.length) ad ad' → AW M X Q ad' (k + 1) (n + m) (hp P (T ++ [.inl (2, m, .inl (fun _ => 0))])) (pc + 2) ls (.ref (P.length + T.length) :: st)) : AW M X Q ad k n (hp P T) pc ls (.int v :: st) := by
  intro C0 H locs lc r
  subst hv
  have hneg : ¬ nI m < 0 := fun z => vp_in_nI (Nat.lt_succ_self m) (by omega) (Or.inl z)
  refine va_newa (atype := .boolean) (ty := .boolean) (a0 := (m, .inl (fun _ => 0))) C0.1 C0.2.1 (C0.2.2.2.2.1 _ (gW_in 1074 (by decide +kernel) rfl)) rfl C0.2.2.2.2.2.2.2.2.1.1 r.1 r.2.1 r.2.2.1 C0.2.2.2.2.2.2.2.2.2 (N' := m) (fun cA => rfl) hneg (nI_clamp (by omega)) (by show m * 1 ≤ 536870912; omega) hk hn d (fun q cA H1 hK hP hD hS => ?_)
  obtain rfl : cA = xdA X 2 := hK.one (t := 2) rfl
  exact n_one (c := .inl (2, m, .inl (fun _ => 0))) C0 hs hN hl hst r.2.2.2 (fun ad' => rfl) hP hD hS kk
theorem n_nq {m idx : Nat} {v : Int32} (d : decode (mcc M) pc = .ok (.anewarray idx, 3)) (w : Cond.classLink (mown M) idx "OrderedDisc$Kind" ∈ gW) (hv : v = nI m) (hm : m ≤ 200000) (hk : k + 1 ≤ (xR X).cells) (hn : n + m ≤ (xR X).slots) (hs : Sc (P.length + T.length) (P ++ T)) (hN : P.length + T.length < 107) (hl : ∀ v, some v ∈ ls → scV (P.length + T.length) v) (hst : ∀ v ∈ st, scV (P.length + T.length) v)
    (kk : ∀ ad', agr (P.length + T.length) ad ad' → AW M X Q ad' (k + 1) (n + m) (hp P (T ++ [.inl (3, m, .inr (.inr (.inr (.inr (fun _ => none)))))])) (pc + 3) ls (.ref (P.length + T.length) :: st)) : AW M X Q ad k n (hp P T) pc ls (.int v :: st) := by
  intro C0 H locs lc r
  subst hv
  have hneg : ¬ nI m < 0 := fun z => vp_in_nI (Nat.lt_succ_self m) (by omega) (Or.inl z)
  refine va_newq C0.1 C0.2.1 C0.2.2.2.1 (C0.2.2.2.2.1 _ w) C0.2.2.2.2.2.2.2.2.1.2.2.1 C0.2.2.2.2.2.2.2.2.1.1 r.1 r.2.1 r.2.2.1 C0.2.2.2.2.2.2.2.2.2 (N' := m) hneg (nI_clamp (by omega)) (by omega) hk hn d (fun q cA H1 hK hP hD hS => ?_)
  obtain rfl : cA = xdA X 3 := hK.one (t := 3) rfl
  exact n_one (c := .inl (3, m, .inr (.inr (.inr (.inr (fun _ => none)))))) C0 hs hN hl hst r.2.2.2 (fun ad' => rfl) hP hD hS kk
/-! stores -/
theorem n_putF {i idx ci fi : Nat} {ty : FieldType} {fs : List Value} {v : Value} {T' : List sE} (d : decode (mcc M) pc = .ok (.putfield idx, 3)) (F : FlkF (mown M) idx ci fi ty) (hi : mnm M = "<init>") (hT : T[i]? = some (.inr (ci, fs))) (hl : Nat.blt fi fs.length = true) (hn : narrow ty (sv ad v) = sv ad v) (hf : fits ty (sv ad v) = true) (e : T.set i (.inr (ci, fs.set fi v)) = T') (kk : AW M X Q ad k n (hp P T') (pc + 3) ls st) : AW M X Q ad k n (hp P T) pc ls (v :: .ref (P.length + i) :: st) := by
  subst e
  refine h_putF d F hi (hp_lt hT) (hp_tl hT) (Nat.lt_of_lt_of_le (blt_lt hl) (Nat.le_refl _)) hn hf ?_
  rw [hp_up (List.getElem?_eq_some_iff.mp hT).1]
  exact kk
theorem n_putf {i idx ci fi : Nat} {ty : FieldType} {fs : List Value} {v : Value} {T' : List sE} (d : decode (mcc M) pc = .ok (.putfield idx, 3)) (F : Flk (mown M) idx ci fi false ty) (hT : T[i]? = some (.inr (ci, fs))) (hl : Nat.blt fi fs.length = true) (hn : narrow ty (sv ad v) = sv ad v) (hf : fits ty (sv ad v) = true) (e : T.set i (.inr (ci, fs.set fi v)) = T') (kk : AW M X Q ad k n (hp P T') (pc + 3) ls st) : AW M X Q ad k n (hp P T) pc ls (v :: .ref (P.length + i) :: st) := by
  subst e
  refine h_putf d F (hp_lt hT) (hp_tl hT) (blt_lt hl) hn hf ?_
  rw [hp_up (List.getElem?_eq_some_iff.mp hT).1]
  exact kk
end N80
