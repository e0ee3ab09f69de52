theorem sc_all {P T : List sE} {j : Nat} (hsP : Sc (P.length + 1) P) (h1 : 1 ≤ j ∨ P = []) (hs : Sc (P.length + j) T) : Sc (P.length + j) (P ++ T) := by
  refine Sc.app ?_ hs
  rcases h1 with h1 | rfl
  · exact hsP.up (by omega)
  · exact fun c hc => nomatch hc
section N82
variable {M : Mi} {X : Cx} {Q : State → Prop} {ad : Nat → Nat} {k n : Nat} {pc : Nat} {ls : List (Option Value)} {st : List Value} {P T : List sE} {N0 : Nat} {ad0 : Nat → Nat}
theorem m_new {ci idx N : Nat} {C : String} {TT : u_T} {ty : Nat → FieldType} (j : Nat) (fs : List Value) {T' : List sE} (d : decode (mcc M) pc = .ok (.new idx, 3)) (K : Cls ci C TT N ty) (w1 : Cond.classLink (mown M) idx C ∈ gW) (w2 : Cond.instantiable C N ∈ gW) (w3 : Cond.initialized C ∈ gW) (hfs : ∀ j, j < N → defaultValue (ty j) = vp_V fs j) (hf : ∀ ad, fs.map (sv ad) = fs) (hff : ∀ N, scL N fs) (hk : k + 1 ≤ (xR X).cells) (hn : n + N ≤ (xR X).slots) (hj : T.length = j) (e : T ++ [.inr (ci, fs)] = T') (hsP : Sc (P.length + 1) P) (h1 : 1 ≤ j ∨ P = []) (hs : Sc (P.length + j) T) (hN : P.length + j < 107) (hl : scO (P.length + j) ls) (hst : scL (P.length + j) st) (ha : agr N0 ad0 ad) (hN0 : N0 ≤ P.length + j)
    (kk : ∀ ad', agr N0 ad0 ad' → Sc (P.length + (j + 1)) T' → AW M X Q ad' (k + 1) (n + N) (hp P T') (pc + 3) ls (.ref (P.length + j) :: st)) : AW M X Q ad k n (hp P T) pc ls st := by
  subst hj
  subst e
  exact n_new fs d K w1 w2 w3 hfs hf hk hn (sc_all hsP h1 hs) hN hl.all hst.all (fun ad' ha' => kk ad' (ha.tr ha' hN0) (hs.add (c := .inr (ci, fs)) (fun v hv => (hff _).all v hv) rfl))
theorem m_naI {m : Nat} {v : Int32} (j : Nat) {T' : List sE} (d : decode (mcc M) pc = .ok (.newarray .int, 2)) (hv : v = nI m) (hm : m ≤ 200000) (hk : k + 1 ≤ (xR X).cells) (hn : n + m ≤ (xR X).slots) (hj : T.length = j) (e : T ++ [.inl (0, m, .inl (fun _ => 0))] = T') (hsP : Sc (P.length + 1) P) (h1 : 1 ≤ j ∨ P = []) (hs : Sc (P.length + j) T) (hN : P.length + j < 107) (hl : scO (P.length + j) ls) (hst : scL (P.length + j) st) (ha : agr N0 ad0 ad) (hN0 : N0 ≤ P.length + j)
    (kk : ∀ ad', agr N0 ad0 ad' → Sc (P.length + (j + 1)) T' → AW M X Q ad' (k + 1) (n + m) (hp P T') (pc + 2) ls (.ref (P.length + j) :: st)) : AW M X Q ad k n (hp P T) pc ls (.int v :: st) := by
  subst hj
  subst e
  exact n_naI d hv hm hk hn (sc_all hsP h1 hs) hN hl.all hst.all (fun ad' ha' => kk ad' (ha.tr ha' hN0) (hs.add (c := .inl (0, m, .inl (fun _ => 0))) trivial rfl))
theorem m_naL {m : Nat} {v : Int32} (j : Nat) {T' : List sE} (d : decode (mcc M) pc = .ok (.newarray .long, 2)) (hv : v = nI m) (hm : m ≤ 200000) (hk : k + 1 ≤ (xR X).cells) (hn : n + m ≤ (xR X).slots) (hj : T.length = j) (e : T ++ [.inl (1, m, .inr (.inl (fun _ => 0)))] = T') (hsP : Sc (P.length + 1) P) (h1 : 1 ≤ j ∨ P = []) (hs : Sc (P.length + j) T) (hN : P.length + j < 107) (hl : scO (P.length + j) ls) (hst : scL (P.length + j) st) (ha : agr N0 ad0 ad) (hN0 : N0 ≤ P.length + j)
    (kk : ∀ ad', agr N0 ad0 ad' → Sc (P.length + (j + 1)) T' → AW M X Q ad' (k + 1) (n + m) (hp P T') (pc + 2) ls (.ref (P.length + j) :: st)) : AW M X Q ad k n (hp P T) pc ls (.int v :: st) := by
  subst hj
  subst e
  exact n_naL d hv hm hk hn (sc_all hsP h1 hs) hN hl.all hst.all (fun ad' ha' => kk ad' (ha.tr ha' hN0) (hs.add (c := .inl (1, m, .inr (.inl (fun _ => 0)))) trivial rfl))
theorem m_naZ {m : Nat} {v : Int32} (j : Nat) {T' : List sE} (d : decode (mcc M) pc = .ok (.newarray .boolean, 2)) (hv : v = nI m) (hm : m ≤ 200000) (hk : k + 1 ≤ (xR X).cells) (hn : n + m ≤ (xR X).slots) (hj : T.length = j) (e : T ++ [.inl (2, m, .inl (fun _ => 0))] = T') (hsP : Sc (P.length + 1) P) (h1 : 1 ≤ j ∨ P = []) (hs : Sc (P.length + j) T) (hN : P.length + j < 107) (hl : scO (P.length + j) ls) (hst : scL (P.length + j) st) (ha : agr N0 ad0 ad) (hN0 : N0 ≤ P.length + j)
    (kk : ∀ ad', agr N0 ad0 ad' → Sc (P.length + (j + 1)) T' → AW M X Q ad' (k + 1) (n + m) (hp P T') (pc + 2) ls (.ref (P.length + j) :: st)) : AW M X Q ad k n (hp P T) pc ls (.int v :: st) := by
  subst hj
  subst e
  exact n_naZ d hv hm hk hn (sc_all hsP h1 hs) hN hl.all hst.all (fun ad' ha' => kk ad' (ha.tr ha' hN0) (hs.add (c := .inl (2, m, .inl (fun _ => 0))) trivial rfl))
theorem m_nq {m idx : Nat} {v : Int32} (j : Nat) {T' : List sE} (d : decode (mcc M) pc = .ok (.anewarray idx, 3)) (w : Cond.classLink (mown M) idx "OrderedDisc$Kind" ∈ gW) (hv : v = nI m) (hm : m ≤ 200000) (hk : k + 1 ≤ (xR X).cells) (hn : n + m ≤ (xR X).slots) (hj : T.length = j) (e : T ++ [.inl (3, m, .inr (.inr (.inr (.inr (fun _ => none)))))] = T') (hsP : Sc (P.length + 1) P) (h1 : 1 ≤ j ∨ P = []) (hs : Sc (P.length + j) T) (hN : P.length + j < 107) (hl : scO (P.length + j) ls) (hst : scL (P.length + j) st) (ha : agr N0 ad0 ad) (hN0 : N0 ≤ P.length + j)
    (kk : ∀ ad', agr N0 ad0 ad' → Sc (P.length + (j + 1)) T' → AW M X Q ad' (k + 1) (n + m) (hp P T') (pc + 3) ls (.ref (P.length + j) :: st)) : AW M X Q ad k n (hp P T) pc ls (.int v :: st) := by
  subst hj
  subst e
  exact n_nq d w hv hm hk hn (sc_all hsP h1 hs) hN hl.all hst.all (fun ad' ha' => kk ad' (ha.tr ha' hN0) (hs.add (c := .inl (3, m, .inr (.inr (.inr (.inr (fun _ => none)))))) (fun j r hr => by cases hr) rfl))
theorem m_putF {i idx ci fi : Nat} {ty : FieldType} {fs : List Value} {v : Value} {T' : List sE} {N : Nat} (d : decode (mcc M) pc = .ok (.putfield idx, 3)) (F : FlkF (mown M) idx ci fi ty) (hi : mnm M = "<init>") (hT : T[i]? = some (.inr (ci, fs))) (hl : Nat.blt fi fs.length = true) (hn : narrow ty (sv ad v) = sv ad v) (hf : fits ty (sv ad v) = true) (e : T.set i (.inr (ci, fs.set fi v)) = T') (hs : Sc N T) (hv : scV N v) (kk : Sc N T' → AW M X Q ad k n (hp P T') (pc + 3) ls st) : AW M X Q ad k n (hp P T) pc ls (v :: .ref (P.length + i) :: st) := n_putF d F hi hT hl hn hf e (kk (hs.put hT hv e))
theorem m_putf {i idx ci fi : Nat} {ty : FieldType} {fs : List Value} {v : Value} {T' : List sE} {N : Nat} (d : decode (mcc M) pc = .ok (.putfield idx, 3)) (F : Flk (mown M) idx ci fi false ty) (hT : T[i]? = some (.inr (ci, fs))) (hl : Nat.blt fi fs.length = true) (hn : narrow ty (sv ad v) = sv ad v) (hf : fits ty (sv ad v) = true) (e : T.set i (.inr (ci, fs.set fi v)) = T') (hs : Sc N T) (hv : scV N v) (kk : Sc N T' → AW M X Q ad k n (hp P T') (pc + 3) ls st) : AW M X Q ad k n (hp P T) pc ls (v :: .ref (P.length + i) :: st) := n_putf d F hT hl hn hf e (kk (hs.put hT hv e))
theorem m_aast {a v m jj ci : Nat} {i : Int32} {vs : List Value} {rr : vw_C} {f : Nat → Option Nat} {T' : List sE} {N : Nat} (d : decode (mcc M) pc = .ok (.aastore, 1)) (ha : T[a]? = some (.inl (3, m, .inr (.inr (.inr (.inr f)))))) (hv : T[v]? = some (.inr (ci, vs))) (hc : vwCl[ci]? = some rr) (hca : va_Nw (.castable rr.1 "OrderedDisc$Kind") (xs X)) (hi : i = nI jj) (hj : jj < m) (hm : m ≤ 200000) (e : T.set a (.inl (3, m, .inr (.inr (.inr (.inr (va_up f jj (some (P.length + v)))))))) = T') (hs : Sc N T) (hvN : P.length + v < N) (kk : Sc N T' → AW M X Q ad k n (hp P T') (pc + 1) ls st) : AW M X Q ad k n (hp P T) pc ls (.ref (P.length + v) :: .int i :: .ref (P.length + a) :: st) := by
  subst e
  subst hi
  have hsc : scE N (.inl (3, m, .inr (.inr (.inr (.inr f))))) := hs _ (List.mem_of_getElem? ha)
  have hs2 : Sc N (T.set a (.inl (3, m, .inr (.inr (.inr (.inr (va_up f jj (some (P.length + v))))))))) := hs.set (fun j r hr => by
    have hr : va_up f jj (some (P.length + v)) j = some r := hr
    unfold va_up at hr
    split at hr
    · cases hr
      exact hvN
    · exact hsc j r hr)
  intro C H locs lc r
  refine va_astqO C.1 C.2.1 C.2.2.2.2.2.2.2.2.1.1 r.1 r.2.1 r.2.2.1 (P.length + a) 3 (P.length + v) ci (cA := xdA X 3) (n := m) (vs := vs.map (sv ad)) (f := fun j => (f j).map ad) (E := "OrderedDisc$Kind") (by rw [sw_at (hp_lt ha), hp_tl ha]; rfl) rfl hca (by rw [sw_at (hp_lt hv), hp_tl hv]; rfl) hc (vp_in_nI hj (by omega)) d (fun H1 locs1 hP hD hS => ?_)
  have e1 := sw_set (dA := xdA X) (ad := ad) (c := .inl (3, m, .inr (.inr (.inr (.inr (va_up f jj (some (P.length + v)))))))) (hp_lt (P := P) ha)
  rw [hp_up (List.getElem?_eq_some_iff.mp ha).1] at e1
  have e2 : se (xdA X) ad (.inl (3, m, .inr (.inr (.inr (.inr (va_up f jj (some (P.length + v)))))))) = .inl (xdA X 3, m, .inr (.inr (.inr (.inr (va_up (fun j => (f j).map ad) (nI jj).toNatClampNeg (some (ad (P.length + v)))))))) := by
    rw [nI_clamp (by omega)]
    show Sum.inl (xdA X 3, m, _) = _
    refine congrArg (fun z => (Sum.inl (xdA X 3, m, Sum.inr (Sum.inr (Sum.inr (Sum.inr z)))) : va_E)) (funext fun j => ?_)
    unfold va_up
    split
    · rfl
    · rfl
  rw [e2] at e1
  exact kk hs2 C H1 locs1 lc ⟨e1 ▸ hP, e1 ▸ hD, hS, r.2.2.2⟩
def inn6 : sE := .inl (0, 6, .inl (fun _ => 0))
def row9 (b : Nat) : List sE := [.inl (4, 9, .inr (.inr (.inr (.inr (fun i => if i < 9 then some (b + i) else none))))), inn6, inn6, inn6, inn6, inn6, inn6, inn6, inn6, inn6]
theorem m_mna {idx : Nat} (j : Nat) {T' : List sE} (d : decode (mcc M) pc = .ok (.multianewarray idx 2, 4)) (w : Cond.classLink (mown M) idx "[[I" ∈ gW) (hk : k + 10 ≤ (xR X).cells) (hn : n + 63 ≤ (xR X).slots) (hj : T.length = j) (e : T ++ row9 (P.length + j + 1) = T') (hsP : Sc (P.length + 1) P) (h1 : 1 ≤ j ∨ P = []) (hs : Sc (P.length + j) T) (hN : P.length + j + 10 ≤ 107) (hl : scO (P.length + j) ls) (hst : scL (P.length + j) st) (ha : agr N0 ad0 ad) (hN0 : N0 ≤ P.length + j)
    (kk : ∀ ad', agr N0 ad0 ad' → Sc (P.length + (j + 10)) T' → AW M X Q ad' (k + 10) (n + 63) (hp P T') (pc + 4) ls (.ref (P.length + j) :: st)) : AW M X Q ad k n (hp P T) pc ls (.int (nI 6) :: .int (nI 9) :: st) := by
  subst hj
  subst e
  intro C H locs lc r
  have hs0 := sc_all hsP h1 hs
  have hcy : (xs X).vm.findClass (FieldType.array .int).toString = some (xdA X 0) := (C.2.2.2.2.2.2.2.2.1.1.2 0 _ rfl).2.fc
  refine va_mna (X := sw (xdA X) ad (hp P T)) (L := []) (f := fun _ => .inr (0, [])) (ty := .int) (cy := xdA X 0) C.1 C.2.1 C.2.2.2.1 (C.2.2.2.2.1 _ w) C.2.2.2.2.2.2.2.2.1.2.2.2 (C.2.2.2.2.1 _ (gW_in 145 (by decide +kernel) rfl)) hcy C.2.2.2.2.2.2.2.2.1.1 (by rw [show va_pl [] (fun _ => (.inr (0, []) : va_E)) = [] from rfl, List.append_nil]; exact r.1) (by rw [show va_pl [] (fun _ => (.inr (0, []) : va_E)) = [] from rfl, List.append_nil]; exact r.2.1) r.2.2.1 C.2.2.2.2.2.2.2.2.2 (N' := 9) (K' := 6) (z := (6, .inl (fun _ => 0))) (by decide) (by decide) (by decide) (by decide) (by decide) (by decide) (by decide) (by decide) (by decide) hk hn (fun c => rfl) d (fun q rw_ cA H1 hinj hnL hK hP hD hS => ?_)
  obtain rfl : cA = xdA X 4 := hK.one (t := 4) rfl
  rw [← vr_rows (L := []) (fun a _ h => nomatch h), show va_pl [] (fun _ => (.inr (0, []) : va_E)) = [] from rfl, List.nil_append, List.append_assoc] at hP hD
  obtain ⟨ad', had⟩ : ∃ ad' : Nat → Nat, ad' = fun i => if i = P.length + T.length then q else if P.length + T.length < i ∧ i ≤ P.length + T.length + 9 then rw_ (i - (P.length + T.length) - 1) else ad i := ⟨_, rfl⟩
  have ha' : agr (P.length + T.length) ad ad' := fun i hi => by
    rw [had]
    show (if _ then _ else if _ then _ else _) = _
    rw [if_neg (by omega), if_neg (by omega)]
  have hq : ad' (P.length + T.length) = q := by
    rw [had]
    exact if_pos rfl
  have hr : ∀ i, i < 9 → ad' (P.length + T.length + 1 + i) = rw_ i := fun i hi => by
    rw [had]
    show (if _ then _ else if _ then _ else _) = _
    rw [if_neg (by omega), if_pos (by omega), show P.length + T.length + 1 + i - (P.length + T.length) - 1 = i by omega]
  have eg := sw_grow (dA := xdA X) (T' := row9 (P.length + T.length + 1)) hs0 ha'
  have e2 : (List.range (row9 (P.length + T.length + 1)).length).map (fun i => (ad' (P.length + T.length + i), se (xdA X) ad' ((row9 (P.length + T.length + 1)).getD i zE))) = [(q, .inl (xdA X 4, 9, .inr (.inr (.inr (.inr (fun i => if i < 9 then some (rw_ i) else none))))))] ++ ((List.range 9).map rw_).map (fun a => (a, (.inl (xdA X 0, 6, .inl (fun _ => 0)) : va_E))) := by
    have eo : se (xdA X) ad' (.inl (4, 9, .inr (.inr (.inr (.inr (fun i => if i < 9 then some (P.length + T.length + 1 + i) else none)))))) = .inl (xdA X 4, 9, .inr (.inr (.inr (.inr (fun i => if i < 9 then some (rw_ i) else none))))) := by
      show Sum.inl (xdA X 4, 9, _) = _
      refine congrArg (fun z => (Sum.inl (xdA X 4, 9, Sum.inr (Sum.inr (Sum.inr (Sum.inr z)))) : va_E)) (funext fun i => ?_)
      show Option.map ad' (if i < 9 then some (P.length + T.length + 1 + i) else none) = if i < 9 then some (rw_ i) else none
      by_cases hi : i < 9
      · rw [if_pos hi, if_pos hi]
        exact congrArg some (hr i hi)
      · rw [if_neg hi, if_neg hi]
        rfl
    show [(ad' (P.length + T.length), se (xdA X) ad' (.inl (4, 9, .inr (.inr (.inr (.inr (fun i => if i < 9 then some (P.length + T.length + 1 + i) else none))))))), (ad' (P.length + T.length + 1 + 0), se (xdA X) ad' inn6), (ad' (P.length + T.length + 1 + 1), se (xdA X) ad' inn6), (ad' (P.length + T.length + 1 + 2), se (xdA X) ad' inn6), (ad' (P.length + T.length + 1 + 3), se (xdA X) ad' inn6), (ad' (P.length + T.length + 1 + 4), se (xdA X) ad' inn6), (ad' (P.length + T.length + 1 + 5), se (xdA X) ad' inn6), (ad' (P.length + T.length + 1 + 6), se (xdA X) ad' inn6), (ad' (P.length + T.length + 1 + 7), se (xdA X) ad' inn6), (ad' (P.length + T.length + 1 + 8), se (xdA X) ad' inn6)] = _
    rw [hq, hr 0 (by decide), hr 1 (by decide), hr 2 (by decide), hr 3 (by decide), hr 4 (by decide), hr 5 (by decide), hr 6 (by decide), hr 7 (by decide), hr 8 (by decide), eo]
    rfl
  rw [e2] at eg
  have hT' : Sc (P.length + (T.length + 10)) (T ++ row9 (P.length + T.length + 1)) := by
    refine (hs.up (by omega)).app (fun c hc => ?_)
    simp only [row9, List.mem_cons, List.not_mem_nil, or_false, inn6] at hc
    rcases hc with rfl | rfl | rfl | rfl | rfl | rfl | rfl | rfl | rfl | rfl
    · intro i x hx
      have hx : (if i < 9 then some (P.length + T.length + 1 + i) else none) = some x := hx
      split at hx
      · cases hx
        omega
      · cases hx
    all_goals trivial
  have hkk := kk ad' (ha.tr ha' hN0) hT' C H1 locs lc ⟨eg ▸ hP, eg ▸ hD, hS, ?_⟩
  · rw [List.map_cons, st_agr ha' hst.all] at hkk
    have e3 : sv ad' (.ref (P.length + T.length)) = .ref q := congrArg Value.ref hq
    rw [e3] at hkk
    exact hkk
  · show lv_has lc (mnL M) (slF ad' 0 ls)
    rw [sl_agr ha' ls 0 hl.all]
    exact r.2.2.2
end N82
