/-! reading by what a flush would leave -/
theorem rd_fl {P S O T : Nat → Int32} {s p : Nat} (hp : p < 2) : ∀ n, (∀ k, k < n → S k = -1 ∨ ∃ s, s < 16 ∧ S k = nI s) → s < 16 → rdA P S O T 0 s p n = flP S O T 0 P n (2 * s + p)
  | 0, _, _ => by
    show P (32 * 0 + 2 * s + p) = P (2 * s + p)
    congr 1
    omega
  | n + 1, h, hs => by
    have ih := rd_fl (P := P) (O := O) (T := T) hp n (fun k hk => h k (by omega)) hs
    rw [rdA, flP, show 60 * 0 + n = n by omega]
    rcases h n (by omega) with z | ⟨s', hs', z⟩
    · rw [if_pos z, if_neg (by rw [z]; exact fun e => nI_m1 (by omega) e.symm)]
      exact ih
    · rw [if_neg (show ¬ S n = -1 by rw [z]; exact nI_m1 (by omega)), z, nI_clamp (by omega)]
      simp only [upd]
      by_cases e : s' = s
      · subst e
        rw [if_pos rfl]
        by_cases e2 : p = 0
        · rw [if_pos e2, if_neg (by omega), if_pos (by omega)]
        · rw [if_neg e2, if_pos (by omega)]
      · rw [if_neg (fun q => e ((nI_eq (by omega) (by omega)).mp q)), if_neg (by omega), if_neg (by omega)]
        exact ih
def okQ (q : Qd) : Prop := ∀ x ∈ q.2, okE x
theorem okQ.sec {q : Qd} (h : okQ q) : ∀ k, k < q.2.length → qS q.2 k = -1 ∨ ∃ s, s < 16 ∧ qS q.2 k = nI s := fun k hk => by
  rw [qS_at (List.getElem?_eq_getElem hk)]
  exact h _ (List.getElem_mem hk)
theorem okQ.nil (F : Nat → Int32) : okQ (F, []) := fun x hx => by cases hx
theorem rdQ_fl {q : Qd} (h : okQ q) {s p : Nat} (hs : s < 16) (hp : p < 2) : rdQ q s p = flQ q (2 * s + p) := rd_fl hp _ h.sec hs
theorem verQ_fl {q : Qd} (h : okQ q) : verQ q = verQ (flQ q, []) := by
  have r : ∀ s p, s < 16 → p < 2 → rdA q.1 (qS q.2) (qO q.2) (qT q.2) 0 s p q.2.length = rdA (flQ q) (qS []) (qO []) (qT []) 0 s p ([] : List En).length := fun s p hs hp => (rdQ_fl h hs hp).trans (rdQ_fl (okQ.nil _) hs hp).symm
  unfold verQ verA
  dsimp only
  rw [r 3 0 (by decide) (by decide), r 3 1 (by decide) (by decide), r 7 0 (by decide) (by decide), r 7 1 (by decide) (by decide)]
theorem keyQ_fl {q : Qd} (h : okQ q) (st : Nat) {k : Nat} (hk : k < 3) : keyQ q st k = keyQ (flQ q, []) st k := by
  have r : ∀ s p, s < 16 → p < 2 → rdA q.1 (qS q.2) (qO q.2) (qT q.2) 0 s p q.2.length = rdA (flQ q) (qS []) (qO []) (qT []) 0 s p ([] : List En).length := fun s p hs hp => (rdQ_fl h hs hp).trans (rdQ_fl (okQ.nil _) hs hp).symm
  have hv := verQ_fl h
  unfold verQ at hv
  unfold keyQ keyA
  dsimp only at hv ⊢
  rw [hv]
  unfold keyV
  rw [r _ 0 (plc_lt hk _) (by decide), r _ 1 (plc_lt hk _) (by decide)]
theorem chgQ_fl {q : Qd} (h : okQ q) (st : Nat) (sp : Nat → Int32) (k : Nat) (v : Int64) (lw : Option Nat) : chgQ q st sp k v lw = chgQ (flQ q, []) st sp k v lw := by
  unfold chgQ
  rw [verQ_fl h]
  exact chg_congr (fun x hx => keyQ_fl h 2 hx)
theorem CD.ok {b : Nat} {g : GH} {q : Qd} (h : CD b g q) : okQ q := h.2.2.2.2
/-! plans -/
def PL (b : Nat) (g : GH) (L : List En) : Prop := gF g b 3 = nI L.length ∧ L.length ≤ 11 ∧ ∀ k x, L[k]? = some x → gA g (b + 1) k = x.1 ∧ (x.1 ≠ -1 → gA g (b + 2) k = x.2.1 ∧ gA g (b + 3) k = x.2.2)
theorem PL.keep {b : Nat} {g g' : GH} {L : List En} (h : PL b g L) (e : gF g' b 3 = gF g b 3) (e1 : gA g' (b + 1) = gA g (b + 1)) (e2 : gA g' (b + 2) = gA g (b + 2)) (e3 : gA g' (b + 3) = gA g (b + 3)) : PL b g' L := by
  unfold PL at h ⊢
  rw [e, e1, e2, e3]
  exact h
theorem PL.fr {b : Nat} {g g' : GH} {L : List En} {A : List Nat} (h : PL b g L) (f : Fr A g g') (hA : ∀ i, i < 4 → b + i ∉ A) : PL b g' L := h.keep (f.f (hA 0 (by decide)) 3) (f.a (hA 1 (by decide))) (f.a (hA 2 (by decide))) (f.a (hA 3 (by decide)))
theorem PL.add {b : Nat} {g g' : GH} {L : List En} {x : En} (h : PL b g L) (hl : L.length < 11) (e : gF g' b 3 = nI (L.length + 1)) (e1 : gA g' (b + 1) = upd (gA g (b + 1)) L.length x.1) (e2 : ∀ k, k < L.length → gA g' (b + 2) k = gA g (b + 2) k ∧ gA g' (b + 3) k = gA g (b + 3) k) (e3 : x.1 ≠ -1 → gA g' (b + 2) L.length = x.2.1 ∧ gA g' (b + 3) L.length = x.2.2) : PL b g' (L ++ [x]) := by
  obtain ⟨h1, h2, h3⟩ := h
  refine ⟨by simpa using e, by simp; omega, fun k y hy => ?_⟩
  rcases Nat.lt_or_ge k L.length with q | q
  · rw [List.getElem?_append_left q] at hy
    rw [e1, upd, if_neg (by omega), (e2 k q).1, (e2 k q).2]
    exact h3 k y hy
  · have hk : k < (L ++ [x]).length := (List.getElem?_eq_some_iff.mp hy).1
    simp only [List.length_append, List.length_singleton] at hk
    obtain rfl : k = L.length := by omega
    rw [List.getElem?_concat_length] at hy
    cases hy
    rw [e1, upd, if_pos rfl]
    exact ⟨rfl, e3⟩
set_option maxRecDepth 100000 in
theorem c_pbegin_17 {d0 kd kp rp : Nat} {g : GH} (m : Int32) : ACv mX5_begin d0 (SS kd kp rp) g [.ref 17, .int m] (fun S' g' => S' = SS kd kp rp ∧ PL 17 g' [] ∧ gF g' 17 4 = m ∧ Fr [17, 18, 19, 20] g g') := by
  refine ACv.of lcX5_begin rfl rfl (fun X Q ad hR ret => ?_)
  refine AW_ls (ls' := [_, _]) rfl ?_
  refine a_aload_n (pc := 0) dX5_begin_0 rfl ?_
  refine a_iconst (pc := 1) (nI 0) dX5_begin_1 (by decide) ?_
  refine a_pi (pc := 2) dX5_begin_2 fX5_19 rfl ?_
  refine a_aload_n (pc := 5) dX5_begin_5 rfl ?_
  refine a_iload_n (pc := 6) dX5_begin_6 rfl ?_
  refine a_pi (pc := 7) dX5_begin_7 fX5_23 rfl ?_
  refine ret _ _ 10 _ dX5_begin_10 rfl ?_
  refine ⟨rfl, ⟨?_, by simp, fun k x hx => by cases hx⟩, ?_, ((Fr.rf _ g).sF (by decide) _ _).sF (by decide) _ _⟩
  · simp only [gF_pF, gF_pA, gF_pL, gA_pF, gA_pA, gA_pL, gL_pF, gL_pA, gL_pL, reduceIte, Nat.reduceEqDiff, and_false, false_and, and_true, true_and, and_self]
    rfl
  · simp only [gF_pF, gF_pA, gF_pL, gA_pF, gA_pA, gA_pL, gL_pF, gL_pA, gL_pL, reduceIte, Nat.reduceEqDiff, and_false, false_and, and_true, true_and, and_self]
set_option maxHeartbeats 1000000 in
set_option maxRecDepth 100000 in
theorem c_planW_17 {d0 kd kp rp : Nat} {g : GH} (L : List En) (s u v : Int32) (h : PL 17 g L) (hl : L.length < 11) : ACv mX5_planWrite d0 (SS kd kp rp) g [.ref 17, .int s, .int u, .int v] (fun S' g' => S' = SS kd kp rp ∧ PL 17 g' (L ++ [(s, u, v)]) ∧ gF g' 17 4 = gF g 17 4 ∧ Fr [17, 18, 19, 20] g g') := by
  have h3 := h.1
  refine ACv.of lcX5_planWrite rfl rfl (fun X Q ad hR ret => ?_)
  refine AW_ls (ls' := [_, _, _, _]) rfl ?_
  refine a_aload_n (pc := 0) dX5_planWrite_0 rfl ?_
  refine a_gi (pc := 1) dX5_planWrite_1 fX5_19 rfl ?_
  rw [h3]
  refine a_bipush (pc := 4) (nI 11) dX5_planWrite_4 (by decide) ?_
  refine a_icmp_geN (pc := 6) 49 dX5_planWrite_6 (by decide) (by omega) (by omega) (fun c1 => ?_) (fun c1 => ?_)
  · exact absurd c1 (by omega)
  · refine a_aload_n (pc := 9) dX5_planWrite_9 rfl ?_
    refine a_gr (pc := 10) dX5_planWrite_10 fX5_9 rfl ?_
    refine a_aload_n (pc := 13) dX5_planWrite_13 rfl ?_
    refine a_gi (pc := 14) dX5_planWrite_14 fX5_19 rfl ?_
    rw [h3]
    refine a_iload_n (pc := 17) dX5_planWrite_17 rfl ?_
    refine a_ast (pc := 18) _ dX5_planWrite_18 rfl rfl (by omega) ?_
    refine a_aload_n (pc := 19) dX5_planWrite_19 rfl ?_
    refine a_gr (pc := 20) dX5_planWrite_20 fX5_13 rfl ?_
    refine a_aload_n (pc := 23) dX5_planWrite_23 rfl ?_
    refine a_gi (pc := 24) dX5_planWrite_24 fX5_19 rfl ?_
    simp only [gF_pF, gF_pA, gF_pL, gA_pF, gA_pA, gA_pL, gL_pF, gL_pA, gL_pL, reduceIte, Nat.reduceEqDiff, and_false, false_and, and_true, true_and, and_self, h3]
    refine a_iload_n (pc := 27) dX5_planWrite_27 rfl ?_
    refine a_ast (pc := 28) _ dX5_planWrite_28 rfl rfl (by omega) ?_
    refine a_aload_n (pc := 29) dX5_planWrite_29 rfl ?_
    refine a_gr (pc := 30) dX5_planWrite_30 fX5_16 rfl ?_
    refine a_aload_n (pc := 33) dX5_planWrite_33 rfl ?_
    refine a_gi (pc := 34) dX5_planWrite_34 fX5_19 rfl ?_
    simp only [gF_pF, gF_pA, gF_pL, gA_pF, gA_pA, gA_pL, gL_pF, gL_pA, gL_pL, reduceIte, Nat.reduceEqDiff, and_false, false_and, and_true, true_and, and_self, h3]
    refine a_iload_n (pc := 37) dX5_planWrite_37 rfl ?_
    refine a_ast (pc := 38) _ dX5_planWrite_38 rfl rfl (by omega) ?_
    refine a_aload_n (pc := 39) dX5_planWrite_39 rfl ?_
    refine a_dup (pc := 40) dX5_planWrite_40 rfl ?_
    refine a_gi (pc := 41) dX5_planWrite_41 fX5_19 rfl ?_
    refine a_iconst (pc := 44) (nI 1) dX5_planWrite_44 (by decide) ?_
    refine a_iadd (pc := 45) dX5_planWrite_45 ?_
    try rw [nI_add]
    refine a_pi (pc := 46) dX5_planWrite_46 fX5_19 rfl ?_
    refine ret _ _ 49 _ dX5_planWrite_49 rfl ?_
    refine ⟨rfl, h.add hl ?_ ?_ (fun k hk => ?_) (fun _ => ?_), ?_, ((((Fr.rf _ g).sA (by decide) _).sA (by decide) _).sA (by decide) _).sF (by decide) _ _⟩
    · simp only [gF_pF, gF_pA, gF_pL, gA_pF, gA_pA, gA_pL, gL_pF, gL_pA, gL_pL, reduceIte, Nat.reduceEqDiff, and_false, false_and, and_true, true_and, and_self, h3]
      rw [nI_add]
    · simp only [gF_pF, gF_pA, gF_pL, gA_pF, gA_pA, gA_pL, gL_pF, gL_pA, gL_pL, reduceIte, Nat.reduceEqDiff, and_false, false_and, and_true, true_and, and_self]
    · simp only [gF_pF, gF_pA, gF_pL, gA_pF, gA_pA, gA_pL, gL_pF, gL_pA, gL_pL, reduceIte, Nat.reduceEqDiff, and_false, false_and, and_true, true_and, and_self, upd]
      rw [if_neg (by omega), if_neg (by omega)]
      exact ⟨rfl, rfl⟩
    · simp only [gF_pF, gF_pA, gF_pL, gA_pF, gA_pA, gA_pL, gL_pF, gL_pA, gL_pL, reduceIte, Nat.reduceEqDiff, and_false, false_and, and_true, true_and, and_self, upd]
    · simp only [gF_pF, gF_pA, gF_pL, gA_pF, gA_pA, gA_pL, gL_pF, gL_pA, gL_pL, reduceIte, Nat.reduceEqDiff, and_false, false_and, and_true, true_and, and_self]
set_option maxHeartbeats 1000000 in
set_option maxRecDepth 100000 in
theorem c_planF_17 {d0 kd kp rp : Nat} {g : GH} (L : List En) (st m f : Nat) (h : PL 17 g L) (hl : L.length < 11) (hm : m < 16) (hf : f < 4) (h4 : gF g 17 4 = nI m) : ACv mX5_planFence d0 (SS kd kp rp) g [.ref 17, .int (nI f)] (fun S' g' => S' = SS kd kp rp ∧ PL 17 g' (L ++ fnc (spB st m) (4 * st + f)) ∧ gF g' 17 4 = gF g 17 4 ∧ Fr [17, 18, 19, 20] g g') := by
  have h3 := h.1
  have e : spB st m (4 * st + f) = bI (m.testBit f) := SpM.own st m f hf
  refine ACv.of lcX5_planFence rfl rfl (fun X Q ad hR ret => ?_)
  refine AW_ls (ls' := [_, _]) rfl ?_
  refine a_aload_n (pc := 0) dX5_planFence_0 rfl ?_
  refine a_gi (pc := 1) dX5_planFence_1 fX5_19 rfl ?_
  rw [h3]
  refine a_bipush (pc := 4) (nI 11) dX5_planFence_4 (by decide) ?_
  refine a_icmp_geN (pc := 6) 40 dX5_planFence_6 (by decide) (by omega) (by omega) (fun c1 => ?_) (fun c1 => ?_)
  · exact absurd c1 (by omega)
  · refine a_aload_n (pc := 9) dX5_planFence_9 rfl ?_
    refine a_gi (pc := 10) dX5_planFence_10 fX5_23 rfl ?_
    rw [h4]
    refine a_iload_n (pc := 13) dX5_planFence_13 rfl ?_
    refine a_ishr (pc := 14) dX5_planFence_14 ?_
    refine a_iconst (pc := 15) (nI 1) dX5_planFence_15 (by decide) ?_
    refine a_iand (pc := 16) dX5_planFence_16 ?_
    rw [bt_at m f hm hf]
    refine a_if_neB (pc := 17) 40 dX5_planFence_17 (by decide) (fun c2 => ?_) (fun c2 => ?_)
    · refine ret _ _ 40 _ dX5_planFence_40 rfl ?_
      refine ⟨rfl, ?_, rfl, Fr.rf _ g⟩
      rw [fnc, e, c2, if_neg (by decide), List.append_nil]
      exact h
    · refine a_aload_n (pc := 20) dX5_planFence_20 rfl ?_
      refine a_gr (pc := 21) dX5_planFence_21 fX5_9 rfl ?_
      refine a_aload_n (pc := 24) dX5_planFence_24 rfl ?_
      refine a_gi (pc := 25) dX5_planFence_25 fX5_19 rfl ?_
      rw [h3]
      refine a_iconst (pc := 28) (-1) dX5_planFence_28 (by decide) ?_
      refine a_ast (pc := 29) _ dX5_planFence_29 rfl rfl (by omega) ?_
      refine a_aload_n (pc := 30) dX5_planFence_30 rfl ?_
      refine a_dup (pc := 31) dX5_planFence_31 rfl ?_
      refine a_gi (pc := 32) dX5_planFence_32 fX5_19 rfl ?_
      refine a_iconst (pc := 35) (nI 1) dX5_planFence_35 (by decide) ?_
      refine a_iadd (pc := 36) dX5_planFence_36 ?_
      try rw [nI_add]
      refine a_pi (pc := 37) dX5_planFence_37 fX5_19 rfl ?_
      refine ret _ _ 40 _ dX5_planFence_40 rfl ?_
      refine ⟨rfl, ?_, ?_, ((Fr.rf _ g).sA (by decide) _).sF (by decide) _ _⟩
      · rw [fnc, e, c2, if_pos (by decide)]
        refine h.add hl ?_ ?_ (fun k hk => ?_) (fun z => absurd rfl z)
        · simp only [gF_pF, gF_pA, gF_pL, gA_pF, gA_pA, gA_pL, gL_pF, gL_pA, gL_pL, reduceIte, Nat.reduceEqDiff, and_false, false_and, and_true, true_and, and_self, h3]
          rw [nI_add]
        · simp only [gF_pF, gF_pA, gF_pL, gA_pF, gA_pA, gA_pL, gL_pF, gL_pA, gL_pL, reduceIte, Nat.reduceEqDiff, and_false, false_and, and_true, true_and, and_self]
        · simp only [gF_pF, gF_pA, gF_pL, gA_pF, gA_pA, gA_pL, gL_pF, gL_pA, gL_pL, reduceIte, Nat.reduceEqDiff, and_false, false_and, and_true, true_and, and_self]
      · simp only [gF_pF, gF_pA, gF_pL, gA_pF, gA_pA, gA_pL, gL_pF, gL_pA, gL_pL, reduceIte, Nat.reduceEqDiff, and_false, false_and, and_true, true_and, and_self]
set_option maxRecDepth 100000 in
theorem c_isFence_17 {d0 kd kp rp : Nat} {g : GH} (L : List En) (k : Nat) (x : En) (h : PL 17 g L) (hx : L[k]? = some x) : ACi mX5_isFence d0 (SS kd kp rp) g [.ref 17, .int (nI k)] (fun r S' g' => S' = SS kd kp rp ∧ g' = g ∧ r = bI (decide (x.1 = -1))) := by
  have hk : k < L.length := (List.getElem?_eq_some_iff.mp hx).1
  have h11 := h.2.1
  obtain ⟨h1, h2⟩ := h.2.2 k x hx
  refine ACz.of lcX5_isFence rfl rfl (fun X Q ad hR ret => ?_)
  refine AW_ls (ls' := [_, _]) rfl ?_
  refine a_aload_n (pc := 0) dX5_isFence_0 rfl ?_
  refine a_gr (pc := 1) dX5_isFence_1 fX5_9 rfl ?_
  refine a_iload_n (pc := 4) dX5_isFence_4 rfl ?_
  refine a_ial (pc := 5) _ dX5_isFence_5 rfl rfl (by omega) ?_
  rw [h1]
  refine a_iconst (pc := 6) (-1) dX5_isFence_6 (by decide) ?_
  refine a_icmp_ne (pc := 7) 14 dX5_isFence_7 (by decide) (fun c1 => ?_) (fun c1 => ?_)
  · refine a_iconst (pc := 14) (nI 0) dX5_isFence_14 (by decide) ?_
    refine ret _ _ 15 _ _ dX5_isFence_15 rfl (by first | exact Or.inl rfl | exact Or.inr rfl | exact bI_01 _) ?_
    exact ⟨rfl, rfl, (bI_ndec _ c1).symm⟩
  · refine a_iconst (pc := 10) (nI 1) dX5_isFence_10 (by decide) ?_
    refine a_goto (pc := 11) 15 dX5_isFence_11 (by decide) ?_
    refine ret _ _ 15 _ _ dX5_isFence_15 rfl (by first | exact Or.inl rfl | exact Or.inr rfl | exact bI_01 _) ?_
    exact ⟨rfl, rfl, (bI_dec _ c1).symm⟩
set_option maxRecDepth 100000 in
theorem c_pbegin_43 {d0 kd kp rp : Nat} {g : GH} (m : Int32) : ACv mX5_begin d0 (SS kd kp rp) g [.ref 43, .int m] (fun S' g' => S' = SS kd kp rp ∧ PL 43 g' [] ∧ gF g' 43 4 = m ∧ Fr [43, 44, 45, 46] g g') := by
  refine ACv.of lcX5_begin rfl rfl (fun X Q ad hR ret => ?_)
  refine AW_ls (ls' := [_, _]) rfl ?_
  refine a_aload_n (pc := 0) dX5_begin_0 rfl ?_
  refine a_iconst (pc := 1) (nI 0) dX5_begin_1 (by decide) ?_
  refine a_pi (pc := 2) dX5_begin_2 fX5_19 rfl ?_
  refine a_aload_n (pc := 5) dX5_begin_5 rfl ?_
  refine a_iload_n (pc := 6) dX5_begin_6 rfl ?_
  refine a_pi (pc := 7) dX5_begin_7 fX5_23 rfl ?_
  refine ret _ _ 10 _ dX5_begin_10 rfl ?_
  refine ⟨rfl, ⟨?_, by simp, fun k x hx => by cases hx⟩, ?_, ((Fr.rf _ g).sF (by decide) _ _).sF (by decide) _ _⟩
  · simp only [gF_pF, gF_pA, gF_pL, gA_pF, gA_pA, gA_pL, gL_pF, gL_pA, gL_pL, reduceIte, Nat.reduceEqDiff, and_false, false_and, and_true, true_and, and_self]
    rfl
  · simp only [gF_pF, gF_pA, gF_pL, gA_pF, gA_pA, gA_pL, gL_pF, gL_pA, gL_pL, reduceIte, Nat.reduceEqDiff, and_false, false_and, and_true, true_and, and_self]
set_option maxHeartbeats 1000000 in
set_option maxRecDepth 100000 in
theorem c_planW_43 {d0 kd kp rp : Nat} {g : GH} (L : List En) (s u v : Int32) (h : PL 43 g L) (hl : L.length < 11) : ACv mX5_planWrite d0 (SS kd kp rp) g [.ref 43, .int s, .int u, .int v] (fun S' g' => S' = SS kd kp rp ∧ PL 43 g' (L ++ [(s, u, v)]) ∧ gF g' 43 4 = gF g 43 4 ∧ Fr [43, 44, 45, 46] g g') := by
  have h3 := h.1
  refine ACv.of lcX5_planWrite rfl rfl (fun X Q ad hR ret => ?_)
  refine AW_ls (ls' := [_, _, _, _]) rfl ?_
  refine a_aload_n (pc := 0) dX5_planWrite_0 rfl ?_
  refine a_gi (pc := 1) dX5_planWrite_1 fX5_19 rfl ?_
  rw [h3]
  refine a_bipush (pc := 4) (nI 11) dX5_planWrite_4 (by decide) ?_
  refine a_icmp_geN (pc := 6) 49 dX5_planWrite_6 (by decide) (by omega) (by omega) (fun c1 => ?_) (fun c1 => ?_)
  · exact absurd c1 (by omega)
  · refine a_aload_n (pc := 9) dX5_planWrite_9 rfl ?_
    refine a_gr (pc := 10) dX5_planWrite_10 fX5_9 rfl ?_
    refine a_aload_n (pc := 13) dX5_planWrite_13 rfl ?_
    refine a_gi (pc := 14) dX5_planWrite_14 fX5_19 rfl ?_
    rw [h3]
    refine a_iload_n (pc := 17) dX5_planWrite_17 rfl ?_
    refine a_ast (pc := 18) _ dX5_planWrite_18 rfl rfl (by omega) ?_
    refine a_aload_n (pc := 19) dX5_planWrite_19 rfl ?_
    refine a_gr (pc := 20) dX5_planWrite_20 fX5_13 rfl ?_
    refine a_aload_n (pc := 23) dX5_planWrite_23 rfl ?_
    refine a_gi (pc := 24) dX5_planWrite_24 fX5_19 rfl ?_
    simp only [gF_pF, gF_pA, gF_pL, gA_pF, gA_pA, gA_pL, gL_pF, gL_pA, gL_pL, reduceIte, Nat.reduceEqDiff, and_false, false_and, and_true, true_and, and_self, h3]
    refine a_iload_n (pc := 27) dX5_planWrite_27 rfl ?_
    refine a_ast (pc := 28) _ dX5_planWrite_28 rfl rfl (by omega) ?_
    refine a_aload_n (pc := 29) dX5_planWrite_29 rfl ?_
    refine a_gr (pc := 30) dX5_planWrite_30 fX5_16 rfl ?_
    refine a_aload_n (pc := 33) dX5_planWrite_33 rfl ?_
    refine a_gi (pc := 34) dX5_planWrite_34 fX5_19 rfl ?_
    simp only [gF_pF, gF_pA, gF_pL, gA_pF, gA_pA, gA_pL, gL_pF, gL_pA, gL_pL, reduceIte, Nat.reduceEqDiff, and_false, false_and, and_true, true_and, and_self, h3]
    refine a_iload_n (pc := 37) dX5_planWrite_37 rfl ?_
    refine a_ast (pc := 38) _ dX5_planWrite_38 rfl rfl (by omega) ?_
    refine a_aload_n (pc := 39) dX5_planWrite_39 rfl ?_
    refine a_dup (pc := 40) dX5_planWrite_40 rfl ?_
    refine a_gi (pc := 41) dX5_planWrite_41 fX5_19 rfl ?_
    refine a_iconst (pc := 44) (nI 1) dX5_planWrite_44 (by decide) ?_
    refine a_iadd (pc := 45) dX5_planWrite_45 ?_
    try rw [nI_add]
    refine a_pi (pc := 46) dX5_planWrite_46 fX5_19 rfl ?_
    refine ret _ _ 49 _ dX5_planWrite_49 rfl ?_
    refine ⟨rfl, h.add hl ?_ ?_ (fun k hk => ?_) (fun _ => ?_), ?_, ((((Fr.rf _ g).sA (by decide) _).sA (by decide) _).sA (by decide) _).sF (by decide) _ _⟩
    · simp only [gF_pF, gF_pA, gF_pL, gA_pF, gA_pA, gA_pL, gL_pF, gL_pA, gL_pL, reduceIte, Nat.reduceEqDiff, and_false, false_and, and_true, true_and, and_self, h3]
      rw [nI_add]
    · simp only [gF_pF, gF_pA, gF_pL, gA_pF, gA_pA, gA_pL, gL_pF, gL_pA, gL_pL, reduceIte, Nat.reduceEqDiff, and_false, false_and, and_true, true_and, and_self]
    · simp only [gF_pF, gF_pA, gF_pL, gA_pF, gA_pA, gA_pL, gL_pF, gL_pA, gL_pL, reduceIte, Nat.reduceEqDiff, and_false, false_and, and_true, true_and, and_self, upd]
      rw [if_neg (by omega), if_neg (by omega)]
      exact ⟨rfl, rfl⟩
    · simp only [gF_pF, gF_pA, gF_pL, gA_pF, gA_pA, gA_pL, gL_pF, gL_pA, gL_pL, reduceIte, Nat.reduceEqDiff, and_false, false_and, and_true, true_and, and_self, upd]
    · simp only [gF_pF, gF_pA, gF_pL, gA_pF, gA_pA, gA_pL, gL_pF, gL_pA, gL_pL, reduceIte, Nat.reduceEqDiff, and_false, false_and, and_true, true_and, and_self]
set_option maxHeartbeats 1000000 in
set_option maxRecDepth 100000 in
theorem c_planF_43 {d0 kd kp rp : Nat} {g : GH} (L : List En) (st m f : Nat) (h : PL 43 g L) (hl : L.length < 11) (hm : m < 16) (hf : f < 4) (h4 : gF g 43 4 = nI m) : ACv mX5_planFence d0 (SS kd kp rp) g [.ref 43, .int (nI f)] (fun S' g' => S' = SS kd kp rp ∧ PL 43 g' (L ++ fnc (spB st m) (4 * st + f)) ∧ gF g' 43 4 = gF g 43 4 ∧ Fr [43, 44, 45, 46] g g') := by
  have h3 := h.1
  have e : spB st m (4 * st + f) = bI (m.testBit f) := SpM.own st m f hf
  refine ACv.of lcX5_planFence rfl rfl (fun X Q ad hR ret => ?_)
  refine AW_ls (ls' := [_, _]) rfl ?_
  refine a_aload_n (pc := 0) dX5_planFence_0 rfl ?_
  refine a_gi (pc := 1) dX5_planFence_1 fX5_19 rfl ?_
  rw [h3]
  refine a_bipush (pc := 4) (nI 11) dX5_planFence_4 (by decide) ?_
  refine a_icmp_geN (pc := 6) 40 dX5_planFence_6 (by decide) (by omega) (by omega) (fun c1 => ?_) (fun c1 => ?_)
  · exact absurd c1 (by omega)
  · refine a_aload_n (pc := 9) dX5_planFence_9 rfl ?_
    refine a_gi (pc := 10) dX5_planFence_10 fX5_23 rfl ?_
    rw [h4]
    refine a_iload_n (pc := 13) dX5_planFence_13 rfl ?_
    refine a_ishr (pc := 14) dX5_planFence_14 ?_
    refine a_iconst (pc := 15) (nI 1) dX5_planFence_15 (by decide) ?_
    refine a_iand (pc := 16) dX5_planFence_16 ?_
    rw [bt_at m f hm hf]
    refine a_if_neB (pc := 17) 40 dX5_planFence_17 (by decide) (fun c2 => ?_) (fun c2 => ?_)
    · refine ret _ _ 40 _ dX5_planFence_40 rfl ?_
      refine ⟨rfl, ?_, rfl, Fr.rf _ g⟩
      rw [fnc, e, c2, if_neg (by decide), List.append_nil]
      exact h
    · refine a_aload_n (pc := 20) dX5_planFence_20 rfl ?_
      refine a_gr (pc := 21) dX5_planFence_21 fX5_9 rfl ?_
      refine a_aload_n (pc := 24) dX5_planFence_24 rfl ?_
      refine a_gi (pc := 25) dX5_planFence_25 fX5_19 rfl ?_
      rw [h3]
      refine a_iconst (pc := 28) (-1) dX5_planFence_28 (by decide) ?_
      refine a_ast (pc := 29) _ dX5_planFence_29 rfl rfl (by omega) ?_
      refine a_aload_n (pc := 30) dX5_planFence_30 rfl ?_
      refine a_dup (pc := 31) dX5_planFence_31 rfl ?_
      refine a_gi (pc := 32) dX5_planFence_32 fX5_19 rfl ?_
      refine a_iconst (pc := 35) (nI 1) dX5_planFence_35 (by decide) ?_
      refine a_iadd (pc := 36) dX5_planFence_36 ?_
      try rw [nI_add]
      refine a_pi (pc := 37) dX5_planFence_37 fX5_19 rfl ?_
      refine ret _ _ 40 _ dX5_planFence_40 rfl ?_
      refine ⟨rfl, ?_, ?_, ((Fr.rf _ g).sA (by decide) _).sF (by decide) _ _⟩
      · rw [fnc, e, c2, if_pos (by decide)]
        refine h.add hl ?_ ?_ (fun k hk => ?_) (fun z => absurd rfl z)
        · simp only [gF_pF, gF_pA, gF_pL, gA_pF, gA_pA, gA_pL, gL_pF, gL_pA, gL_pL, reduceIte, Nat.reduceEqDiff, and_false, false_and, and_true, true_and, and_self, h3]
          rw [nI_add]
        · simp only [gF_pF, gF_pA, gF_pL, gA_pF, gA_pA, gA_pL, gL_pF, gL_pA, gL_pL, reduceIte, Nat.reduceEqDiff, and_false, false_and, and_true, true_and, and_self]
        · simp only [gF_pF, gF_pA, gF_pL, gA_pF, gA_pA, gA_pL, gL_pF, gL_pA, gL_pL, reduceIte, Nat.reduceEqDiff, and_false, false_and, and_true, true_and, and_self]
      · simp only [gF_pF, gF_pA, gF_pL, gA_pF, gA_pA, gA_pL, gL_pF, gL_pA, gL_pL, reduceIte, Nat.reduceEqDiff, and_false, false_and, and_true, true_and, and_self]
set_option maxRecDepth 100000 in
theorem c_isFence_43 {d0 kd kp rp : Nat} {g : GH} (L : List En) (k : Nat) (x : En) (h : PL 43 g L) (hx : L[k]? = some x) : ACi mX5_isFence d0 (SS kd kp rp) g [.ref 43, .int (nI k)] (fun r S' g' => S' = SS kd kp rp ∧ g' = g ∧ r = bI (decide (x.1 = -1))) := by
  have hk : k < L.length := (List.getElem?_eq_some_iff.mp hx).1
  have h11 := h.2.1
  obtain ⟨h1, h2⟩ := h.2.2 k x hx
  refine ACz.of lcX5_isFence rfl rfl (fun X Q ad hR ret => ?_)
  refine AW_ls (ls' := [_, _]) rfl ?_
  refine a_aload_n (pc := 0) dX5_isFence_0 rfl ?_
  refine a_gr (pc := 1) dX5_isFence_1 fX5_9 rfl ?_
  refine a_iload_n (pc := 4) dX5_isFence_4 rfl ?_
  refine a_ial (pc := 5) _ dX5_isFence_5 rfl rfl (by omega) ?_
  rw [h1]
  refine a_iconst (pc := 6) (-1) dX5_isFence_6 (by decide) ?_
  refine a_icmp_ne (pc := 7) 14 dX5_isFence_7 (by decide) (fun c1 => ?_) (fun c1 => ?_)
  · refine a_iconst (pc := 14) (nI 0) dX5_isFence_14 (by decide) ?_
    refine ret _ _ 15 _ _ dX5_isFence_15 rfl (by first | exact Or.inl rfl | exact Or.inr rfl | exact bI_01 _) ?_
    exact ⟨rfl, rfl, (bI_ndec _ c1).symm⟩
  · refine a_iconst (pc := 10) (nI 1) dX5_isFence_10 (by decide) ?_
    refine a_goto (pc := 11) 15 dX5_isFence_11 (by decide) ?_
    refine ret _ _ 15 _ _ dX5_isFence_15 rfl (by first | exact Or.inl rfl | exact Or.inr rfl | exact bI_01 _) ?_
    exact ⟨rfl, rfl, (bI_dec _ c1).symm⟩
set_option maxRecDepth 100000 in
theorem c_pbegin_47 {d0 kd kp rp : Nat} {g : GH} (m : Int32) : ACv mX5_begin d0 (SS kd kp rp) g [.ref 47, .int m] (fun S' g' => S' = SS kd kp rp ∧ PL 47 g' [] ∧ gF g' 47 4 = m ∧ Fr [47, 48, 49, 50] g g') := by
  refine ACv.of lcX5_begin rfl rfl (fun X Q ad hR ret => ?_)
  refine AW_ls (ls' := [_, _]) rfl ?_
  refine a_aload_n (pc := 0) dX5_begin_0 rfl ?_
  refine a_iconst (pc := 1) (nI 0) dX5_begin_1 (by decide) ?_
  refine a_pi (pc := 2) dX5_begin_2 fX5_19 rfl ?_
  refine a_aload_n (pc := 5) dX5_begin_5 rfl ?_
  refine a_iload_n (pc := 6) dX5_begin_6 rfl ?_
  refine a_pi (pc := 7) dX5_begin_7 fX5_23 rfl ?_
  refine ret _ _ 10 _ dX5_begin_10 rfl ?_
  refine ⟨rfl, ⟨?_, by simp, fun k x hx => by cases hx⟩, ?_, ((Fr.rf _ g).sF (by decide) _ _).sF (by decide) _ _⟩
  · simp only [gF_pF, gF_pA, gF_pL, gA_pF, gA_pA, gA_pL, gL_pF, gL_pA, gL_pL, reduceIte, Nat.reduceEqDiff, and_false, false_and, and_true, true_and, and_self]
    rfl
  · simp only [gF_pF, gF_pA, gF_pL, gA_pF, gA_pA, gA_pL, gL_pF, gL_pA, gL_pL, reduceIte, Nat.reduceEqDiff, and_false, false_and, and_true, true_and, and_self]
set_option maxHeartbeats 1000000 in
set_option maxRecDepth 100000 in
theorem c_planW_47 {d0 kd kp rp : Nat} {g : GH} (L : List En) (s u v : Int32) (h : PL 47 g L) (hl : L.length < 11) : ACv mX5_planWrite d0 (SS kd kp rp) g [.ref 47, .int s, .int u, .int v] (fun S' g' => S' = SS kd kp rp ∧ PL 47 g' (L ++ [(s, u, v)]) ∧ gF g' 47 4 = gF g 47 4 ∧ Fr [47, 48, 49, 50] g g') := by
  have h3 := h.1
  refine ACv.of lcX5_planWrite rfl rfl (fun X Q ad hR ret => ?_)
  refine AW_ls (ls' := [_, _, _, _]) rfl ?_
  refine a_aload_n (pc := 0) dX5_planWrite_0 rfl ?_
  refine a_gi (pc := 1) dX5_planWrite_1 fX5_19 rfl ?_
  rw [h3]
  refine a_bipush (pc := 4) (nI 11) dX5_planWrite_4 (by decide) ?_
  refine a_icmp_geN (pc := 6) 49 dX5_planWrite_6 (by decide) (by omega) (by omega) (fun c1 => ?_) (fun c1 => ?_)
  · exact absurd c1 (by omega)
  · refine a_aload_n (pc := 9) dX5_planWrite_9 rfl ?_
    refine a_gr (pc := 10) dX5_planWrite_10 fX5_9 rfl ?_
    refine a_aload_n (pc := 13) dX5_planWrite_13 rfl ?_
    refine a_gi (pc := 14) dX5_planWrite_14 fX5_19 rfl ?_
    rw [h3]
    refine a_iload_n (pc := 17) dX5_planWrite_17 rfl ?_
    refine a_ast (pc := 18) _ dX5_planWrite_18 rfl rfl (by omega) ?_
    refine a_aload_n (pc := 19) dX5_planWrite_19 rfl ?_
    refine a_gr (pc := 20) dX5_planWrite_20 fX5_13 rfl ?_
    refine a_aload_n (pc := 23) dX5_planWrite_23 rfl ?_
    refine a_gi (pc := 24) dX5_planWrite_24 fX5_19 rfl ?_
    simp only [gF_pF, gF_pA, gF_pL, gA_pF, gA_pA, gA_pL, gL_pF, gL_pA, gL_pL, reduceIte, Nat.reduceEqDiff, and_false, false_and, and_true, true_and, and_self, h3]
    refine a_iload_n (pc := 27) dX5_planWrite_27 rfl ?_
    refine a_ast (pc := 28) _ dX5_planWrite_28 rfl rfl (by omega) ?_
    refine a_aload_n (pc := 29) dX5_planWrite_29 rfl ?_
    refine a_gr (pc := 30) dX5_planWrite_30 fX5_16 rfl ?_
    refine a_aload_n (pc := 33) dX5_planWrite_33 rfl ?_
    refine a_gi (pc := 34) dX5_planWrite_34 fX5_19 rfl ?_
    simp only [gF_pF, gF_pA, gF_pL, gA_pF, gA_pA, gA_pL, gL_pF, gL_pA, gL_pL, reduceIte, Nat.reduceEqDiff, and_false, false_and, and_true, true_and, and_self, h3]
    refine a_iload_n (pc := 37) dX5_planWrite_37 rfl ?_
    refine a_ast (pc := 38) _ dX5_planWrite_38 rfl rfl (by omega) ?_
    refine a_aload_n (pc := 39) dX5_planWrite_39 rfl ?_
    refine a_dup (pc := 40) dX5_planWrite_40 rfl ?_
    refine a_gi (pc := 41) dX5_planWrite_41 fX5_19 rfl ?_
    refine a_iconst (pc := 44) (nI 1) dX5_planWrite_44 (by decide) ?_
    refine a_iadd (pc := 45) dX5_planWrite_45 ?_
    try rw [nI_add]
    refine a_pi (pc := 46) dX5_planWrite_46 fX5_19 rfl ?_
    refine ret _ _ 49 _ dX5_planWrite_49 rfl ?_
    refine ⟨rfl, h.add hl ?_ ?_ (fun k hk => ?_) (fun _ => ?_), ?_, ((((Fr.rf _ g).sA (by decide) _).sA (by decide) _).sA (by decide) _).sF (by decide) _ _⟩
    · simp only [gF_pF, gF_pA, gF_pL, gA_pF, gA_pA, gA_pL, gL_pF, gL_pA, gL_pL, reduceIte, Nat.reduceEqDiff, and_false, false_and, and_true, true_and, and_self, h3]
      rw [nI_add]
    · simp only [gF_pF, gF_pA, gF_pL, gA_pF, gA_pA, gA_pL, gL_pF, gL_pA, gL_pL, reduceIte, Nat.reduceEqDiff, and_false, false_and, and_true, true_and, and_self]
    · simp only [gF_pF, gF_pA, gF_pL, gA_pF, gA_pA, gA_pL, gL_pF, gL_pA, gL_pL, reduceIte, Nat.reduceEqDiff, and_false, false_and, and_true, true_and, and_self, upd]
      rw [if_neg (by omega), if_neg (by omega)]
      exact ⟨rfl, rfl⟩
    · simp only [gF_pF, gF_pA, gF_pL, gA_pF, gA_pA, gA_pL, gL_pF, gL_pA, gL_pL, reduceIte, Nat.reduceEqDiff, and_false, false_and, and_true, true_and, and_self, upd]
    · simp only [gF_pF, gF_pA, gF_pL, gA_pF, gA_pA, gA_pL, gL_pF, gL_pA, gL_pL, reduceIte, Nat.reduceEqDiff, and_false, false_and, and_true, true_and, and_self]
set_option maxHeartbeats 1000000 in
set_option maxRecDepth 100000 in
theorem c_planF_47 {d0 kd kp rp : Nat} {g : GH} (L : List En) (st m f : Nat) (h : PL 47 g L) (hl : L.length < 11) (hm : m < 16) (hf : f < 4) (h4 : gF g 47 4 = nI m) : ACv mX5_planFence d0 (SS kd kp rp) g [.ref 47, .int (nI f)] (fun S' g' => S' = SS kd kp rp ∧ PL 47 g' (L ++ fnc (spB st m) (4 * st + f)) ∧ gF g' 47 4 = gF g 47 4 ∧ Fr [47, 48, 49, 50] g g') := by
  have h3 := h.1
  have e : spB st m (4 * st + f) = bI (m.testBit f) := SpM.own st m f hf
  refine ACv.of lcX5_planFence rfl rfl (fun X Q ad hR ret => ?_)
  refine AW_ls (ls' := [_, _]) rfl ?_
  refine a_aload_n (pc := 0) dX5_planFence_0 rfl ?_
  refine a_gi (pc := 1) dX5_planFence_1 fX5_19 rfl ?_
  rw [h3]
  refine a_bipush (pc := 4) (nI 11) dX5_planFence_4 (by decide) ?_
  refine a_icmp_geN (pc := 6) 40 dX5_planFence_6 (by decide) (by omega) (by omega) (fun c1 => ?_) (fun c1 => ?_)
  · exact absurd c1 (by omega)
  · refine a_aload_n (pc := 9) dX5_planFence_9 rfl ?_
    refine a_gi (pc := 10) dX5_planFence_10 fX5_23 rfl ?_
    rw [h4]
    refine a_iload_n (pc := 13) dX5_planFence_13 rfl ?_
    refine a_ishr (pc := 14) dX5_planFence_14 ?_
    refine a_iconst (pc := 15) (nI 1) dX5_planFence_15 (by decide) ?_
    refine a_iand (pc := 16) dX5_planFence_16 ?_
    rw [bt_at m f hm hf]
    refine a_if_neB (pc := 17) 40 dX5_planFence_17 (by decide) (fun c2 => ?_) (fun c2 => ?_)
    · refine ret _ _ 40 _ dX5_planFence_40 rfl ?_
      refine ⟨rfl, ?_, rfl, Fr.rf _ g⟩
      rw [fnc, e, c2, if_neg (by decide), List.append_nil]
      exact h
    · refine a_aload_n (pc := 20) dX5_planFence_20 rfl ?_
      refine a_gr (pc := 21) dX5_planFence_21 fX5_9 rfl ?_
      refine a_aload_n (pc := 24) dX5_planFence_24 rfl ?_
      refine a_gi (pc := 25) dX5_planFence_25 fX5_19 rfl ?_
      rw [h3]
      refine a_iconst (pc := 28) (-1) dX5_planFence_28 (by decide) ?_
      refine a_ast (pc := 29) _ dX5_planFence_29 rfl rfl (by omega) ?_
      refine a_aload_n (pc := 30) dX5_planFence_30 rfl ?_
      refine a_dup (pc := 31) dX5_planFence_31 rfl ?_
      refine a_gi (pc := 32) dX5_planFence_32 fX5_19 rfl ?_
      refine a_iconst (pc := 35) (nI 1) dX5_planFence_35 (by decide) ?_
      refine a_iadd (pc := 36) dX5_planFence_36 ?_
      try rw [nI_add]
      refine a_pi (pc := 37) dX5_planFence_37 fX5_19 rfl ?_
      refine ret _ _ 40 _ dX5_planFence_40 rfl ?_
      refine ⟨rfl, ?_, ?_, ((Fr.rf _ g).sA (by decide) _).sF (by decide) _ _⟩
      · rw [fnc, e, c2, if_pos (by decide)]
        refine h.add hl ?_ ?_ (fun k hk => ?_) (fun z => absurd rfl z)
        · simp only [gF_pF, gF_pA, gF_pL, gA_pF, gA_pA, gA_pL, gL_pF, gL_pA, gL_pL, reduceIte, Nat.reduceEqDiff, and_false, false_and, and_true, true_and, and_self, h3]
          rw [nI_add]
        · simp only [gF_pF, gF_pA, gF_pL, gA_pF, gA_pA, gA_pL, gL_pF, gL_pA, gL_pL, reduceIte, Nat.reduceEqDiff, and_false, false_and, and_true, true_and, and_self]
        · simp only [gF_pF, gF_pA, gF_pL, gA_pF, gA_pA, gA_pL, gL_pF, gL_pA, gL_pL, reduceIte, Nat.reduceEqDiff, and_false, false_and, and_true, true_and, and_self]
      · simp only [gF_pF, gF_pA, gF_pL, gA_pF, gA_pA, gA_pL, gL_pF, gL_pA, gL_pL, reduceIte, Nat.reduceEqDiff, and_false, false_and, and_true, true_and, and_self]
set_option maxRecDepth 100000 in
theorem c_isFence_47 {d0 kd kp rp : Nat} {g : GH} (L : List En) (k : Nat) (x : En) (h : PL 47 g L) (hx : L[k]? = some x) : ACi mX5_isFence d0 (SS kd kp rp) g [.ref 47, .int (nI k)] (fun r S' g' => S' = SS kd kp rp ∧ g' = g ∧ r = bI (decide (x.1 = -1))) := by
  have hk : k < L.length := (List.getElem?_eq_some_iff.mp hx).1
  have h11 := h.2.1
  obtain ⟨h1, h2⟩ := h.2.2 k x hx
  refine ACz.of lcX5_isFence rfl rfl (fun X Q ad hR ret => ?_)
  refine AW_ls (ls' := [_, _]) rfl ?_
  refine a_aload_n (pc := 0) dX5_isFence_0 rfl ?_
  refine a_gr (pc := 1) dX5_isFence_1 fX5_9 rfl ?_
  refine a_iload_n (pc := 4) dX5_isFence_4 rfl ?_
  refine a_ial (pc := 5) _ dX5_isFence_5 rfl rfl (by omega) ?_
  rw [h1]
  refine a_iconst (pc := 6) (-1) dX5_isFence_6 (by decide) ?_
  refine a_icmp_ne (pc := 7) 14 dX5_isFence_7 (by decide) (fun c1 => ?_) (fun c1 => ?_)
  · refine a_iconst (pc := 14) (nI 0) dX5_isFence_14 (by decide) ?_
    refine ret _ _ 15 _ _ dX5_isFence_15 rfl (by first | exact Or.inl rfl | exact Or.inr rfl | exact bI_01 _) ?_
    exact ⟨rfl, rfl, (bI_ndec _ c1).symm⟩
  · refine a_iconst (pc := 10) (nI 1) dX5_isFence_10 (by decide) ?_
    refine a_goto (pc := 11) 15 dX5_isFence_11 (by decide) ?_
    refine ret _ _ 15 _ _ dX5_isFence_15 rfl (by first | exact Or.inl rfl | exact Or.inr rfl | exact bI_01 _) ?_
    exact ⟨rfl, rfl, (bI_dec _ c1).symm⟩
set_option maxHeartbeats 1000000 in
set_option maxRecDepth 100000 in
theorem c_enqP_1 {d0 kd kp rp : Nat} {g : GH} (q : Qd) (L : List En) (k : Nat) (x : En) (h : CD 1 g q) (hl : q.2.length < 60) (hL : PL 17 g L) (hx : L[k]? = some x) (hxo : okE x) (hxf : x.1 = -1 → x.2 = (nI 0, nI 0)) : ACv mX0_enqueuePlanned (d0 + 2) (SS kd kp rp) g [.ref 1, .ref 17, .int (nI k)] (fun S' g' => S' = SS kd kp rp ∧ CD 1 g' (q.1, q.2 ++ [x]) ∧ gF g' 1 11 = gF g 1 11 + (if x.1 = -1 then nI 0 else nI 1) ∧ gF g' 1 12 = gF g 1 12 + nI 1 ∧ Fr [1, 2, 3, 4, 5, 6, 7] g g') := by
  have hk : k < L.length := (List.getElem?_eq_some_iff.mp hx).1
  have h11 := hL.2.1
  obtain ⟨h1, h2⟩ := hL.2.2 k x hx
  refine ACv.of lcX0_enqueuePlanned rfl rfl (fun X Q ad hR ret => ?_)
  refine AW_ls (ls' := [_, _, _]) rfl ?_
  refine a_aload_n (pc := 0) dX0_enqueuePlanned_0 rfl ?_
  refine a_iload_n (pc := 1) dX0_enqueuePlanned_1 rfl ?_
  refine a_V1i (pc := 2) 4 dX0_enqueuePlanned_2 lcX5_isFence lX0_57 rfl rfl rfl (fit_of hR (by omega) rfl) (c_isFence_17 (d0 := d0) L k x hL hx) rfl rfl (ex_i ?_)
  refine a_if_eqB (pc := 5) 15 dX0_enqueuePlanned_5 (by decide) (fun c1 => ?_) (fun c1 => ?_)
  · have hn := of_decide_eq_false c1
    obtain ⟨h3, h4⟩ := h2 hn
    refine a_aload_n (pc := 15) dX0_enqueuePlanned_15 rfl ?_
    refine a_aload_n (pc := 16) dX0_enqueuePlanned_16 rfl ?_
    refine a_gr (pc := 17) dX0_enqueuePlanned_17 fX0_65 rfl ?_
    refine a_iload_n (pc := 20) dX0_enqueuePlanned_20 rfl ?_
    refine a_ial (pc := 21) _ dX0_enqueuePlanned_21 rfl rfl (by omega) ?_
    rw [h1]
    refine a_aload_n (pc := 22) dX0_enqueuePlanned_22 rfl ?_
    refine a_gr (pc := 23) dX0_enqueuePlanned_23 fX0_66 rfl ?_
    refine a_iload_n (pc := 26) dX0_enqueuePlanned_26 rfl ?_
    refine a_ial (pc := 27) _ dX0_enqueuePlanned_27 rfl rfl (by omega) ?_
    rw [h3]
    refine a_aload_n (pc := 28) dX0_enqueuePlanned_28 rfl ?_
    refine a_gr (pc := 29) dX0_enqueuePlanned_29 fX0_67 rfl ?_
    refine a_iload_n (pc := 32) dX0_enqueuePlanned_32 rfl ?_
    refine a_ial (pc := 33) _ dX0_enqueuePlanned_33 rfl rfl (by omega) ?_
    rw [h4]
    rcases hxo with z | ⟨s, hs, z⟩
    · exact absurd z hn
    · rw [z]
      refine a_V3v (pc := 34) 0 dX0_enqueuePlanned_34 lcX0_enqueueWrite lX0_68 rfl rfl rfl (fit_of hR (by omega) rfl) (c_enqW_1 (d0 := d0) q s x.2.1 x.2.2 h hs hl) rfl rfl (fun S' g' hS hp => ?_)
      obtain ⟨rfl, y1, y2, y3, y4⟩ := hp
      refine ret _ _ 37 _ dX0_enqueuePlanned_37 rfl ?_
      refine ⟨rfl, ?_, ?_, y3, y4⟩
      · have : x = (nI s, x.2.1, x.2.2) := by rw [← z]
        rw [this]
        exact y1
      · rw [y2, if_neg hn]
  · have hn := of_decide_eq_true c1
    refine a_aload_n (pc := 8) dX0_enqueuePlanned_8 rfl ?_
    refine a_V0v (pc := 9) 0 dX0_enqueuePlanned_9 lcX0_enqueueFence lX0_62 rfl rfl rfl (fit_of hR (by omega) rfl) (c_enqF_1 (d0 := d0) q h hl) rfl rfl (fun S' g' hS hp => ?_)
    obtain ⟨rfl, y1, y2, y3, y4⟩ := hp
    refine a_goto (pc := 12) 37 dX0_enqueuePlanned_12 (by decide) ?_
    refine ret _ _ 37 _ dX0_enqueuePlanned_37 rfl ?_
    refine ⟨rfl, ?_, ?_, y3, y4⟩
    · have : x = (-1, nI 0, nI 0) := by
        have e := hxf hn
        exact Prod.ext hn e
      rw [this]
      exact y1
    · rw [y2, if_pos hn, add_n0]
set_option maxHeartbeats 1000000 in
set_option maxRecDepth 100000 in
theorem c_enqP_27 {d0 kd kp rp : Nat} {g : GH} (q : Qd) (L : List En) (k : Nat) (x : En) (h : CD 27 g q) (hl : q.2.length < 60) (hL : PL 43 g L) (hx : L[k]? = some x) (hxo : okE x) (hxf : x.1 = -1 → x.2 = (nI 0, nI 0)) : ACv mX0_enqueuePlanned (d0 + 2) (SS kd kp rp) g [.ref 27, .ref 43, .int (nI k)] (fun S' g' => S' = SS kd kp rp ∧ CD 27 g' (q.1, q.2 ++ [x]) ∧ gF g' 27 11 = gF g 27 11 + (if x.1 = -1 then nI 0 else nI 1) ∧ gF g' 27 12 = gF g 27 12 + nI 1 ∧ Fr [27, 28, 29, 30, 31, 32, 33] g g') := by
  have hk : k < L.length := (List.getElem?_eq_some_iff.mp hx).1
  have h11 := hL.2.1
  obtain ⟨h1, h2⟩ := hL.2.2 k x hx
  refine ACv.of lcX0_enqueuePlanned rfl rfl (fun X Q ad hR ret => ?_)
  refine AW_ls (ls' := [_, _, _]) rfl ?_
  refine a_aload_n (pc := 0) dX0_enqueuePlanned_0 rfl ?_
  refine a_iload_n (pc := 1) dX0_enqueuePlanned_1 rfl ?_
  refine a_V1i (pc := 2) 4 dX0_enqueuePlanned_2 lcX5_isFence lX0_57 rfl rfl rfl (fit_of hR (by omega) rfl) (c_isFence_43 (d0 := d0) L k x hL hx) rfl rfl (ex_i ?_)
  refine a_if_eqB (pc := 5) 15 dX0_enqueuePlanned_5 (by decide) (fun c1 => ?_) (fun c1 => ?_)
  · have hn := of_decide_eq_false c1
    obtain ⟨h3, h4⟩ := h2 hn
    refine a_aload_n (pc := 15) dX0_enqueuePlanned_15 rfl ?_
    refine a_aload_n (pc := 16) dX0_enqueuePlanned_16 rfl ?_
    refine a_gr (pc := 17) dX0_enqueuePlanned_17 fX0_65 rfl ?_
    refine a_iload_n (pc := 20) dX0_enqueuePlanned_20 rfl ?_
    refine a_ial (pc := 21) _ dX0_enqueuePlanned_21 rfl rfl (by omega) ?_
    rw [h1]
    refine a_aload_n (pc := 22) dX0_enqueuePlanned_22 rfl ?_
    refine a_gr (pc := 23) dX0_enqueuePlanned_23 fX0_66 rfl ?_
    refine a_iload_n (pc := 26) dX0_enqueuePlanned_26 rfl ?_
    refine a_ial (pc := 27) _ dX0_enqueuePlanned_27 rfl rfl (by omega) ?_
    rw [h3]
    refine a_aload_n (pc := 28) dX0_enqueuePlanned_28 rfl ?_
    refine a_gr (pc := 29) dX0_enqueuePlanned_29 fX0_67 rfl ?_
    refine a_iload_n (pc := 32) dX0_enqueuePlanned_32 rfl ?_
    refine a_ial (pc := 33) _ dX0_enqueuePlanned_33 rfl rfl (by omega) ?_
    rw [h4]
    rcases hxo with z | ⟨s, hs, z⟩
    · exact absurd z hn
    · rw [z]
      refine a_V3v (pc := 34) 0 dX0_enqueuePlanned_34 lcX0_enqueueWrite lX0_68 rfl rfl rfl (fit_of hR (by omega) rfl) (c_enqW_27 (d0 := d0) q s x.2.1 x.2.2 h hs hl) rfl rfl (fun S' g' hS hp => ?_)
      obtain ⟨rfl, y1, y2, y3, y4⟩ := hp
      refine ret _ _ 37 _ dX0_enqueuePlanned_37 rfl ?_
      refine ⟨rfl, ?_, ?_, y3, y4⟩
      · have : x = (nI s, x.2.1, x.2.2) := by rw [← z]
        rw [this]
        exact y1
      · rw [y2, if_neg hn]
  · have hn := of_decide_eq_true c1
    refine a_aload_n (pc := 8) dX0_enqueuePlanned_8 rfl ?_
    refine a_V0v (pc := 9) 0 dX0_enqueuePlanned_9 lcX0_enqueueFence lX0_62 rfl rfl rfl (fit_of hR (by omega) rfl) (c_enqF_27 (d0 := d0) q h hl) rfl rfl (fun S' g' hS hp => ?_)
    obtain ⟨rfl, y1, y2, y3, y4⟩ := hp
    refine a_goto (pc := 12) 37 dX0_enqueuePlanned_12 (by decide) ?_
    refine ret _ _ 37 _ dX0_enqueuePlanned_37 rfl ?_
    refine ⟨rfl, ?_, ?_, y3, y4⟩
    · have : x = (-1, nI 0, nI 0) := by
        have e := hxf hn
        exact Prod.ext hn e
      rw [this]
      exact y1
    · rw [y2, if_pos hn, add_n0]
set_option maxHeartbeats 1000000 in
set_option maxRecDepth 100000 in
/-- a plan goes into the row of what has risen -/
theorem c_writeInto {d0 kd kp rp : Nat} {g : GH} (L : List En) (F : Nat → Int32) (h : PL 47 g L) (hLo : ∀ x ∈ L, okE x) (hF : ∀ p, p < 32 → gA g 61 p = F p) : ACv mX5_writeInto (d0 + 1) (SS kd kp rp) g [.ref 47, .ref 61] (fun S' g' => S' = SS kd kp rp ∧ (∀ p, p < 32 → gA g' 61 p = flQ (F, L) p) ∧ Fr [61] g g') := by
  have h11 := h.2.1
  refine ACv.of lcX5_writeInto rfl rfl (fun X Q ad hR ret => ?_)
  refine AW_ls (ls' := [_, _, _]) rfl ?_
  refine a_iconst (pc := 0) (nI 0) dX5_writeInto_0 (by decide) ?_
  refine a_istore_n (pc := 1) (ls' := [_, _, _]) dX5_writeInto_1 (Nat.le_of_ble_eq_true rfl) rfl ?_
  have loop : ∀ t k, L.length = k + t → ∀ g1 : GH, Fr [61] g g1 → (∀ p, p < 32 → gA g1 61 p = flQ (F, L.take k) p) → AW mX5_writeInto X Q ad 0 0 (conc (SS kd kp rp) g1) 2 [some (.ref 47), some (.ref 61), some (.int (nI k))] [] := by
    intro t
    induction t with
    | zero =>
      intro k hk g1 hfr hf1
      refine a_iload_n (pc := 2) dX5_writeInto_2 rfl ?_
      refine a_aload_n (pc := 3) dX5_writeInto_3 rfl ?_
      refine a_gi (pc := 4) dX5_writeInto_4 fX5_19 rfl ?_
      rw [hfr.f (by decide), h.1]
      refine a_icmp_geN (pc := 7) 58 dX5_writeInto_7 (by decide) (by omega) (by omega) (fun c1 => ?_) (fun c1 => ?_)
      · refine ret _ _ 58 _ dX5_writeInto_58 rfl ?_
        refine ⟨rfl, fun p hp => ?_, hfr⟩
        rw [hf1 p hp, List.take_of_length_le (by omega)]
      · exact absurd c1 (by omega)
    | succ t ih =>
      intro k hk g1 hfr hf1
      have hx : L[k]? = some L[k] := List.getElem?_eq_getElem (by omega)
      have hxo : okE L[k] := hLo _ (List.getElem_mem _)
      generalize L[k] = x at hx hxo
      have hL1 : PL 47 g1 L := h.fr hfr (by decide)
      obtain ⟨h1, h2⟩ := hL1.2.2 k x hx
      have ht : L.take (k + 1) = L.take k ++ [x] := by rw [List.take_add_one, hx, Option.toList_some]
      refine a_iload_n (pc := 2) dX5_writeInto_2 rfl ?_
      refine a_aload_n (pc := 3) dX5_writeInto_3 rfl ?_
      refine a_gi (pc := 4) dX5_writeInto_4 fX5_19 rfl ?_
      rw [hfr.f (by decide), h.1]
      refine a_icmp_geN (pc := 7) 58 dX5_writeInto_7 (by decide) (by omega) (by omega) (fun c1 => ?_) (fun c1 => ?_)
      · exact absurd c1 (by omega)
      · refine a_aload_n (pc := 10) dX5_writeInto_10 rfl ?_
        refine a_iload_n (pc := 11) dX5_writeInto_11 rfl ?_
        refine a_V1i (pc := 12) 4 dX5_writeInto_12 lcX5_isFence lX5_28 rfl rfl rfl (fit_of hR (by omega) rfl) (c_isFence_47 (d0 := d0) L k x hL1 hx) rfl rfl (ex_i ?_)
        refine a_if_neB (pc := 15) 52 dX5_writeInto_15 (by decide) (fun c2 => ?_) (fun c2 => ?_)
        · have hn := of_decide_eq_true c2
          refine a_iinc (pc := 52) (ls' := [_, _, _]) (nI 1) dX5_writeInto_52 (by decide) rfl (Nat.le_of_ble_eq_true rfl) rfl ?_
          try rw [nI_add]
          refine a_goto (pc := 55) 2 dX5_writeInto_55 (by decide) ?_
          refine ih (k + 1) (by omega) g1 hfr (fun p hp => ?_)
          rw [ht, flQ_app, if_pos hn]
          exact hf1 p hp
        · have hn := of_decide_eq_false c2
          obtain ⟨h3, h4⟩ := h2 hn
          rcases hxo with z | ⟨s, hs, z⟩
          · exact absurd z hn
          · refine a_aload_n (pc := 18) dX5_writeInto_18 rfl ?_
            refine a_iconst (pc := 19) (nI 2) dX5_writeInto_19 (by decide) ?_
            refine a_aload_n (pc := 20) dX5_writeInto_20 rfl ?_
            refine a_gr (pc := 21) dX5_writeInto_21 fX5_9 rfl ?_
            refine a_iload_n (pc := 24) dX5_writeInto_24 rfl ?_
            refine a_ial (pc := 25) _ dX5_writeInto_25 rfl rfl (by omega) ?_
            rw [h1, z]
            refine a_imul (pc := 26) dX5_writeInto_26 ?_
            try rw [pk_mul]
            refine a_aload_n (pc := 27) dX5_writeInto_27 rfl ?_
            refine a_gr (pc := 28) dX5_writeInto_28 fX5_13 rfl ?_
            refine a_iload_n (pc := 31) dX5_writeInto_31 rfl ?_
            refine a_ial (pc := 32) _ dX5_writeInto_32 rfl rfl (by omega) ?_
            rw [h3]
            refine a_ast (pc := 33) _ dX5_writeInto_33 rfl rfl (by omega) ?_
            refine a_aload_n (pc := 34) dX5_writeInto_34 rfl ?_
            refine a_iconst (pc := 35) (nI 2) dX5_writeInto_35 (by decide) ?_
            refine a_aload_n (pc := 36) dX5_writeInto_36 rfl ?_
            refine a_gr (pc := 37) dX5_writeInto_37 fX5_9 rfl ?_
            refine a_iload_n (pc := 40) dX5_writeInto_40 rfl ?_
            refine a_ial (pc := 41) _ dX5_writeInto_41 rfl rfl (by omega) ?_
            rw [show gA (pA g1 61 (upd (gA g1 61) (2 * s) x.2.1)) 48 k = nI s from h1.trans z]
            refine a_imul (pc := 42) dX5_writeInto_42 ?_
            try rw [pk_mul]
            refine a_iconst (pc := 43) (nI 1) dX5_writeInto_43 (by decide) ?_
            refine a_iadd (pc := 44) dX5_writeInto_44 ?_
            try rw [nI_add]
            refine a_aload_n (pc := 45) dX5_writeInto_45 rfl ?_
            refine a_gr (pc := 46) dX5_writeInto_46 fX5_16 rfl ?_
            refine a_iload_n (pc := 49) dX5_writeInto_49 rfl ?_
            refine a_ial (pc := 50) _ dX5_writeInto_50 rfl rfl (by omega) ?_
            rw [show gA (pA g1 61 (upd (gA g1 61) (2 * s) x.2.1)) 50 k = x.2.2 from h4]
            refine a_ast (pc := 51) _ dX5_writeInto_51 rfl rfl (by omega) ?_
            refine a_iinc (pc := 52) (ls' := [_, _, _]) (nI 1) dX5_writeInto_52 (by decide) rfl (Nat.le_of_ble_eq_true rfl) rfl ?_
            try rw [nI_add]
            refine a_goto (pc := 55) 2 dX5_writeInto_55 (by decide) ?_
            simp only [gF_pF, gF_pA, gF_pL, gA_pF, gA_pA, gA_pL, gL_pF, gL_pA, gL_pL, reduceIte, Nat.reduceEqDiff, and_false, false_and, and_true, true_and, and_self]
            rw [pA_pA]
            refine ih (k + 1) (by omega) _ (hfr.sA (by decide) _) (fun p hp => ?_)
            rw [gA_pA, if_pos rfl, ht, flQ_app, if_neg hn, z, nI_clamp (by omega)]
            simp only [upd]
            rw [hf1 p hp]
  exact loop L.length 0 (by omega) g (Fr.rf _ g) hF
