/-! going through, by the class -/
set_option maxHeartbeats 1000000 in
set_option maxRecDepth 100000 in
theorem c_makeSure_67 {d0 : Nat} {g : GH} (A : List Ac) (w : Ws) (st m n Ed c : Nat) (nb : Bool) (hst : st < 3) (hm : m < 16) (h8 : A.length ≤ 8) (hn : n < A.length) (hq : CD 27 g w.1) (hs : SeD 34 27 g w.1 Ed) (hEd : Ed + 20 < 2147483648) (hD : DuC g A) (h10 : gF g 26 10 = nI m) (h11 : gF g 26 11 = nI (n + 1)) (h13 : gF g 26 13 = bI nb) (hr : RpC 67 g w.2) (hN : RpN c w.2) (hc : c ≤ 900) : ACi mX3_makeSure (d0 + 37) (SS (71 + st) 64 67) g [.ref 26] (fun rr S' g' => S' = SS (71 + st) 64 67 ∧ Fr (26 :: chL_67) g g' ∧ gF g' 26 12 = nI (n + 1) ∧ (∀ j, j ≠ 12 → gF g' 26 j = gF g 26 j) ∧ CD 27 g' (flQ w.1, []) ∧ SeD 34 27 g' (flQ w.1, []) (Ed + 1) ∧ ∃ b : Bool, rr = bI b ∧ (FitQ (flQ w.1, []) → RpC 67 g' (momP A (flQ w.1, []) st (spB st m) (n + 1) (n + 1) (tk w.2 5)) ∧ b = (!nb || decide ((momP A (flQ w.1, []) st (spB st m) (n + 1) (n + 1) (tk w.2 5)).1 2 = 0))) ∧ (¬ FitQ (flQ w.1, []) → b = false)) := by
  refine ACz.of lcX3_makeSure rfl rfl (fun X Q ad hR ret => ?_)
  refine AW_ls (ls' := [_]) rfl ?_
  refine a_aload_n (pc := 0) dX3_makeSure_0 rfl ?_
  refine a_gr (pc := 1) dX3_makeSure_1 fX3_12 rfl ?_
  refine a_V0v (pc := 4) 0 dX3_makeSure_4 lcX0_settle lX3_108 rfl rfl rfl (fit_of hR (by omega) rfl) (c_settle_27 (d0 := d0) w.1 hq) rfl rfl (fun S' g1 hS hp => ?_)
  obtain ⟨rfl, q1, -, ed1, f1⟩ := hp
  have ed1 : gF g1 27 12 = nI (Ed + 1) := by rw [ed1, hs.1, nI_add]
  have s1 : SeD 34 27 g1 (flQ w.1, []) (Ed + 1) := hs.next ed1 (f1.a (by decide)) (f1.f (by decide) 13)
  have r1 := hr.fr f1 (by decide) (by decide) (by decide)
  refine a_aload_n (pc := 7) dX3_makeSure_7 rfl ?_
  refine a_aload_n (pc := 8) dX3_makeSure_8 rfl ?_
  refine a_gi (pc := 9) dX3_makeSure_9 fX3_68 rfl ?_
  rw [show gF g1 26 11 = nI (n + 1) from (f1.f (by decide) 11).trans h11]
  refine a_pi (pc := 12) dX3_makeSure_12 fX3_71 rfl ?_
  refine a_aload_n (pc := 15) dX3_makeSure_15 rfl ?_
  refine a_gr (pc := 16) dX3_makeSure_16 fX3_61 rfl ?_
  refine a_gr (pc := 19) dX3_makeSure_19 fX3_111 rfl ?_
  refine a_iconst (pc := 22) (nI 5) dX3_makeSure_22 (by decide) ?_
  refine a_dup2 (pc := 23) dX3_makeSure_23 rfl rfl ?_
  refine a_ial (pc := 24) _ dX3_makeSure_24 rfl rfl (by omega) ?_
  rw [show gA (pF g1 26 12 (nI (n + 1))) 68 5 = nI (w.2.1 5) from r1.1 5 (by decide)]
  refine a_iconst (pc := 25) (nI 1) dX3_makeSure_25 (by decide) ?_
  refine a_iadd (pc := 26) dX3_makeSure_26 ?_
  try rw [nI_add]
  refine a_ast (pc := 27) _ dX3_makeSure_27 rfl rfl (by omega) ?_
  refine a_aload_n (pc := 28) dX3_makeSure_28 rfl ?_
  generalize hg2 : pA (pF g1 26 12 (nI (n + 1))) 68 (upd (gA (pF g1 26 12 (nI (n + 1))) 68) 5 (nI (w.2.1 5 + 1))) = g2
  have f12 : Fr [26, 68] g1 g2 := by
    rw [← hg2]
    exact ((Fr.rf _ g1).sF (by decide) _ _).sA (by decide) _
  have r2 : RpC 67 g2 (tk w.2 5) := by
    rw [← hg2]
    exact RpC.tick (g := pF g1 26 12 (nI (n + 1))) (r1.keep rfl rfl rfl) 5 (by decide)
  have k2 : ∀ j, j ≠ 12 → gF g2 26 j = gF g 26 j := fun j hj => by
    rw [← hg2, gF_pA, gF_pF, if_neg (fun z => hj z.2)]
    exact f1.f (by decide) j
  have k12 : gF g2 26 12 = nI (n + 1) := by
    rw [← hg2, gF_pA, gF_pF, if_pos ⟨rfl, rfl⟩]
  have f2 : Fr (26 :: chL_67) g g2 := (f1.mono (by decide)).tr (f12.mono (by decide))
  have n2 := (hN.tk3 5 (by decide))
  refine a_V0i (pc := 29) 2 dX3_makeSure_29 lcX3_lookAround lX3_91 rfl rfl rfl (fit_of hR (by omega) rfl) (c_look_67 (d0 := d0) A (flQ w.1, []) st m (n + 1) (n + 1) (Ed + 1) nb (tk w.2 5) hst hm (q1.fr f12 (by decide)) (s1.fr f12 (by decide) (by decide)) (by omega) (hD.fr h8 f2 (by decide)) h8 (by omega) (Nat.le_refl _) ((k2 10 (by decide)).trans h10) ((k2 11 (by decide)).trans h11) k12 ((k2 13 (by decide)).trans h13) r2 (n2.b (by omega)) (by have e := tk_0 w.2 5 0 (by decide); have := hN.1; omega)) rfl rfl (fun rr S' g3 hS hp => ?_)
  obtain ⟨rfl, s3, f3, b, rfl, hy, hno⟩ := hp
  refine ret _ _ 32 _ _ dX3_makeSure_32 rfl (by first | exact Or.inl rfl | exact Or.inr rfl | exact bI_01 _) ?_
  exact ⟨rfl, f2.tr (f3.mono (by decide)), (f3.f (by decide) 12).trans k12, fun j hj => (f3.f (by decide) j).trans (k2 j hj), (q1.fr f12 (by decide)).fr f3 (by decide), s3, b, rfl, hy, hno⟩
abbrev wkL_67 : List Nat := [26, 27, 28, 29, 30, 31, 32, 33, 34, 35, 36, 37, 38, 39, 40, 41, 42, 43, 44, 45, 46, 47, 48, 49, 50, 51, 52, 53, 54, 55, 56, 57, 58, 59, 60, 61, 62, 67, 68, 69]
set_option maxHeartbeats 1000000 in
set_option maxRecDepth 100000 in
theorem c_walk_67 {d0 kd : Nat} {g : GH} (A : List Ac) (st m Ed : Nat) (nb : Bool) (q0 : Qd) (hst : st < 3) (hm : m < 16) (hA : CSc g A) (hs : SeD 34 27 g q0 Ed) (hEd : Ed + 200 < 2147483648) : ACi mX3_walk (d0 + 38) (SS kd 64 67) g [.ref 26, .ref (71 + st), .int (nI m), .ref 21, .int (bI nb)] (fun rr S' g' => S' = SS (71 + st) 64 67 ∧ Fr wkL_67 g g' ∧ (∃ (Ed' : Nat) (q' : Qd), Ed ≤ Ed' ∧ Ed' ≤ Ed + 100 ∧ SeD 34 27 g' q' Ed') ∧ ∃ b : Bool, rr = bI b ∧ (b = true → ∃ rp', walkM A st m = some rp' ∧ RpC 67 g' rp' ∧ (nb = true → rp'.1 2 = 0)) ∧ (b = false → walkM A st m = none ∨ (nb = true ∧ ∀ rp', walkM A st m = some rp' → rp'.1 2 ≠ 0))) := by
  have h8 := hA.2.1
  refine ACz.of lcX3_walk rfl rfl (fun X Q ad hR ret => ?_)
  refine AW_ls (ls' := [_, _, _, _, _, _, _]) rfl ?_
  refine a_aload_n (pc := 0) dX3_walk_0 rfl ?_
  refine a_aload_n (pc := 1) dX3_walk_1 rfl ?_
  refine a_p26 (71 + st) 64 67 (pc := 2) dX3_walk_2 fX3_50 (Or.inl rfl) rfl ?_
  refine a_aload_n (pc := 5) dX3_walk_5 rfl ?_
  refine a_iload_n (pc := 6) dX3_walk_6 rfl ?_
  refine a_pi (pc := 7) dX3_walk_7 fX3_64 rfl ?_
  refine a_aload_n (pc := 10) dX3_walk_10 rfl ?_
  refine a_iload (pc := 11) dX3_walk_11 rfl ?_
  refine a_pz (pc := 13) dX3_walk_13 fX3_74 (by first | exact Or.inl rfl | exact Or.inr rfl | exact bI_01 _) rfl ?_
  refine a_aload_n (pc := 16) dX3_walk_16 rfl ?_
  refine a_iconst (pc := 17) (nI 0) dX3_walk_17 (by decide) ?_
  refine a_pi (pc := 18) dX3_walk_18 fX3_68 rfl ?_
  refine a_aload_n (pc := 21) dX3_walk_21 rfl ?_
  refine a_iconst (pc := 22) (nI 0) dX3_walk_22 (by decide) ?_
  refine a_pi (pc := 23) dX3_walk_23 fX3_71 rfl ?_
  refine a_aload_n (pc := 26) dX3_walk_26 rfl ?_
  refine a_gr (pc := 27) dX3_walk_27 fX3_61 rfl ?_
  generalize hg1 : pF (pF (pF (pF g 26 10 (nI m)) 26 13 (bI nb)) 26 11 (nI 0)) 26 12 (nI 0) = g1
  have f1 : Fr [26] g g1 := by
    rw [← hg1]
    exact ((((Fr.rf _ g).sF (by decide) _ _).sF (by decide) _ _).sF (by decide) _ _).sF (by decide) _ _
  have p10 : gF g1 26 10 = nI m := by
    rw [← hg1]
    simp only [gF_pF, gF_pA, gF_pL, gA_pF, gA_pA, gA_pL, gL_pF, gL_pA, gL_pL, reduceIte, Nat.reduceEqDiff, and_false, false_and, and_true, true_and, and_self]
  have p13 : gF g1 26 13 = bI nb := by
    rw [← hg1]
    simp only [gF_pF, gF_pA, gF_pL, gA_pF, gA_pA, gA_pL, gL_pF, gL_pA, gL_pL, reduceIte, Nat.reduceEqDiff, and_false, false_and, and_true, true_and, and_self]
  have p11 : gF g1 26 11 = nI 0 := by
    rw [← hg1]
    simp only [gF_pF, gF_pA, gF_pL, gA_pF, gA_pA, gA_pL, gL_pF, gL_pA, gL_pL, reduceIte, Nat.reduceEqDiff, and_false, false_and, and_true, true_and, and_self]
  have p12 : gF g1 26 12 = nI 0 := by
    rw [← hg1]
    simp only [gF_pF, gF_pA, gF_pL, gA_pF, gA_pA, gA_pL, gL_pF, gL_pA, gL_pL, reduceIte, Nat.reduceEqDiff, and_false, false_and, and_true, true_and, and_self]
  refine a_V0v (pc := 30) 5 dX3_walk_30 lcX6_begin lX3_78 rfl rfl rfl (fit_of hR (by omega) rfl) (c_rbegin_67 (d0 := d0)) rfl rfl (fun S' g2 hS hp => ?_)
  obtain ⟨rfl, r2, f2⟩ := hp
  have fa2 : Fr wkL_67 g g2 := (f1.mono (by decide)).tr (f2.mono (by decide))
  refine a_aload_n (pc := 33) dX3_walk_33 rfl ?_
  refine a_aload_n (pc := 34) dX3_walk_34 rfl ?_
  refine a_gr (pc := 35) dX3_walk_35 fX3_37 rfl ?_
  refine a_V1v (pc := 38) 6 dX3_walk_38 lcX7_foresee lX3_81 rfl rfl rfl (fit_of hR (by omega) rfl) (c_foresee (d0 := d0) A (hA.fr fa2 (by decide) (by decide) (by decide) (by decide) (by decide))) rfl rfl (fun S' g3 hS hp => ?_)
  obtain ⟨rfl, d3, f3⟩ := hp
  have fa3 : Fr wkL_67 g g3 := fa2.tr (f3.mono (by decide))
  refine a_aload_n (pc := 41) dX3_walk_41 rfl ?_
  refine a_gr (pc := 42) dX3_walk_42 fX3_12 rfl ?_
  refine a_aload_n (pc := 45) dX3_walk_45 rfl ?_
  refine a_V1v (pc := 46) 0 dX3_walk_46 lcX0_format lX3_87 rfl rfl rfl (fit_of hR (by omega) rfl) (c_dformat_27 (d0 := d0) st hst) rfl rfl (fun S' g4 hS hp => ?_)
  obtain ⟨rfl, q4, -, ed4, f4⟩ := hp
  have f24 : Fr [26, 27, 28, 29, 30, 31, 32, 33, 52, 53, 54, 55, 56, 57, 58, 59, 60, 67, 68] g g4 := (((f1.mono (by decide)).tr (f2.mono (by decide))).tr (f3.mono (by decide))).tr (f4.mono (by decide))
  have fa4 : Fr wkL_67 g g4 := fa3.tr (f4.mono (by decide))
  have e3 : gF g3 27 12 = nI Ed := (f3.f (by decide) 12).trans ((f2.f (by decide) 12).trans ((f1.f (by decide) 12).trans hs.1))
  have s4 : SeD 34 27 g4 (fmtQ st, []) (Ed + 1) := hs.next (by rw [ed4, e3, nI_add]) (f24.a (by decide)) (f24.f (by decide) 13)
  have k4 : ∀ j, gF g4 26 j = gF g1 26 j := fun j => (f4.f (by decide) j).trans ((f3.f (by decide) j).trans (f2.f (by decide) j))
  have r4 : RpC 67 g4 (fun _ => 0, []) := (r2.fr f3 (by decide) (by decide) (by decide)).fr f4 (by decide) (by decide) (by decide)
  have d4 : DuC g4 A := d3.fr h8 f4 (by decide)
  refine a_aload_n (pc := 49) dX3_walk_49 rfl ?_
  refine a_V0i (pc := 50) 2 dX3_walk_50 lcX3_lookAround lX3_91 rfl rfl rfl (fit_of hR (by omega) rfl) (c_look_67 (d0 := d0) A (fmtQ st, []) st m 0 0 (Ed + 1) nb (fun _ => 0, []) hst hm q4 s4 (by omega) d4 h8 (Nat.zero_le _) (Nat.le_refl _) ((k4 10).trans p10) ((k4 11).trans p11) ((k4 12).trans p12) ((k4 13).trans p13) r4 ⟨by decide, by decide, by decide, by decide, by decide, by decide, by decide⟩ (by decide)) rfl rfl (fun rr S' g5 hS hp => ?_)
  obtain ⟨rfl, s5, f5, b, rfl, hy, hno⟩ := hp
  have fa5 : Fr wkL_67 g g5 := fa4.tr (f5.mono (by decide))
  have q5 : CD 27 g5 (fmtQ st, []) := q4.fr f5 (by decide)
  have k5 : ∀ j, gF g5 26 j = gF g1 26 j := fun j => (f5.f (by decide) j).trans (k4 j)
  refine a_istore (pc := 53) (ls' := [_, _, _, _, _, _, _]) dX3_walk_53 (Nat.le_of_ble_eq_true rfl) rfl ?_
  refine a_iconst (pc := 55) (nI 0) dX3_walk_55 (by decide) ?_
  refine a_istore (pc := 56) (ls' := [_, _, _, _, _, _, _]) dX3_walk_56 (Nat.le_of_ble_eq_true rfl) rfl ?_
  have stop : ∀ (g6 : GH) (j Ed' : Nat) (q' : Qd), j ≤ A.length → Fr wkL_67 g g6 → Ed ≤ Ed' → Ed' ≤ Ed + 100 → SeD 34 27 g6 q' Ed' → (walkM A st m = none ∨ (nb = true ∧ ∀ rp', walkM A st m = some rp' → rp'.1 2 ≠ 0)) → AW mX3_walk X Q ad 0 0 (conc (SS (71 + st) 64 67) g6) 58 [some (.ref 26), some (.ref (71 + st)), some (.int (nI m)), some (.ref 21), some (.int (bI nb)), some (.int (bI false)), some (.int (nI j))] [] := by
    intro g6 j Ed' q' hj f6 d1 d2 s6 hres
    have hA6 := hA.fr f6 (by decide) (by decide) (by decide) (by decide) (by decide)
    have out : AW mX3_walk X Q ad 0 0 (conc (SS (71 + st) 64 67) g6) 113 [some (.ref 26), some (.ref (71 + st)), some (.int (nI m)), some (.ref 21), some (.int (bI nb)), some (.int (bI false)), some (.int (nI j))] [] := by
      refine a_iload (pc := 113) dX3_walk_113 rfl ?_
      refine ret _ _ 115 _ _ dX3_walk_115 rfl (by first | exact Or.inl rfl | exact Or.inr rfl | exact bI_01 _) ?_
      exact ⟨rfl, f6, ⟨Ed', q', d1, d2, s6⟩, false, rfl, (fun z => by cases z), fun _ => hres⟩
    refine a_iload (pc := 58) dX3_walk_58 rfl ?_
    refine a_aload_n (pc := 60) dX3_walk_60 rfl ?_
    refine a_gi (pc := 61) dX3_walk_61 fX3_95 rfl ?_
    rw [hA6.1]
    refine a_icmp_geN (pc := 64) 113 dX3_walk_64 (by decide) (by omega) (by omega) (fun c1 => ?_) (fun c1 => ?_)
    · exact out
    · refine a_iload (pc := 67) dX3_walk_67 rfl ?_
      refine a_if_eqB (pc := 69) 113 dX3_walk_69 (by decide) (fun c2 => ?_) (fun c2 => ?_)
      · exact out
      · cases c2
  have wN : ∀ n, goO A st (spB st m) n = none → n ≤ A.length → walkM A st m = none := by
    intro n hn hl
    have := goO_none (A.length - n) n hn
    rw [show n + (A.length - n) = A.length by omega] at this
    rw [walkM, walkO, this]
    rfl
  have wB : ∀ n su w, goO A st (spB st m) n = some (su, w) → n ≤ A.length → w.2.1 2 ≠ 0 → ∀ rp', walkM A st m = some rp' → rp'.1 2 ≠ 0 := by
    intro n su w hn hl hw rp' hrp
    rw [walkM, walkO] at hrp
    match hz : goO A st (spB st m) A.length with
    | none =>
      rw [hz] at hrp
      cases hrp
    | some (su', w') =>
      rw [hz] at hrp
      cases hrp
      have := goO_mono (A.length - n) n su su' w w' hn (by rw [show n + (A.length - n) = A.length by omega]; exact hz)
      intro z
      have z : w'.2.1 2 = 0 := z
      exact hw (by omega)
  have loop : ∀ t i, A.length = i + t → ∀ (g6 : GH) (su : Nat) (w : Ws) (Ed' : Nat), goO A st (spB st m) i = some (su, w) → Fr wkL_67 g g6 → CD 27 g6 w.1 → SeD 34 27 g6 w.1 Ed' → Ed ≤ Ed' → Ed' ≤ Ed + 1 + 11 * i → RpC 67 g6 w.2 → DuC g6 A → su ≤ i → gF g6 26 10 = nI m → gF g6 26 12 = nI su → gF g6 26 13 = bI nb → (nb = true → w.2.1 2 = 0) → AW mX3_walk X Q ad 0 0 (conc (SS (71 + st) 64 67) g6) 58 [some (.ref 26), some (.ref (71 + st)), some (.int (nI m)), some (.ref 21), some (.int (bI nb)), some (.int (bI true)), some (.int (nI i))] [] := by
    intro t
    induction t with
    | zero =>
      intro i hi g6 su w Ed' hgo f6 q6 s6 d1 d2 r6 du6 hsu z10 z12 z13 hnb
      have hA6 := hA.fr f6 (by decide) (by decide) (by decide) (by decide) (by decide)
      refine a_iload (pc := 58) dX3_walk_58 rfl ?_
      refine a_aload_n (pc := 60) dX3_walk_60 rfl ?_
      refine a_gi (pc := 61) dX3_walk_61 fX3_95 rfl ?_
      rw [hA6.1]
      refine a_icmp_geN (pc := 64) 113 dX3_walk_64 (by decide) (by omega) (by omega) (fun c1 => ?_) (fun c1 => ?_)
      · refine a_iload (pc := 113) dX3_walk_113 rfl ?_
        refine ret _ _ 115 _ _ dX3_walk_115 rfl (by first | exact Or.inl rfl | exact Or.inr rfl | exact bI_01 _) ?_
        refine ⟨rfl, f6, ⟨Ed', w.1, d1, by omega, s6⟩, true, rfl, (fun _ => ⟨w.2, ?_, r6, hnb⟩), (fun z => by cases z)⟩
        rw [walkM, walkO, show A.length = i by omega, hgo]
        rfl
      · exact absurd c1 (by omega)
    | succ t ih =>
      intro i hi g6 su w Ed' hgo f6 q6 s6 d1 d2 r6 du6 hsu z10 z12 z13 hnb
      have hA6 := hA.fr f6 (by decide) (by decide) (by decide) (by decide) (by decide)
      have ha : A[i]? = some A[i] := List.getElem?_eq_getElem (by omega)
      generalize A[i] = a at ha
      obtain ⟨oka, e22, -, -⟩ := hA6.2.2 i a ha
      have oka1 := oka.1
      have nN := goO_N i su w hgo
      have hgo1 : goO A st (spB st m) (i + 1) = actO A st (spB st m) i a su w := by
        rw [goO, hgo, Option.bind_some, ha, Option.bind_some]
      refine a_iload (pc := 58) dX3_walk_58 rfl ?_
      refine a_aload_n (pc := 60) dX3_walk_60 rfl ?_
      refine a_gi (pc := 61) dX3_walk_61 fX3_95 rfl ?_
      rw [hA6.1]
      refine a_icmp_geN (pc := 64) 113 dX3_walk_64 (by decide) (by omega) (by omega) (fun c1 => ?_) (fun c1 => ?_)
      · exact absurd c1 (by omega)
      · refine a_iload (pc := 67) dX3_walk_67 rfl ?_
        refine a_if_eqB (pc := 69) 113 dX3_walk_69 (by decide) (fun c2 => ?_) (fun c2 => ?_)
        · cases c2
        · refine a_aload_n (pc := 72) dX3_walk_72 rfl ?_
          refine a_iload (pc := 73) dX3_walk_73 rfl ?_
          refine a_iconst (pc := 75) (nI 1) dX3_walk_75 (by decide) ?_
          refine a_iadd (pc := 76) dX3_walk_76 ?_
          try rw [nI_add]
          refine a_pi (pc := 77) dX3_walk_77 fX3_68 rfl ?_
          refine a_aload_n (pc := 80) dX3_walk_80 rfl ?_
          refine a_gr (pc := 81) dX3_walk_81 fX3_98 rfl ?_
          refine a_iload (pc := 84) dX3_walk_84 rfl ?_
          refine a_ial (pc := 86) _ dX3_walk_86 rfl rfl (by omega) ?_
          rw [show gA (pF g6 26 11 (nI (i + 1))) 22 i = nI a.1 from e22]
          refine a_iconst (pc := 87) (nI 2) dX3_walk_87 (by decide) ?_
          have f7 := f6.sF (a := 26) (by decide) 11 (nI (i + 1))
          have f67 := (Fr.rf [26] g6).sF (a := 26) (by decide) 11 (nI (i + 1))
          have y11 : gF (pF g6 26 11 (nI (i + 1))) 26 11 = nI (i + 1) := by rw [gF_pF, if_pos ⟨rfl, rfl⟩]
          have yk : ∀ j, j ≠ 11 → gF (pF g6 26 11 (nI (i + 1))) 26 j = gF g6 26 j := fun j hj => by rw [gF_pF, if_neg (fun z => hj z.2)]
          by_cases z2 : a.1 = 2
          · have hact : actO A st (spB st m) i a su w = (momO A st (spB st m) (i + 1) (i + 1) (flQ w.1, []) (tk w.2 5)).map (fun w => (i + 1, w)) := by rw [actO, if_pos z2]
            rw [z2]
            refine a_icmp_neN (pc := 88) 98 dX3_walk_88 (by decide) (by omega) (by omega) (fun c3 => ?_) (fun c3 => ?_)
            · exact absurd rfl c3
            · refine a_aload_n (pc := 91) dX3_walk_91 rfl ?_
              refine a_V0i (pc := 92) 2 dX3_walk_92 lcX3_makeSure lX3_101 rfl rfl rfl (fit_of hR (by omega) rfl) (c_makeSure_67 (d0 := d0) A w st m i Ed' (1 + 11 * i) nb hst hm h8 (by omega) (q6.fr f67 (by decide)) (s6.fr f67 (by decide) (by decide)) (by omega) (du6.fr h8 f67 (by decide)) ((yk 10 (by decide)).trans z10) y11 ((yk 13 (by decide)).trans z13) (r6.fr f67 (by decide) (by decide) (by decide)) nN (by omega)) rfl rfl (fun rr S' g8 hS hp => ?_)
              obtain ⟨rfl, f8, k12, k8, q8, s8, b, rfl, hy, hno⟩ := hp
              refine a_goto (pc := 95) 105 dX3_walk_95 (by decide) ?_
              refine a_istore (pc := 105) (ls' := [_, _, _, _, _, _, _]) dX3_walk_105 (Nat.le_of_ble_eq_true rfl) rfl ?_
              refine a_iinc (pc := 107) (ls' := [_, _, _, _, _, _, _]) (nI 1) dX3_walk_107 (by decide) rfl (Nat.le_of_ble_eq_true rfl) rfl ?_
              try rw [nI_add]
              refine a_goto (pc := 110) 58 dX3_walk_110 (by decide) ?_
              have fa8 : Fr wkL_67 g g8 := f7.tr (f8.mono (by decide))
              by_cases hfit : FitQ (flQ w.1, [])
              · obtain ⟨r8, hb8⟩ := hy hfit
                have hgo2 : goO A st (spB st m) (i + 1) = some (i + 1, (flQ w.1, []), momP A (flQ w.1, []) st (spB st m) (i + 1) (i + 1) (tk w.2 5)) := by
                  rw [hgo1, hact, momO_y hfit]
                  rfl
                cases b with
                | true =>
                  refine ih (i + 1) (by omega) g8 (i + 1) _ (Ed' + 1) hgo2 fa8 q8 s8 (by omega) (by omega) r8 ((du6.fr h8 f67 (by decide)).fr h8 f8 (by decide)) (Nat.le_refl _) ((k8 10 (by decide)).trans ((yk 10 (by decide)).trans z10)) k12 ((k8 13 (by decide)).trans ((yk 13 (by decide)).trans z13)) (fun z => ?_)
                  rw [z] at hb8
                  exact of_decide_eq_true (by simpa using hb8.symm)
                | false =>
                  refine stop g8 (i + 1) (Ed' + 1) _ (by omega) fa8 (by omega) (by omega) s8 (Or.inr ?_)
                  cases nb with
                  | false => cases hb8
                  | true =>
                    refine ⟨rfl, wB (i + 1) _ _ hgo2 (by omega) ?_⟩
                    exact of_decide_eq_false (by simpa using hb8.symm)
              · have hb8 := hno hfit
                subst hb8
                refine stop g8 (i + 1) (Ed' + 1) _ (by omega) fa8 (by omega) (by omega) s8 (Or.inl (wN (i + 1) ?_ (by omega)))
                rw [hgo1, hact, momO_n hfit]
                rfl
          · have hact : actO A st (spB st m) i a su w = (entsO A st (spB st m) su (i + 1) (actL st (spB st m) a w.1) w).map (fun w => (su, w)) := by rw [actO, if_neg z2]
            refine a_icmp_neN (pc := 88) 98 dX3_walk_88 (by decide) (by omega) (by omega) (fun c3 => ?_) (fun c3 => ?_)
            · refine a_aload_n (pc := 98) dX3_walk_98 rfl ?_
              refine a_aload_n (pc := 99) dX3_walk_99 rfl ?_
              refine a_iload (pc := 100) dX3_walk_100 rfl ?_
              refine a_V2i (pc := 102) 2 dX3_walk_102 lcX3_change lX3_104 rfl rfl rfl (fit_of hR (by omega) rfl) (c_change_67 (d0 := d0) A a w st m su i Ed' (1 + 11 * i) nb hst hm (hA6.fr f67 (by decide) (by decide) (by decide) (by decide) (by decide)) ha z2 (q6.fr f67 (by decide)) (s6.fr f67 (by decide) (by decide)) (by omega) (du6.fr h8 f67 (by decide)) (by omega) ((yk 10 (by decide)).trans z10) y11 ((yk 12 (by decide)).trans z12) ((yk 13 (by decide)).trans z13) (r6.fr f67 (by decide) (by decide) (by decide)) nN (by omega) hnb) rfl rfl (fun rr S' g8 hS hp => ?_)
              obtain ⟨rfl, f8, b, Ed2, q8', rfl, d3', d4', q8, s8, hy, hno⟩ := hp
              refine a_istore (pc := 105) (ls' := [_, _, _, _, _, _, _]) dX3_walk_105 (Nat.le_of_ble_eq_true rfl) rfl ?_
              refine a_iinc (pc := 107) (ls' := [_, _, _, _, _, _, _]) (nI 1) dX3_walk_107 (by decide) rfl (Nat.le_of_ble_eq_true rfl) rfl ?_
              try rw [nI_add]
              refine a_goto (pc := 110) 58 dX3_walk_110 (by decide) ?_
              have fa8 : Fr wkL_67 g g8 := f7.tr (f8.mono (by decide))
              have k8 : ∀ j, gF g8 26 j = gF (pF g6 26 11 (nI (i + 1))) 26 j := fun j => f8.f (by decide) j
              cases b with
              | true =>
                obtain ⟨w', hw', rfl, r8, hb8⟩ := hy rfl
                have hgo2 : goO A st (spB st m) (i + 1) = some (su, w') := by
                  rw [hgo1, hact, hw']
                  rfl
                exact ih (i + 1) (by omega) g8 su w' Ed2 hgo2 fa8 q8 s8 (by omega) (by omega) r8 ((du6.fr h8 f67 (by decide)).fr h8 f8 (by decide)) (by omega) ((k8 10).trans ((yk 10 (by decide)).trans z10)) ((k8 12).trans ((yk 12 (by decide)).trans z12)) ((k8 13).trans ((yk 13 (by decide)).trans z13)) hb8
              | false =>
                refine stop g8 (i + 1) Ed2 _ (by omega) fa8 (by omega) (by omega) s8 ?_
                rcases hno rfl with hz | ⟨hz1, hz2⟩
                · refine Or.inl (wN (i + 1) ?_ (by omega))
                  rw [hgo1, hact, hz]
                  rfl
                · refine Or.inr ⟨hz1, ?_⟩
                  match hz : entsO A st (spB st m) su (i + 1) (actL st (spB st m) a w.1) w with
                  | none =>
                    intro rp' hrp
                    rw [wN (i + 1) (by rw [hgo1, hact, hz]; rfl) (by omega)] at hrp
                    cases hrp
                  | some w' => exact wB (i + 1) su w' (by rw [hgo1, hact, hz]; rfl) (by omega) (hz2 w' hz)
            · exact absurd c3 (by omega)
  by_cases hfit : FitQ (fmtQ st, [])
  · obtain ⟨r5, hb5⟩ := hy hfit
    have hgo : goO A st (spB st m) 0 = some (0, (fmtQ st, []), momP A (fmtQ st, []) st (spB st m) 0 0 (fun _ => 0, [])) := by
      rw [goO, momO_y hfit]
      rfl
    cases b with
    | true =>
      refine loop A.length 0 (by omega) g5 0 _ (Ed + 1) hgo fa5 q5 s5 (by omega) (by omega) r5 (d4.fr h8 f5 (by decide)) (Nat.le_refl _) ((k5 10).trans p10) ((k5 12).trans p12) ((k5 13).trans p13) (fun z => ?_)
      rw [z] at hb5
      exact of_decide_eq_true (by simpa using hb5.symm)
    | false =>
      refine stop g5 0 (Ed + 1) _ (by omega) fa5 (by omega) (by omega) s5 (Or.inr ?_)
      cases nb with
      | false => cases hb5
      | true =>
        refine ⟨rfl, wB 0 _ _ hgo (by omega) ?_⟩
        exact of_decide_eq_false (by simpa using hb5.symm)
  · have hb5 := hno hfit
    subst hb5
    refine stop g5 0 (Ed + 1) _ (by omega) fa5 (by omega) (by omega) s5 (Or.inl (wN 0 ?_ (by omega)))
    rw [goO, momO_n hfit]
    rfl
set_option maxRecDepth 100000 in
theorem c_keepReport_67 {d0 kd : Nat} {g : GH} : ACv mX3_keepReport d0 (SS kd 64 67) g [.ref 26] (fun S' g' => S' = SS kd 67 64 ∧ g' = g) := by
  refine ACv.of lcX3_keepReport rfl rfl (fun X Q ad hR ret => ?_)
  refine AW_ls (ls' := [_, _]) rfl ?_
  refine a_aload_n (pc := 0) dX3_keepReport_0 rfl ?_
  refine a_gr (pc := 1) dX3_keepReport_1 fX3_57 rfl ?_
  refine a_astore_n (pc := 4) (ls' := [_, _]) dX3_keepReport_4 (Nat.le_of_ble_eq_true rfl) rfl ?_
  refine a_aload_n (pc := 5) dX3_keepReport_5 rfl ?_
  refine a_aload_n (pc := 6) dX3_keepReport_6 rfl ?_
  refine a_gr (pc := 7) dX3_keepReport_7 fX3_61 rfl ?_
  refine a_p26 kd 67 67 (pc := 10) dX3_keepReport_10 fX3_57 (Or.inr (Or.inl rfl)) rfl ?_
  refine a_aload_n (pc := 13) dX3_keepReport_13 rfl ?_
  refine a_aload_n (pc := 14) dX3_keepReport_14 rfl ?_
  refine a_p26 kd 67 64 (pc := 15) dX3_keepReport_15 fX3_61 (Or.inr (Or.inr rfl)) rfl ?_
  refine ret _ _ 18 _ dX3_keepReport_18 rfl ?_
  exact ⟨rfl, rfl⟩
set_option maxHeartbeats 1000000 in
set_option maxRecDepth 100000 in
theorem c_makeSure_64 {d0 : Nat} {g : GH} (A : List Ac) (w : Ws) (st m n Ed c : Nat) (nb : Bool) (hst : st < 3) (hm : m < 16) (h8 : A.length ≤ 8) (hn : n < A.length) (hq : CD 27 g w.1) (hs : SeD 34 27 g w.1 Ed) (hEd : Ed + 20 < 2147483648) (hD : DuC g A) (h10 : gF g 26 10 = nI m) (h11 : gF g 26 11 = nI (n + 1)) (h13 : gF g 26 13 = bI nb) (hr : RpC 64 g w.2) (hN : RpN c w.2) (hc : c ≤ 900) : ACi mX3_makeSure (d0 + 37) (SS (71 + st) 67 64) g [.ref 26] (fun rr S' g' => S' = SS (71 + st) 67 64 ∧ Fr (26 :: chL_64) g g' ∧ gF g' 26 12 = nI (n + 1) ∧ (∀ j, j ≠ 12 → gF g' 26 j = gF g 26 j) ∧ CD 27 g' (flQ w.1, []) ∧ SeD 34 27 g' (flQ w.1, []) (Ed + 1) ∧ ∃ b : Bool, rr = bI b ∧ (FitQ (flQ w.1, []) → RpC 64 g' (momP A (flQ w.1, []) st (spB st m) (n + 1) (n + 1) (tk w.2 5)) ∧ b = (!nb || decide ((momP A (flQ w.1, []) st (spB st m) (n + 1) (n + 1) (tk w.2 5)).1 2 = 0))) ∧ (¬ FitQ (flQ w.1, []) → b = false)) := by
  refine ACz.of lcX3_makeSure rfl rfl (fun X Q ad hR ret => ?_)
  refine AW_ls (ls' := [_]) rfl ?_
  refine a_aload_n (pc := 0) dX3_makeSure_0 rfl ?_
  refine a_gr (pc := 1) dX3_makeSure_1 fX3_12 rfl ?_
  refine a_V0v (pc := 4) 0 dX3_makeSure_4 lcX0_settle lX3_108 rfl rfl rfl (fit_of hR (by omega) rfl) (c_settle_27 (d0 := d0) w.1 hq) rfl rfl (fun S' g1 hS hp => ?_)
  obtain ⟨rfl, q1, -, ed1, f1⟩ := hp
  have ed1 : gF g1 27 12 = nI (Ed + 1) := by rw [ed1, hs.1, nI_add]
  have s1 : SeD 34 27 g1 (flQ w.1, []) (Ed + 1) := hs.next ed1 (f1.a (by decide)) (f1.f (by decide) 13)
  have r1 := hr.fr f1 (by decide) (by decide) (by decide)
  refine a_aload_n (pc := 7) dX3_makeSure_7 rfl ?_
  refine a_aload_n (pc := 8) dX3_makeSure_8 rfl ?_
  refine a_gi (pc := 9) dX3_makeSure_9 fX3_68 rfl ?_
  rw [show gF g1 26 11 = nI (n + 1) from (f1.f (by decide) 11).trans h11]
  refine a_pi (pc := 12) dX3_makeSure_12 fX3_71 rfl ?_
  refine a_aload_n (pc := 15) dX3_makeSure_15 rfl ?_
  refine a_gr (pc := 16) dX3_makeSure_16 fX3_61 rfl ?_
  refine a_gr (pc := 19) dX3_makeSure_19 fX3_111 rfl ?_
  refine a_iconst (pc := 22) (nI 5) dX3_makeSure_22 (by decide) ?_
  refine a_dup2 (pc := 23) dX3_makeSure_23 rfl rfl ?_
  refine a_ial (pc := 24) _ dX3_makeSure_24 rfl rfl (by omega) ?_
  rw [show gA (pF g1 26 12 (nI (n + 1))) 65 5 = nI (w.2.1 5) from r1.1 5 (by decide)]
  refine a_iconst (pc := 25) (nI 1) dX3_makeSure_25 (by decide) ?_
  refine a_iadd (pc := 26) dX3_makeSure_26 ?_
  try rw [nI_add]
  refine a_ast (pc := 27) _ dX3_makeSure_27 rfl rfl (by omega) ?_
  refine a_aload_n (pc := 28) dX3_makeSure_28 rfl ?_
  generalize hg2 : pA (pF g1 26 12 (nI (n + 1))) 65 (upd (gA (pF g1 26 12 (nI (n + 1))) 65) 5 (nI (w.2.1 5 + 1))) = g2
  have f12 : Fr [26, 65] g1 g2 := by
    rw [← hg2]
    exact ((Fr.rf _ g1).sF (by decide) _ _).sA (by decide) _
  have r2 : RpC 64 g2 (tk w.2 5) := by
    rw [← hg2]
    exact RpC.tick (g := pF g1 26 12 (nI (n + 1))) (r1.keep rfl rfl rfl) 5 (by decide)
  have k2 : ∀ j, j ≠ 12 → gF g2 26 j = gF g 26 j := fun j hj => by
    rw [← hg2, gF_pA, gF_pF, if_neg (fun z => hj z.2)]
    exact f1.f (by decide) j
  have k12 : gF g2 26 12 = nI (n + 1) := by
    rw [← hg2, gF_pA, gF_pF, if_pos ⟨rfl, rfl⟩]
  have f2 : Fr (26 :: chL_64) g g2 := (f1.mono (by decide)).tr (f12.mono (by decide))
  have n2 := (hN.tk3 5 (by decide))
  refine a_V0i (pc := 29) 2 dX3_makeSure_29 lcX3_lookAround lX3_91 rfl rfl rfl (fit_of hR (by omega) rfl) (c_look_64 (d0 := d0) A (flQ w.1, []) st m (n + 1) (n + 1) (Ed + 1) nb (tk w.2 5) hst hm (q1.fr f12 (by decide)) (s1.fr f12 (by decide) (by decide)) (by omega) (hD.fr h8 f2 (by decide)) h8 (by omega) (Nat.le_refl _) ((k2 10 (by decide)).trans h10) ((k2 11 (by decide)).trans h11) k12 ((k2 13 (by decide)).trans h13) r2 (n2.b (by omega)) (by have e := tk_0 w.2 5 0 (by decide); have := hN.1; omega)) rfl rfl (fun rr S' g3 hS hp => ?_)
  obtain ⟨rfl, s3, f3, b, rfl, hy, hno⟩ := hp
  refine ret _ _ 32 _ _ dX3_makeSure_32 rfl (by first | exact Or.inl rfl | exact Or.inr rfl | exact bI_01 _) ?_
  exact ⟨rfl, f2.tr (f3.mono (by decide)), (f3.f (by decide) 12).trans k12, fun j hj => (f3.f (by decide) j).trans (k2 j hj), (q1.fr f12 (by decide)).fr f3 (by decide), s3, b, rfl, hy, hno⟩
abbrev wkL_64 : List Nat := [26, 27, 28, 29, 30, 31, 32, 33, 34, 35, 36, 37, 38, 39, 40, 41, 42, 43, 44, 45, 46, 47, 48, 49, 50, 51, 52, 53, 54, 55, 56, 57, 58, 59, 60, 61, 62, 64, 65, 66]
set_option maxHeartbeats 1000000 in
set_option maxRecDepth 100000 in
theorem c_walk_64 {d0 kd : Nat} {g : GH} (A : List Ac) (st m Ed : Nat) (nb : Bool) (q0 : Qd) (hst : st < 3) (hm : m < 16) (hA : CSc g A) (hs : SeD 34 27 g q0 Ed) (hEd : Ed + 200 < 2147483648) : ACi mX3_walk (d0 + 38) (SS kd 67 64) g [.ref 26, .ref (71 + st), .int (nI m), .ref 21, .int (bI nb)] (fun rr S' g' => S' = SS (71 + st) 67 64 ∧ Fr wkL_64 g g' ∧ (∃ (Ed' : Nat) (q' : Qd), Ed ≤ Ed' ∧ Ed' ≤ Ed + 100 ∧ SeD 34 27 g' q' Ed') ∧ ∃ b : Bool, rr = bI b ∧ (b = true → ∃ rp', walkM A st m = some rp' ∧ RpC 64 g' rp' ∧ (nb = true → rp'.1 2 = 0)) ∧ (b = false → walkM A st m = none ∨ (nb = true ∧ ∀ rp', walkM A st m = some rp' → rp'.1 2 ≠ 0))) := by
  have h8 := hA.2.1
  refine ACz.of lcX3_walk rfl rfl (fun X Q ad hR ret => ?_)
  refine AW_ls (ls' := [_, _, _, _, _, _, _]) rfl ?_
  refine a_aload_n (pc := 0) dX3_walk_0 rfl ?_
  refine a_aload_n (pc := 1) dX3_walk_1 rfl ?_
  refine a_p26 (71 + st) 67 64 (pc := 2) dX3_walk_2 fX3_50 (Or.inl rfl) rfl ?_
  refine a_aload_n (pc := 5) dX3_walk_5 rfl ?_
  refine a_iload_n (pc := 6) dX3_walk_6 rfl ?_
  refine a_pi (pc := 7) dX3_walk_7 fX3_64 rfl ?_
  refine a_aload_n (pc := 10) dX3_walk_10 rfl ?_
  refine a_iload (pc := 11) dX3_walk_11 rfl ?_
  refine a_pz (pc := 13) dX3_walk_13 fX3_74 (by first | exact Or.inl rfl | exact Or.inr rfl | exact bI_01 _) rfl ?_
  refine a_aload_n (pc := 16) dX3_walk_16 rfl ?_
  refine a_iconst (pc := 17) (nI 0) dX3_walk_17 (by decide) ?_
  refine a_pi (pc := 18) dX3_walk_18 fX3_68 rfl ?_
  refine a_aload_n (pc := 21) dX3_walk_21 rfl ?_
  refine a_iconst (pc := 22) (nI 0) dX3_walk_22 (by decide) ?_
  refine a_pi (pc := 23) dX3_walk_23 fX3_71 rfl ?_
  refine a_aload_n (pc := 26) dX3_walk_26 rfl ?_
  refine a_gr (pc := 27) dX3_walk_27 fX3_61 rfl ?_
  generalize hg1 : pF (pF (pF (pF g 26 10 (nI m)) 26 13 (bI nb)) 26 11 (nI 0)) 26 12 (nI 0) = g1
  have f1 : Fr [26] g g1 := by
    rw [← hg1]
    exact ((((Fr.rf _ g).sF (by decide) _ _).sF (by decide) _ _).sF (by decide) _ _).sF (by decide) _ _
  have p10 : gF g1 26 10 = nI m := by
    rw [← hg1]
    simp only [gF_pF, gF_pA, gF_pL, gA_pF, gA_pA, gA_pL, gL_pF, gL_pA, gL_pL, reduceIte, Nat.reduceEqDiff, and_false, false_and, and_true, true_and, and_self]
  have p13 : gF g1 26 13 = bI nb := by
    rw [← hg1]
    simp only [gF_pF, gF_pA, gF_pL, gA_pF, gA_pA, gA_pL, gL_pF, gL_pA, gL_pL, reduceIte, Nat.reduceEqDiff, and_false, false_and, and_true, true_and, and_self]
  have p11 : gF g1 26 11 = nI 0 := by
    rw [← hg1]
    simp only [gF_pF, gF_pA, gF_pL, gA_pF, gA_pA, gA_pL, gL_pF, gL_pA, gL_pL, reduceIte, Nat.reduceEqDiff, and_false, false_and, and_true, true_and, and_self]
  have p12 : gF g1 26 12 = nI 0 := by
    rw [← hg1]
    simp only [gF_pF, gF_pA, gF_pL, gA_pF, gA_pA, gA_pL, gL_pF, gL_pA, gL_pL, reduceIte, Nat.reduceEqDiff, and_false, false_and, and_true, true_and, and_self]
  refine a_V0v (pc := 30) 5 dX3_walk_30 lcX6_begin lX3_78 rfl rfl rfl (fit_of hR (by omega) rfl) (c_rbegin_64 (d0 := d0)) rfl rfl (fun S' g2 hS hp => ?_)
  obtain ⟨rfl, r2, f2⟩ := hp
  have fa2 : Fr wkL_64 g g2 := (f1.mono (by decide)).tr (f2.mono (by decide))
  refine a_aload_n (pc := 33) dX3_walk_33 rfl ?_
  refine a_aload_n (pc := 34) dX3_walk_34 rfl ?_
  refine a_gr (pc := 35) dX3_walk_35 fX3_37 rfl ?_
  refine a_V1v (pc := 38) 6 dX3_walk_38 lcX7_foresee lX3_81 rfl rfl rfl (fit_of hR (by omega) rfl) (c_foresee (d0 := d0) A (hA.fr fa2 (by decide) (by decide) (by decide) (by decide) (by decide))) rfl rfl (fun S' g3 hS hp => ?_)
  obtain ⟨rfl, d3, f3⟩ := hp
  have fa3 : Fr wkL_64 g g3 := fa2.tr (f3.mono (by decide))
  refine a_aload_n (pc := 41) dX3_walk_41 rfl ?_
  refine a_gr (pc := 42) dX3_walk_42 fX3_12 rfl ?_
  refine a_aload_n (pc := 45) dX3_walk_45 rfl ?_
  refine a_V1v (pc := 46) 0 dX3_walk_46 lcX0_format lX3_87 rfl rfl rfl (fit_of hR (by omega) rfl) (c_dformat_27 (d0 := d0) st hst) rfl rfl (fun S' g4 hS hp => ?_)
  obtain ⟨rfl, q4, -, ed4, f4⟩ := hp
  have f24 : Fr [26, 27, 28, 29, 30, 31, 32, 33, 52, 53, 54, 55, 56, 57, 58, 59, 60, 64, 65] g g4 := (((f1.mono (by decide)).tr (f2.mono (by decide))).tr (f3.mono (by decide))).tr (f4.mono (by decide))
  have fa4 : Fr wkL_64 g g4 := fa3.tr (f4.mono (by decide))
  have e3 : gF g3 27 12 = nI Ed := (f3.f (by decide) 12).trans ((f2.f (by decide) 12).trans ((f1.f (by decide) 12).trans hs.1))
  have s4 : SeD 34 27 g4 (fmtQ st, []) (Ed + 1) := hs.next (by rw [ed4, e3, nI_add]) (f24.a (by decide)) (f24.f (by decide) 13)
  have k4 : ∀ j, gF g4 26 j = gF g1 26 j := fun j => (f4.f (by decide) j).trans ((f3.f (by decide) j).trans (f2.f (by decide) j))
  have r4 : RpC 64 g4 (fun _ => 0, []) := (r2.fr f3 (by decide) (by decide) (by decide)).fr f4 (by decide) (by decide) (by decide)
  have d4 : DuC g4 A := d3.fr h8 f4 (by decide)
  refine a_aload_n (pc := 49) dX3_walk_49 rfl ?_
  refine a_V0i (pc := 50) 2 dX3_walk_50 lcX3_lookAround lX3_91 rfl rfl rfl (fit_of hR (by omega) rfl) (c_look_64 (d0 := d0) A (fmtQ st, []) st m 0 0 (Ed + 1) nb (fun _ => 0, []) hst hm q4 s4 (by omega) d4 h8 (Nat.zero_le _) (Nat.le_refl _) ((k4 10).trans p10) ((k4 11).trans p11) ((k4 12).trans p12) ((k4 13).trans p13) r4 ⟨by decide, by decide, by decide, by decide, by decide, by decide, by decide⟩ (by decide)) rfl rfl (fun rr S' g5 hS hp => ?_)
  obtain ⟨rfl, s5, f5, b, rfl, hy, hno⟩ := hp
  have fa5 : Fr wkL_64 g g5 := fa4.tr (f5.mono (by decide))
  have q5 : CD 27 g5 (fmtQ st, []) := q4.fr f5 (by decide)
  have k5 : ∀ j, gF g5 26 j = gF g1 26 j := fun j => (f5.f (by decide) j).trans (k4 j)
  refine a_istore (pc := 53) (ls' := [_, _, _, _, _, _, _]) dX3_walk_53 (Nat.le_of_ble_eq_true rfl) rfl ?_
  refine a_iconst (pc := 55) (nI 0) dX3_walk_55 (by decide) ?_
  refine a_istore (pc := 56) (ls' := [_, _, _, _, _, _, _]) dX3_walk_56 (Nat.le_of_ble_eq_true rfl) rfl ?_
  have stop : ∀ (g6 : GH) (j Ed' : Nat) (q' : Qd), j ≤ A.length → Fr wkL_64 g g6 → Ed ≤ Ed' → Ed' ≤ Ed + 100 → SeD 34 27 g6 q' Ed' → (walkM A st m = none ∨ (nb = true ∧ ∀ rp', walkM A st m = some rp' → rp'.1 2 ≠ 0)) → AW mX3_walk X Q ad 0 0 (conc (SS (71 + st) 67 64) g6) 58 [some (.ref 26), some (.ref (71 + st)), some (.int (nI m)), some (.ref 21), some (.int (bI nb)), some (.int (bI false)), some (.int (nI j))] [] := by
    intro g6 j Ed' q' hj f6 d1 d2 s6 hres
    have hA6 := hA.fr f6 (by decide) (by decide) (by decide) (by decide) (by decide)
    have out : AW mX3_walk X Q ad 0 0 (conc (SS (71 + st) 67 64) g6) 113 [some (.ref 26), some (.ref (71 + st)), some (.int (nI m)), some (.ref 21), some (.int (bI nb)), some (.int (bI false)), some (.int (nI j))] [] := by
      refine a_iload (pc := 113) dX3_walk_113 rfl ?_
      refine ret _ _ 115 _ _ dX3_walk_115 rfl (by first | exact Or.inl rfl | exact Or.inr rfl | exact bI_01 _) ?_
      exact ⟨rfl, f6, ⟨Ed', q', d1, d2, s6⟩, false, rfl, (fun z => by cases z), fun _ => hres⟩
    refine a_iload (pc := 58) dX3_walk_58 rfl ?_
    refine a_aload_n (pc := 60) dX3_walk_60 rfl ?_
    refine a_gi (pc := 61) dX3_walk_61 fX3_95 rfl ?_
    rw [hA6.1]
    refine a_icmp_geN (pc := 64) 113 dX3_walk_64 (by decide) (by omega) (by omega) (fun c1 => ?_) (fun c1 => ?_)
    · exact out
    · refine a_iload (pc := 67) dX3_walk_67 rfl ?_
      refine a_if_eqB (pc := 69) 113 dX3_walk_69 (by decide) (fun c2 => ?_) (fun c2 => ?_)
      · exact out
      · cases c2
  have wN : ∀ n, goO A st (spB st m) n = none → n ≤ A.length → walkM A st m = none := by
    intro n hn hl
    have := goO_none (A.length - n) n hn
    rw [show n + (A.length - n) = A.length by omega] at this
    rw [walkM, walkO, this]
    rfl
  have wB : ∀ n su w, goO A st (spB st m) n = some (su, w) → n ≤ A.length → w.2.1 2 ≠ 0 → ∀ rp', walkM A st m = some rp' → rp'.1 2 ≠ 0 := by
    intro n su w hn hl hw rp' hrp
    rw [walkM, walkO] at hrp
    match hz : goO A st (spB st m) A.length with
    | none =>
      rw [hz] at hrp
      cases hrp
    | some (su', w') =>
      rw [hz] at hrp
      cases hrp
      have := goO_mono (A.length - n) n su su' w w' hn (by rw [show n + (A.length - n) = A.length by omega]; exact hz)
      intro z
      have z : w'.2.1 2 = 0 := z
      exact hw (by omega)
  have loop : ∀ t i, A.length = i + t → ∀ (g6 : GH) (su : Nat) (w : Ws) (Ed' : Nat), goO A st (spB st m) i = some (su, w) → Fr wkL_64 g g6 → CD 27 g6 w.1 → SeD 34 27 g6 w.1 Ed' → Ed ≤ Ed' → Ed' ≤ Ed + 1 + 11 * i → RpC 64 g6 w.2 → DuC g6 A → su ≤ i → gF g6 26 10 = nI m → gF g6 26 12 = nI su → gF g6 26 13 = bI nb → (nb = true → w.2.1 2 = 0) → AW mX3_walk X Q ad 0 0 (conc (SS (71 + st) 67 64) g6) 58 [some (.ref 26), some (.ref (71 + st)), some (.int (nI m)), some (.ref 21), some (.int (bI nb)), some (.int (bI true)), some (.int (nI i))] [] := by
    intro t
    induction t with
    | zero =>
      intro i hi g6 su w Ed' hgo f6 q6 s6 d1 d2 r6 du6 hsu z10 z12 z13 hnb
      have hA6 := hA.fr f6 (by decide) (by decide) (by decide) (by decide) (by decide)
      refine a_iload (pc := 58) dX3_walk_58 rfl ?_
      refine a_aload_n (pc := 60) dX3_walk_60 rfl ?_
      refine a_gi (pc := 61) dX3_walk_61 fX3_95 rfl ?_
      rw [hA6.1]
      refine a_icmp_geN (pc := 64) 113 dX3_walk_64 (by decide) (by omega) (by omega) (fun c1 => ?_) (fun c1 => ?_)
      · refine a_iload (pc := 113) dX3_walk_113 rfl ?_
        refine ret _ _ 115 _ _ dX3_walk_115 rfl (by first | exact Or.inl rfl | exact Or.inr rfl | exact bI_01 _) ?_
        refine ⟨rfl, f6, ⟨Ed', w.1, d1, by omega, s6⟩, true, rfl, (fun _ => ⟨w.2, ?_, r6, hnb⟩), (fun z => by cases z)⟩
        rw [walkM, walkO, show A.length = i by omega, hgo]
        rfl
      · exact absurd c1 (by omega)
    | succ t ih =>
      intro i hi g6 su w Ed' hgo f6 q6 s6 d1 d2 r6 du6 hsu z10 z12 z13 hnb
      have hA6 := hA.fr f6 (by decide) (by decide) (by decide) (by decide) (by decide)
      have ha : A[i]? = some A[i] := List.getElem?_eq_getElem (by omega)
      generalize A[i] = a at ha
      obtain ⟨oka, e22, -, -⟩ := hA6.2.2 i a ha
      have oka1 := oka.1
      have nN := goO_N i su w hgo
      have hgo1 : goO A st (spB st m) (i + 1) = actO A st (spB st m) i a su w := by
        rw [goO, hgo, Option.bind_some, ha, Option.bind_some]
      refine a_iload (pc := 58) dX3_walk_58 rfl ?_
      refine a_aload_n (pc := 60) dX3_walk_60 rfl ?_
      refine a_gi (pc := 61) dX3_walk_61 fX3_95 rfl ?_
      rw [hA6.1]
      refine a_icmp_geN (pc := 64) 113 dX3_walk_64 (by decide) (by omega) (by omega) (fun c1 => ?_) (fun c1 => ?_)
      · exact absurd c1 (by omega)
      · refine a_iload (pc := 67) dX3_walk_67 rfl ?_
        refine a_if_eqB (pc := 69) 113 dX3_walk_69 (by decide) (fun c2 => ?_) (fun c2 => ?_)
        · cases c2
        · refine a_aload_n (pc := 72) dX3_walk_72 rfl ?_
          refine a_iload (pc := 73) dX3_walk_73 rfl ?_
          refine a_iconst (pc := 75) (nI 1) dX3_walk_75 (by decide) ?_
          refine a_iadd (pc := 76) dX3_walk_76 ?_
          try rw [nI_add]
          refine a_pi (pc := 77) dX3_walk_77 fX3_68 rfl ?_
          refine a_aload_n (pc := 80) dX3_walk_80 rfl ?_
          refine a_gr (pc := 81) dX3_walk_81 fX3_98 rfl ?_
          refine a_iload (pc := 84) dX3_walk_84 rfl ?_
          refine a_ial (pc := 86) _ dX3_walk_86 rfl rfl (by omega) ?_
          rw [show gA (pF g6 26 11 (nI (i + 1))) 22 i = nI a.1 from e22]
          refine a_iconst (pc := 87) (nI 2) dX3_walk_87 (by decide) ?_
          have f7 := f6.sF (a := 26) (by decide) 11 (nI (i + 1))
          have f67 := (Fr.rf [26] g6).sF (a := 26) (by decide) 11 (nI (i + 1))
          have y11 : gF (pF g6 26 11 (nI (i + 1))) 26 11 = nI (i + 1) := by rw [gF_pF, if_pos ⟨rfl, rfl⟩]
          have yk : ∀ j, j ≠ 11 → gF (pF g6 26 11 (nI (i + 1))) 26 j = gF g6 26 j := fun j hj => by rw [gF_pF, if_neg (fun z => hj z.2)]
          by_cases z2 : a.1 = 2
          · have hact : actO A st (spB st m) i a su w = (momO A st (spB st m) (i + 1) (i + 1) (flQ w.1, []) (tk w.2 5)).map (fun w => (i + 1, w)) := by rw [actO, if_pos z2]
            rw [z2]
            refine a_icmp_neN (pc := 88) 98 dX3_walk_88 (by decide) (by omega) (by omega) (fun c3 => ?_) (fun c3 => ?_)
            · exact absurd rfl c3
            · refine a_aload_n (pc := 91) dX3_walk_91 rfl ?_
              refine a_V0i (pc := 92) 2 dX3_walk_92 lcX3_makeSure lX3_101 rfl rfl rfl (fit_of hR (by omega) rfl) (c_makeSure_64 (d0 := d0) A w st m i Ed' (1 + 11 * i) nb hst hm h8 (by omega) (q6.fr f67 (by decide)) (s6.fr f67 (by decide) (by decide)) (by omega) (du6.fr h8 f67 (by decide)) ((yk 10 (by decide)).trans z10) y11 ((yk 13 (by decide)).trans z13) (r6.fr f67 (by decide) (by decide) (by decide)) nN (by omega)) rfl rfl (fun rr S' g8 hS hp => ?_)
              obtain ⟨rfl, f8, k12, k8, q8, s8, b, rfl, hy, hno⟩ := hp
              refine a_goto (pc := 95) 105 dX3_walk_95 (by decide) ?_
              refine a_istore (pc := 105) (ls' := [_, _, _, _, _, _, _]) dX3_walk_105 (Nat.le_of_ble_eq_true rfl) rfl ?_
              refine a_iinc (pc := 107) (ls' := [_, _, _, _, _, _, _]) (nI 1) dX3_walk_107 (by decide) rfl (Nat.le_of_ble_eq_true rfl) rfl ?_
              try rw [nI_add]
              refine a_goto (pc := 110) 58 dX3_walk_110 (by decide) ?_
              have fa8 : Fr wkL_64 g g8 := f7.tr (f8.mono (by decide))
              by_cases hfit : FitQ (flQ w.1, [])
              · obtain ⟨r8, hb8⟩ := hy hfit
                have hgo2 : goO A st (spB st m) (i + 1) = some (i + 1, (flQ w.1, []), momP A (flQ w.1, []) st (spB st m) (i + 1) (i + 1) (tk w.2 5)) := by
                  rw [hgo1, hact, momO_y hfit]
                  rfl
                cases b with
                | true =>
                  refine ih (i + 1) (by omega) g8 (i + 1) _ (Ed' + 1) hgo2 fa8 q8 s8 (by omega) (by omega) r8 ((du6.fr h8 f67 (by decide)).fr h8 f8 (by decide)) (Nat.le_refl _) ((k8 10 (by decide)).trans ((yk 10 (by decide)).trans z10)) k12 ((k8 13 (by decide)).trans ((yk 13 (by decide)).trans z13)) (fun z => ?_)
                  rw [z] at hb8
                  exact of_decide_eq_true (by simpa using hb8.symm)
                | false =>
                  refine stop g8 (i + 1) (Ed' + 1) _ (by omega) fa8 (by omega) (by omega) s8 (Or.inr ?_)
                  cases nb with
                  | false => cases hb8
                  | true =>
                    refine ⟨rfl, wB (i + 1) _ _ hgo2 (by omega) ?_⟩
                    exact of_decide_eq_false (by simpa using hb8.symm)
              · have hb8 := hno hfit
                subst hb8
                refine stop g8 (i + 1) (Ed' + 1) _ (by omega) fa8 (by omega) (by omega) s8 (Or.inl (wN (i + 1) ?_ (by omega)))
                rw [hgo1, hact, momO_n hfit]
                rfl
          · have hact : actO A st (spB st m) i a su w = (entsO A st (spB st m) su (i + 1) (actL st (spB st m) a w.1) w).map (fun w => (su, w)) := by rw [actO, if_neg z2]
            refine a_icmp_neN (pc := 88) 98 dX3_walk_88 (by decide) (by omega) (by omega) (fun c3 => ?_) (fun c3 => ?_)
            · refine a_aload_n (pc := 98) dX3_walk_98 rfl ?_
              refine a_aload_n (pc := 99) dX3_walk_99 rfl ?_
              refine a_iload (pc := 100) dX3_walk_100 rfl ?_
              refine a_V2i (pc := 102) 2 dX3_walk_102 lcX3_change lX3_104 rfl rfl rfl (fit_of hR (by omega) rfl) (c_change_64 (d0 := d0) A a w st m su i Ed' (1 + 11 * i) nb hst hm (hA6.fr f67 (by decide) (by decide) (by decide) (by decide) (by decide)) ha z2 (q6.fr f67 (by decide)) (s6.fr f67 (by decide) (by decide)) (by omega) (du6.fr h8 f67 (by decide)) (by omega) ((yk 10 (by decide)).trans z10) y11 ((yk 12 (by decide)).trans z12) ((yk 13 (by decide)).trans z13) (r6.fr f67 (by decide) (by decide) (by decide)) nN (by omega) hnb) rfl rfl (fun rr S' g8 hS hp => ?_)
              obtain ⟨rfl, f8, b, Ed2, q8', rfl, d3', d4', q8, s8, hy, hno⟩ := hp
              refine a_istore (pc := 105) (ls' := [_, _, _, _, _, _, _]) dX3_walk_105 (Nat.le_of_ble_eq_true rfl) rfl ?_
              refine a_iinc (pc := 107) (ls' := [_, _, _, _, _, _, _]) (nI 1) dX3_walk_107 (by decide) rfl (Nat.le_of_ble_eq_true rfl) rfl ?_
              try rw [nI_add]
              refine a_goto (pc := 110) 58 dX3_walk_110 (by decide) ?_
              have fa8 : Fr wkL_64 g g8 := f7.tr (f8.mono (by decide))
              have k8 : ∀ j, gF g8 26 j = gF (pF g6 26 11 (nI (i + 1))) 26 j := fun j => f8.f (by decide) j
              cases b with
              | true =>
                obtain ⟨w', hw', rfl, r8, hb8⟩ := hy rfl
                have hgo2 : goO A st (spB st m) (i + 1) = some (su, w') := by
                  rw [hgo1, hact, hw']
                  rfl
                exact ih (i + 1) (by omega) g8 su w' Ed2 hgo2 fa8 q8 s8 (by omega) (by omega) r8 ((du6.fr h8 f67 (by decide)).fr h8 f8 (by decide)) (by omega) ((k8 10).trans ((yk 10 (by decide)).trans z10)) ((k8 12).trans ((yk 12 (by decide)).trans z12)) ((k8 13).trans ((yk 13 (by decide)).trans z13)) hb8
              | false =>
                refine stop g8 (i + 1) Ed2 _ (by omega) fa8 (by omega) (by omega) s8 ?_
                rcases hno rfl with hz | ⟨hz1, hz2⟩
                · refine Or.inl (wN (i + 1) ?_ (by omega))
                  rw [hgo1, hact, hz]
                  rfl
                · refine Or.inr ⟨hz1, ?_⟩
                  match hz : entsO A st (spB st m) su (i + 1) (actL st (spB st m) a w.1) w with
                  | none =>
                    intro rp' hrp
                    rw [wN (i + 1) (by rw [hgo1, hact, hz]; rfl) (by omega)] at hrp
                    cases hrp
                  | some w' => exact wB (i + 1) su w' (by rw [hgo1, hact, hz]; rfl) (by omega) (hz2 w' hz)
            · exact absurd c3 (by omega)
  by_cases hfit : FitQ (fmtQ st, [])
  · obtain ⟨r5, hb5⟩ := hy hfit
    have hgo : goO A st (spB st m) 0 = some (0, (fmtQ st, []), momP A (fmtQ st, []) st (spB st m) 0 0 (fun _ => 0, [])) := by
      rw [goO, momO_y hfit]
      rfl
    cases b with
    | true =>
      refine loop A.length 0 (by omega) g5 0 _ (Ed + 1) hgo fa5 q5 s5 (by omega) (by omega) r5 (d4.fr h8 f5 (by decide)) (Nat.le_refl _) ((k5 10).trans p10) ((k5 12).trans p12) ((k5 13).trans p13) (fun z => ?_)
      rw [z] at hb5
      exact of_decide_eq_true (by simpa using hb5.symm)
    | false =>
      refine stop g5 0 (Ed + 1) _ (by omega) fa5 (by omega) (by omega) s5 (Or.inr ?_)
      cases nb with
      | false => cases hb5
      | true =>
        refine ⟨rfl, wB 0 _ _ hgo (by omega) ?_⟩
        exact of_decide_eq_false (by simpa using hb5.symm)
  · have hb5 := hno hfit
    subst hb5
    refine stop g5 0 (Ed + 1) _ (by omega) fa5 (by omega) (by omega) s5 (Or.inl (wN 0 ?_ (by omega)))
    rw [goO, momO_n hfit]
    rfl
set_option maxRecDepth 100000 in
theorem c_keepReport_64 {d0 kd : Nat} {g : GH} : ACv mX3_keepReport d0 (SS kd 67 64) g [.ref 26] (fun S' g' => S' = SS kd 64 67 ∧ g' = g) := by
  refine ACv.of lcX3_keepReport rfl rfl (fun X Q ad hR ret => ?_)
  refine AW_ls (ls' := [_, _]) rfl ?_
  refine a_aload_n (pc := 0) dX3_keepReport_0 rfl ?_
  refine a_gr (pc := 1) dX3_keepReport_1 fX3_57 rfl ?_
  refine a_astore_n (pc := 4) (ls' := [_, _]) dX3_keepReport_4 (Nat.le_of_ble_eq_true rfl) rfl ?_
  refine a_aload_n (pc := 5) dX3_keepReport_5 rfl ?_
  refine a_aload_n (pc := 6) dX3_keepReport_6 rfl ?_
  refine a_gr (pc := 7) dX3_keepReport_7 fX3_61 rfl ?_
  refine a_p26 kd 64 64 (pc := 10) dX3_keepReport_10 fX3_57 (Or.inr (Or.inl rfl)) rfl ?_
  refine a_aload_n (pc := 13) dX3_keepReport_13 rfl ?_
  refine a_aload_n (pc := 14) dX3_keepReport_14 rfl ?_
  refine a_p26 kd 64 67 (pc := 15) dX3_keepReport_15 fX3_61 (Or.inr (Or.inr rfl)) rfl ?_
  refine ret _ _ 18 _ dX3_keepReport_18 rfl ?_
  exact ⟨rfl, rfl⟩
