/-! a moment of the class -/
abbrev lkL_67 : List Nat := [34, 35, 36, 37, 38, 39, 40, 41, 42, 47, 48, 49, 50, 61, 62, 67, 68, 69]
set_option maxHeartbeats 1000000 in
set_option maxRecDepth 100000 in
theorem c_look_67 {d0 : Nat} {g : GH} (A : List Ac) (q : Qd) (st m su be Ed : Nat) (nb : Bool) (rp : Rp) (hst : st < 3) (hm : m < 16) (hq : CD 27 g q) (hs : SeD 34 27 g q Ed) (hEd : Ed < 2147483648) (hD : DuC g A) (h8 : A.length ≤ 8) (hbe : be ≤ A.length) (hsu : su ≤ be) (h10 : gF g 26 10 = nI m) (h11 : gF g 26 11 = nI be) (h12 : gF g 26 12 = nI su) (h13 : gF g 26 13 = bI nb) (hr : RpC 67 g rp) (hb : RpB rp) (h0 : rp.1 0 < 1000) : ACi mX3_lookAround (d0 + 36) (SS (71 + st) 64 67) g [.ref 26] (fun rr S' g' => S' = SS (71 + st) 64 67 ∧ SeD 34 27 g' q Ed ∧ Fr lkL_67 g g' ∧ ∃ b : Bool, rr = bI b ∧ (FitQ q → RpC 67 g' (momP A q st (spB st m) su be rp) ∧ b = (!nb || decide ((momP A q st (spB st m) su be rp).1 2 = 0))) ∧ (¬ FitQ q → b = false)) := by
  obtain ⟨b0, b1, b2, b6, -⟩ := id hb
  refine ACz.of lcX3_lookAround rfl rfl (fun X Q ad hR ret => ?_)
  refine AW_ls (ls' := [_, _, _]) rfl ?_
  refine a_aload_n (pc := 0) dX3_lookAround_0 rfl ?_
  refine a_gr (pc := 1) dX3_lookAround_1 fX3_21 rfl ?_
  refine a_aload_n (pc := 4) dX3_lookAround_4 rfl ?_
  refine a_gr (pc := 5) dX3_lookAround_5 fX3_12 rfl ?_
  refine a_V1v (pc := 8) 8 dX3_lookAround_8 lcX9_refresh lX3_154 rfl rfl rfl (fit_of hR (by omega) rfl) (c_refresh_34 (d0 := d0) q Ed hEd hq hs) rfl rfl (fun S' g' hS hp => ?_)
  obtain ⟨rfl, ok, e13, e37, fr0⟩ := hp
  obtain ⟨cy, cn⟩ := ok.cnt
  have seO : ∀ g1 : GH, Fr lkL_67 g g1 → StOk 34 g1 q → gF g1 34 13 = nI Ed → gA g1 37 0 = nI 0 → SeD 34 27 g1 q Ed := fun g1 f o e e' => ⟨(f.f (by decide) 12).trans hs.1, e', Or.inr ⟨Ed, e, Nat.le_refl _, fun _ => o⟩⟩
  refine a_aload_n (pc := 11) dX3_lookAround_11 rfl ?_
  refine a_gr (pc := 12) dX3_lookAround_12 fX3_21 rfl ?_
  refine a_gi (pc := 15) dX3_lookAround_15 fX3_158 rfl ?_
  by_cases hf : FitQ q
  · obtain ⟨cy1, cy2⟩ := cy hf
    rw [cy1]
    refine a_istore_n (pc := 18) (ls' := [_, _, _]) dX3_lookAround_18 (Nat.le_of_ble_eq_true rfl) rfl ?_
    refine a_iload_n (pc := 19) dX3_lookAround_19 rfl ?_
    refine a_sipush (pc := 20) (nI 4096) dX3_lookAround_20 (by decide) ?_
    refine a_icmp_leN (pc := 23) 28 dX3_lookAround_23 (by decide) (by omega) (by omega) (fun c1 => ?_) (fun c1 => ?_)
    · refine a_iconst (pc := 28) (nI 0) dX3_lookAround_28 (by decide) ?_
      refine a_istore_n (pc := 29) (ls' := [_, _, _]) dX3_lookAround_29 (Nat.le_of_ble_eq_true rfl) rfl ?_
      have fin : ∀ g1 : GH, Fr lkL_67 g g1 → StOk 34 g1 q → gF g1 34 13 = nI Ed → gA g1 37 0 = nI 0 → RpC 67 g1 (momF A (fSt q) st (spB st m) su be rp (nSt q)) → AW mX3_lookAround X Q ad 0 0 (conc (SS (71 + st) 64 67) g1) 72 [some (.ref 26), some (.int (nI (nSt q))), some (.int (nI (nSt q)))] [] := by
        intro g1 f1 ok1 e131 e371 r1
        obtain ⟨t1, t2, t3⟩ := momF_t A (fSt q) st (spB st m) su be rp (nSt q)
        have t0 := t1 0 (by decide)
        have t11 := t1 1 (by decide)
        have t6 := t1 6 (by decide)
        generalize hM : momF A (fSt q) st (spB st m) su be rp (nSt q) = M1 at *
        refine a_aload_n (pc := 72) dX3_lookAround_72 rfl ?_
        refine a_gr (pc := 73) dX3_lookAround_73 fX3_61 rfl ?_
        refine a_gr (pc := 76) dX3_lookAround_76 fX3_111 rfl ?_
        refine a_astore_n (pc := 79) (ls' := [_, _, _]) dX3_lookAround_79 (Nat.le_of_ble_eq_true rfl) rfl ?_
        refine a_aload_n (pc := 80) dX3_lookAround_80 rfl ?_
        refine a_iconst (pc := 81) (nI 0) dX3_lookAround_81 (by decide) ?_
        refine a_dup2 (pc := 82) dX3_lookAround_82 rfl rfl ?_
        refine a_ial (pc := 83) _ dX3_lookAround_83 rfl rfl (by omega) ?_
        rw [r1.1 0 (by decide)]
        refine a_iconst (pc := 84) (nI 1) dX3_lookAround_84 (by decide) ?_
        refine a_iadd (pc := 85) dX3_lookAround_85 ?_
        try rw [nI_add]
        refine a_ast (pc := 86) _ dX3_lookAround_86 rfl rfl (by omega) ?_
        refine a_aload_n (pc := 87) dX3_lookAround_87 rfl ?_
        refine a_iconst (pc := 88) (nI 1) dX3_lookAround_88 (by decide) ?_
        refine a_dup2 (pc := 89) dX3_lookAround_89 rfl rfl ?_
        refine a_ial (pc := 90) _ dX3_lookAround_90 rfl rfl (by omega) ?_
        rw [show gA (pA g1 68 (upd (gA g1 68) 0 (nI (M1.1 0 + 1)))) 68 1 = nI (M1.1 1) by rw [gA_pA, if_pos rfl, upd, if_neg (by decide)]; exact r1.1 1 (by decide)]
        refine a_iload_n (pc := 91) dX3_lookAround_91 rfl ?_
        refine a_iadd (pc := 92) dX3_lookAround_92 ?_
        try rw [nI_add]
        refine a_ast (pc := 93) _ dX3_lookAround_93 rfl rfl (by omega) ?_
        refine a_aload_n (pc := 94) dX3_lookAround_94 rfl ?_
        refine a_bipush (pc := 95) (nI 6) dX3_lookAround_95 (by decide) ?_
        refine a_aload_n (pc := 97) dX3_lookAround_97 rfl ?_
        refine a_bipush (pc := 98) (nI 6) dX3_lookAround_98 (by decide) ?_
        refine a_ial (pc := 100) _ dX3_lookAround_100 rfl rfl (by omega) ?_
        simp only [gF_pF, gF_pA, gF_pL, gA_pF, gA_pA, gA_pL, gL_pF, gL_pA, gL_pL, reduceIte, Nat.reduceEqDiff, and_false, false_and, and_true, true_and, and_self]
        rw [show upd (upd (gA g1 68) 0 (nI (M1.1 0 + 1))) 1 (nI (M1.1 1 + nSt q)) 6 = nI (M1.1 6) by rw [upd, if_neg (by decide), upd, if_neg (by decide)]; exact r1.1 6 (by decide)]
        refine a_iload_n (pc := 101) dX3_lookAround_101 rfl ?_
        refine a_mmaxN (pc := 102) dX3_lookAround_102 lX3_177 hR (by omega) rfl (by omega) (by omega) ?_
        refine a_ast (pc := 105) _ dX3_lookAround_105 rfl rfl (by omega) ?_
        refine a_aload_n (pc := 106) dX3_lookAround_106 rfl ?_
        refine a_gi (pc := 107) dX3_lookAround_107 fX3_74 rfl ?_
        have g1313 : gF g1 26 13 = bI nb := (f1.f (by decide) 13).trans h13
        simp only [gF_pF, gF_pA, gF_pL, gA_pF, gA_pA, gA_pL, gL_pF, gL_pA, gL_pL, reduceIte, Nat.reduceEqDiff, and_false, false_and, and_true, true_and, and_self, g1313]
        have rF : ∀ g2 : GH, gF g2 67 2 = gF g1 67 2 → gA g2 69 = gA g1 69 → gA g2 68 = upd (upd (upd (gA g1 68) 0 (nI (M1.1 0 + 1))) 1 (nI (M1.1 1 + nSt q))) 6 (nI (max (M1.1 6) (nSt q))) → RpC 67 g2 (momP A q st (spB st m) su be rp) := by
          intro g2 ea eb ec
          have em : momP A q st (spB st m) su be rp = momE (nSt q) M1 := by rw [momP, hM]
          rw [em]
          refine ⟨fun j hj => ?_, ea.trans r1.2.1, r1.2.2.1, fun i row h w hw => by rw [eb]; exact r1.2.2.2 i row h w hw⟩
          show gA g2 68 j = nI (tu (tu (tu M1.1 0 (M1.1 0 + 1)) 1 (M1.1 1 + nSt q)) 6 (max (M1.1 6) (nSt q)) j)
          rw [ec]
          simp only [upd, tu]
          by_cases z6 : j = 6
          · rw [if_pos z6, if_pos z6]
          · rw [if_neg z6, if_neg z6]
            by_cases z1 : j = 1
            · rw [if_pos z1, if_pos z1]
            · rw [if_neg z1, if_neg z1]
              by_cases z0 : j = 0
              · rw [if_pos z0, if_pos z0]
              · rw [if_neg z0, if_neg z0]
                exact r1.1 j hj
        have e2 : (momP A q st (spB st m) su be rp).1 2 = M1.1 2 := by rw [momP, hM]; rfl
        have f2 := ((f1.sA (a := 68) (by decide) (upd (gA g1 68) 0 (nI (M1.1 0 + 1)))).sA (a := 68) (by decide) (upd (upd (gA g1 68) 0 (nI (M1.1 0 + 1))) 1 (nI (M1.1 1 + nSt q)))).sA (a := 68) (by decide) (upd (upd (upd (gA g1 68) 0 (nI (M1.1 0 + 1))) 1 (nI (M1.1 1 + nSt q))) 6 (nI (max (M1.1 6) (nSt q))))
        have ok2 : StOk 34 (pA (pA (pA g1 68 (upd (gA g1 68) 0 (nI (M1.1 0 + 1)))) 68 (upd (upd (gA g1 68) 0 (nI (M1.1 0 + 1))) 1 (nI (M1.1 1 + nSt q)))) 68 (upd (upd (upd (gA g1 68) 0 (nI (M1.1 0 + 1))) 1 (nI (M1.1 1 + nSt q))) 6 (nI (max (M1.1 6) (nSt q))))) q := ok1.fr ((((Fr.rf [68] g1).sA (by decide) _).sA (by decide) _).sA (by decide) _) (by decide)
        refine a_if_eqB (pc := 110) 119 dX3_lookAround_110 (by decide) (fun c2 => ?_) (fun c2 => ?_)
        · refine a_iconst (pc := 119) (nI 1) dX3_lookAround_119 (by decide) ?_
          refine a_goto (pc := 120) 124 dX3_lookAround_120 (by decide) ?_
          refine ret _ _ 124 _ _ dX3_lookAround_124 rfl (by first | exact Or.inl rfl | exact Or.inr rfl | exact bI_01 _) ?_
          exact ⟨rfl, seO _ f2 ok2 e131 e371, f2, true, rfl, fun _ => ⟨rF _ rfl rfl rfl, by rw [e2, c2]; rfl⟩, fun z => absurd hf z⟩
        · refine a_aload_n (pc := 113) dX3_lookAround_113 rfl ?_
          refine a_iconst (pc := 114) (nI 2) dX3_lookAround_114 (by decide) ?_
          refine a_ial (pc := 115) _ dX3_lookAround_115 rfl rfl (by omega) ?_
          simp only [gF_pF, gF_pA, gF_pL, gA_pF, gA_pA, gA_pL, gL_pF, gL_pA, gL_pL, reduceIte, Nat.reduceEqDiff, and_false, false_and, and_true, true_and, and_self]
          rw [show upd (upd (upd (gA g1 68) 0 (nI (M1.1 0 + 1))) 1 (nI (M1.1 1 + nSt q))) 6 (nI (max (M1.1 6) (nSt q))) 2 = nI (M1.1 2) by rw [upd, if_neg (by decide), upd, if_neg (by decide), upd, if_neg (by decide)]; exact r1.1 2 (by decide)]
          refine a_if_neN (pc := 116) 123 dX3_lookAround_116 (by decide) (by omega) (fun c3 => ?_) (fun c3 => ?_)
          · refine a_iconst (pc := 123) (nI 0) dX3_lookAround_123 (by decide) ?_
            refine ret _ _ 124 _ _ dX3_lookAround_124 rfl (by first | exact Or.inl rfl | exact Or.inr rfl | exact bI_01 _) ?_
            exact ⟨rfl, seO _ f2 ok2 e131 e371, f2, false, rfl, fun _ => ⟨rF _ rfl rfl rfl, by rw [e2, c2, decide_eq_false c3]; rfl⟩, fun z => absurd hf z⟩
          · refine a_iconst (pc := 119) (nI 1) dX3_lookAround_119 (by decide) ?_
            refine a_goto (pc := 120) 124 dX3_lookAround_120 (by decide) ?_
            refine ret _ _ 124 _ _ dX3_lookAround_124 rfl (by first | exact Or.inl rfl | exact Or.inr rfl | exact bI_01 _) ?_
            exact ⟨rfl, seO _ f2 ok2 e131 e371, f2, true, rfl, fun _ => ⟨rF _ rfl rfl rfl, by rw [e2, c2, decide_eq_true c3]; rfl⟩, fun z => absurd hf z⟩
      have loop : ∀ t i, nSt q = i + t → ∀ g1 : GH, Fr lkL_67 g g1 → StOk 34 g1 q → gF g1 34 13 = nI Ed → gA g1 37 0 = nI 0 → RpC 67 g1 (momF A (fSt q) st (spB st m) su be rp i) → AW mX3_lookAround X Q ad 0 0 (conc (SS (71 + st) 64 67) g1) 30 [some (.ref 26), some (.int (nI (nSt q))), some (.int (nI i))] [] := by
        intro t
        induction t with
        | zero =>
          intro i hi g1 f1 ok1 e131 e371 r1
          obtain rfl : i = nSt q := by omega
          refine a_iload_n (pc := 30) dX3_lookAround_30 rfl ?_
          refine a_iload_n (pc := 31) dX3_lookAround_31 rfl ?_
          refine a_icmp_geN (pc := 32) 72 dX3_lookAround_32 (by decide) (by omega) (by omega) (fun c2 => ?_) (fun c2 => ?_)
          · exact fin g1 f1 ok1 e131 e371 r1
          · exact absurd c2 (by omega)
        | succ t ih =>
          intro i hi g1 f1 ok1 e131 e371 r1
          obtain ⟨t1, t2, t3⟩ := momF_t A (fSt q) st (spB st m) su be rp i
          refine a_iload_n (pc := 30) dX3_lookAround_30 rfl ?_
          refine a_iload_n (pc := 31) dX3_lookAround_31 rfl ?_
          refine a_icmp_geN (pc := 32) 72 dX3_lookAround_32 (by decide) (by omega) (by omega) (fun c2 => ?_) (fun c2 => ?_)
          · exact absurd c2 (by omega)
          · refine a_aload_n (pc := 35) dX3_lookAround_35 rfl ?_
            refine a_gr (pc := 36) dX3_lookAround_36 fX3_21 rfl ?_
            refine a_iload_n (pc := 39) dX3_lookAround_39 rfl ?_
            refine a_V1v (pc := 40) 8 dX3_lookAround_40 lcX9_seek lX3_161 rfl rfl rfl (fit_of hR (by omega) rfl) (c_seekQ_34 (d0 := d0) q i ok1 hf (by omega)) rfl rfl (fun S' g2 hS hp => ?_)
            obtain ⟨rfl, ok2, con, ek, f2⟩ := hp
            have f12 := f1.tr (f2.mono (by decide))
            refine a_aload_n (pc := 43) dX3_lookAround_43 rfl ?_
            refine a_aload_n (pc := 44) dX3_lookAround_44 rfl ?_
            refine a_gr (pc := 45) dX3_lookAround_45 fX3_21 rfl ?_
            refine a_gr (pc := 48) dX3_lookAround_48 fX3_164 rfl ?_
            refine a_V1v (pc := 51) 2 dX3_lookAround_51 lcX3_riseFrom lX3_167 rfl rfl rfl (fit_of hR (by omega) rfl) (c_riseFrom (d0 := d0) st m hst hm ((f12.f (by decide) 10).trans h10)) rfl rfl (fun S' g3 hS hp => ?_)
            obtain ⟨rfl, rw3, f3⟩ := hp
            have f13 := f12.tr (f3.mono (by decide))
            have ok3 : StOk 34 g3 q := ok2.fr f3 (by decide)
            have rw4 : rowD (gA g3 62) (camQ (fSt q i) st (spB st m)) := rw3.congr (fun x hx => camQ_congr con st (spB st m) hx)
            have r3 : RpC 67 g3 (momF A (fSt q) st (spB st m) su be rp i) := (r1.fr f2 (by decide) (by decide) (by decide)).fr f3 (by decide) (by decide) (by decide)
            have e133 : gF g3 34 13 = nI Ed := (f3.f (by decide) 13).trans ((ek 13 (by decide)).trans e131)
            have e373 : gA g3 37 0 = nI 0 := by rw [f3.a (by decide), f2.a (by decide)]; exact e371
            refine a_aload_n (pc := 54) dX3_lookAround_54 rfl ?_
            refine a_V0i (pc := 55) 2 dX3_lookAround_55 lcX3_isRight lX3_171 rfl rfl rfl (fit_of hR (by omega) rfl) (c_kright (d0 := d0) A (camQ (fSt q i) st (spB st m)) su be ((f13.f (by decide) 12).trans h12) ((f13.f (by decide) 11).trans h11) hsu hbe h8 (hD.fr h8 f13 (by decide)) rw4) rfl rfl (fun rr S' g' hS hp => ?_)
            obtain ⟨rfl, b, rfl, hg4, hbb⟩ := hp
            have hg4 := hg4.symm
            subst hg4
            refine a_if_neB (pc := 58) 66 dX3_lookAround_58 (by decide) (fun c3 => ?_) (fun c3 => ?_)
            · refine a_iinc (pc := 66) (ls' := [_, _, _]) (nI 1) dX3_lookAround_66 (by decide) rfl (Nat.le_of_ble_eq_true rfl) rfl ?_
              try rw [nI_add]
              refine a_goto (pc := 69) 30 dX3_lookAround_69 (by decide) ?_
              refine ih (i + 1) (by omega) _ f13 ok3 e133 e373 ?_
              rw [momF, if_pos (hbb.mp c3)]
              exact r3
            · refine a_aload_n (pc := 61) dX3_lookAround_61 rfl ?_
              refine a_iload_n (pc := 62) dX3_lookAround_62 rfl ?_
              refine a_V1v (pc := 63) 2 dX3_lookAround_63 lcX3_keepBad lX3_174 rfl rfl rfl (fit_of hR (by omega) rfl) (c_keepBad_67 (d0 := d0) (momF A (fSt q) st (spB st m) su be rp i) i be su (camQ (fSt q i) st (spB st m)) r3 ((f13.f (by decide) 11).trans h11) ((f13.f (by decide) 12).trans h12) rw4) rfl rfl (fun S' g' hS hp => ?_)
              obtain ⟨rfl, r5, f5⟩ := hp
              refine a_iinc (pc := 66) (ls' := [_, _, _]) (nI 1) dX3_lookAround_66 (by decide) rfl (Nat.le_of_ble_eq_true rfl) rfl ?_
              try rw [nI_add]
              refine a_goto (pc := 69) 30 dX3_lookAround_69 (by decide) ?_
              refine ih (i + 1) (by omega) _ (f13.tr (f5.mono (by decide))) (ok3.fr f5 (by decide)) ((f5.f (by decide) 13).trans e133) (by rw [f5.a (by decide)]; exact e373) ?_
              rw [momF, if_neg (fun z => absurd ((hbb.mpr z).symm.trans c3) (by decide))]
              rw [t1 0 (by decide)] at r5
              exact r5
      exact loop (nSt q) 0 (by omega) _ (fr0.mono (by decide)) ok e13 e37 (hr.fr fr0 (by decide) (by decide) (by decide))
    · exact absurd c1 (by omega)
  · rw [cn hf]
    refine a_istore_n (pc := 18) (ls' := [_, _, _]) dX3_lookAround_18 (Nat.le_of_ble_eq_true rfl) rfl ?_
    refine a_iload_n (pc := 19) dX3_lookAround_19 rfl ?_
    refine a_sipush (pc := 20) (nI 4096) dX3_lookAround_20 (by decide) ?_
    refine a_icmp_leN (pc := 23) 28 dX3_lookAround_23 (by decide) (by omega) (by omega) (fun c1 => ?_) (fun c1 => ?_)
    · exact absurd c1 (by omega)
    · refine a_iconst (pc := 26) (nI 0) dX3_lookAround_26 (by decide) ?_
      refine ret _ _ 27 _ _ dX3_lookAround_27 rfl (by first | exact Or.inl rfl | exact Or.inr rfl | exact bI_01 _) ?_
      exact ⟨rfl, seO _ (fr0.mono (by decide)) ok e13 e37, fr0.mono (by decide), false, rfl, (fun z => absurd z hf), fun _ => rfl⟩
abbrev lkL_64 : List Nat := [34, 35, 36, 37, 38, 39, 40, 41, 42, 47, 48, 49, 50, 61, 62, 64, 65, 66]
set_option maxHeartbeats 1000000 in
set_option maxRecDepth 100000 in
theorem c_look_64 {d0 : Nat} {g : GH} (A : List Ac) (q : Qd) (st m su be Ed : Nat) (nb : Bool) (rp : Rp) (hst : st < 3) (hm : m < 16) (hq : CD 27 g q) (hs : SeD 34 27 g q Ed) (hEd : Ed < 2147483648) (hD : DuC g A) (h8 : A.length ≤ 8) (hbe : be ≤ A.length) (hsu : su ≤ be) (h10 : gF g 26 10 = nI m) (h11 : gF g 26 11 = nI be) (h12 : gF g 26 12 = nI su) (h13 : gF g 26 13 = bI nb) (hr : RpC 64 g rp) (hb : RpB rp) (h0 : rp.1 0 < 1000) : ACi mX3_lookAround (d0 + 36) (SS (71 + st) 67 64) g [.ref 26] (fun rr S' g' => S' = SS (71 + st) 67 64 ∧ SeD 34 27 g' q Ed ∧ Fr lkL_64 g g' ∧ ∃ b : Bool, rr = bI b ∧ (FitQ q → RpC 64 g' (momP A q st (spB st m) su be rp) ∧ b = (!nb || decide ((momP A q st (spB st m) su be rp).1 2 = 0))) ∧ (¬ FitQ q → b = false)) := by
  obtain ⟨b0, b1, b2, b6, -⟩ := id hb
  refine ACz.of lcX3_lookAround rfl rfl (fun X Q ad hR ret => ?_)
  refine AW_ls (ls' := [_, _, _]) rfl ?_
  refine a_aload_n (pc := 0) dX3_lookAround_0 rfl ?_
  refine a_gr (pc := 1) dX3_lookAround_1 fX3_21 rfl ?_
  refine a_aload_n (pc := 4) dX3_lookAround_4 rfl ?_
  refine a_gr (pc := 5) dX3_lookAround_5 fX3_12 rfl ?_
  refine a_V1v (pc := 8) 8 dX3_lookAround_8 lcX9_refresh lX3_154 rfl rfl rfl (fit_of hR (by omega) rfl) (c_refresh_34 (d0 := d0) q Ed hEd hq hs) rfl rfl (fun S' g' hS hp => ?_)
  obtain ⟨rfl, ok, e13, e37, fr0⟩ := hp
  obtain ⟨cy, cn⟩ := ok.cnt
  have seO : ∀ g1 : GH, Fr lkL_64 g g1 → StOk 34 g1 q → gF g1 34 13 = nI Ed → gA g1 37 0 = nI 0 → SeD 34 27 g1 q Ed := fun g1 f o e e' => ⟨(f.f (by decide) 12).trans hs.1, e', Or.inr ⟨Ed, e, Nat.le_refl _, fun _ => o⟩⟩
  refine a_aload_n (pc := 11) dX3_lookAround_11 rfl ?_
  refine a_gr (pc := 12) dX3_lookAround_12 fX3_21 rfl ?_
  refine a_gi (pc := 15) dX3_lookAround_15 fX3_158 rfl ?_
  by_cases hf : FitQ q
  · obtain ⟨cy1, cy2⟩ := cy hf
    rw [cy1]
    refine a_istore_n (pc := 18) (ls' := [_, _, _]) dX3_lookAround_18 (Nat.le_of_ble_eq_true rfl) rfl ?_
    refine a_iload_n (pc := 19) dX3_lookAround_19 rfl ?_
    refine a_sipush (pc := 20) (nI 4096) dX3_lookAround_20 (by decide) ?_
    refine a_icmp_leN (pc := 23) 28 dX3_lookAround_23 (by decide) (by omega) (by omega) (fun c1 => ?_) (fun c1 => ?_)
    · refine a_iconst (pc := 28) (nI 0) dX3_lookAround_28 (by decide) ?_
      refine a_istore_n (pc := 29) (ls' := [_, _, _]) dX3_lookAround_29 (Nat.le_of_ble_eq_true rfl) rfl ?_
      have fin : ∀ g1 : GH, Fr lkL_64 g g1 → StOk 34 g1 q → gF g1 34 13 = nI Ed → gA g1 37 0 = nI 0 → RpC 64 g1 (momF A (fSt q) st (spB st m) su be rp (nSt q)) → AW mX3_lookAround X Q ad 0 0 (conc (SS (71 + st) 67 64) g1) 72 [some (.ref 26), some (.int (nI (nSt q))), some (.int (nI (nSt q)))] [] := by
        intro g1 f1 ok1 e131 e371 r1
        obtain ⟨t1, t2, t3⟩ := momF_t A (fSt q) st (spB st m) su be rp (nSt q)
        have t0 := t1 0 (by decide)
        have t11 := t1 1 (by decide)
        have t6 := t1 6 (by decide)
        generalize hM : momF A (fSt q) st (spB st m) su be rp (nSt q) = M1 at *
        refine a_aload_n (pc := 72) dX3_lookAround_72 rfl ?_
        refine a_gr (pc := 73) dX3_lookAround_73 fX3_61 rfl ?_
        refine a_gr (pc := 76) dX3_lookAround_76 fX3_111 rfl ?_
        refine a_astore_n (pc := 79) (ls' := [_, _, _]) dX3_lookAround_79 (Nat.le_of_ble_eq_true rfl) rfl ?_
        refine a_aload_n (pc := 80) dX3_lookAround_80 rfl ?_
        refine a_iconst (pc := 81) (nI 0) dX3_lookAround_81 (by decide) ?_
        refine a_dup2 (pc := 82) dX3_lookAround_82 rfl rfl ?_
        refine a_ial (pc := 83) _ dX3_lookAround_83 rfl rfl (by omega) ?_
        rw [r1.1 0 (by decide)]
        refine a_iconst (pc := 84) (nI 1) dX3_lookAround_84 (by decide) ?_
        refine a_iadd (pc := 85) dX3_lookAround_85 ?_
        try rw [nI_add]
        refine a_ast (pc := 86) _ dX3_lookAround_86 rfl rfl (by omega) ?_
        refine a_aload_n (pc := 87) dX3_lookAround_87 rfl ?_
        refine a_iconst (pc := 88) (nI 1) dX3_lookAround_88 (by decide) ?_
        refine a_dup2 (pc := 89) dX3_lookAround_89 rfl rfl ?_
        refine a_ial (pc := 90) _ dX3_lookAround_90 rfl rfl (by omega) ?_
        rw [show gA (pA g1 65 (upd (gA g1 65) 0 (nI (M1.1 0 + 1)))) 65 1 = nI (M1.1 1) by rw [gA_pA, if_pos rfl, upd, if_neg (by decide)]; exact r1.1 1 (by decide)]
        refine a_iload_n (pc := 91) dX3_lookAround_91 rfl ?_
        refine a_iadd (pc := 92) dX3_lookAround_92 ?_
        try rw [nI_add]
        refine a_ast (pc := 93) _ dX3_lookAround_93 rfl rfl (by omega) ?_
        refine a_aload_n (pc := 94) dX3_lookAround_94 rfl ?_
        refine a_bipush (pc := 95) (nI 6) dX3_lookAround_95 (by decide) ?_
        refine a_aload_n (pc := 97) dX3_lookAround_97 rfl ?_
        refine a_bipush (pc := 98) (nI 6) dX3_lookAround_98 (by decide) ?_
        refine a_ial (pc := 100) _ dX3_lookAround_100 rfl rfl (by omega) ?_
        simp only [gF_pF, gF_pA, gF_pL, gA_pF, gA_pA, gA_pL, gL_pF, gL_pA, gL_pL, reduceIte, Nat.reduceEqDiff, and_false, false_and, and_true, true_and, and_self]
        rw [show upd (upd (gA g1 65) 0 (nI (M1.1 0 + 1))) 1 (nI (M1.1 1 + nSt q)) 6 = nI (M1.1 6) by rw [upd, if_neg (by decide), upd, if_neg (by decide)]; exact r1.1 6 (by decide)]
        refine a_iload_n (pc := 101) dX3_lookAround_101 rfl ?_
        refine a_mmaxN (pc := 102) dX3_lookAround_102 lX3_177 hR (by omega) rfl (by omega) (by omega) ?_
        refine a_ast (pc := 105) _ dX3_lookAround_105 rfl rfl (by omega) ?_
        refine a_aload_n (pc := 106) dX3_lookAround_106 rfl ?_
        refine a_gi (pc := 107) dX3_lookAround_107 fX3_74 rfl ?_
        have g1313 : gF g1 26 13 = bI nb := (f1.f (by decide) 13).trans h13
        simp only [gF_pF, gF_pA, gF_pL, gA_pF, gA_pA, gA_pL, gL_pF, gL_pA, gL_pL, reduceIte, Nat.reduceEqDiff, and_false, false_and, and_true, true_and, and_self, g1313]
        have rF : ∀ g2 : GH, gF g2 64 2 = gF g1 64 2 → gA g2 66 = gA g1 66 → gA g2 65 = upd (upd (upd (gA g1 65) 0 (nI (M1.1 0 + 1))) 1 (nI (M1.1 1 + nSt q))) 6 (nI (max (M1.1 6) (nSt q))) → RpC 64 g2 (momP A q st (spB st m) su be rp) := by
          intro g2 ea eb ec
          have em : momP A q st (spB st m) su be rp = momE (nSt q) M1 := by rw [momP, hM]
          rw [em]
          refine ⟨fun j hj => ?_, ea.trans r1.2.1, r1.2.2.1, fun i row h w hw => by rw [eb]; exact r1.2.2.2 i row h w hw⟩
          show gA g2 65 j = nI (tu (tu (tu M1.1 0 (M1.1 0 + 1)) 1 (M1.1 1 + nSt q)) 6 (max (M1.1 6) (nSt q)) j)
          rw [ec]
          simp only [upd, tu]
          by_cases z6 : j = 6
          · rw [if_pos z6, if_pos z6]
          · rw [if_neg z6, if_neg z6]
            by_cases z1 : j = 1
            · rw [if_pos z1, if_pos z1]
            · rw [if_neg z1, if_neg z1]
              by_cases z0 : j = 0
              · rw [if_pos z0, if_pos z0]
              · rw [if_neg z0, if_neg z0]
                exact r1.1 j hj
        have e2 : (momP A q st (spB st m) su be rp).1 2 = M1.1 2 := by rw [momP, hM]; rfl
        have f2 := ((f1.sA (a := 65) (by decide) (upd (gA g1 65) 0 (nI (M1.1 0 + 1)))).sA (a := 65) (by decide) (upd (upd (gA g1 65) 0 (nI (M1.1 0 + 1))) 1 (nI (M1.1 1 + nSt q)))).sA (a := 65) (by decide) (upd (upd (upd (gA g1 65) 0 (nI (M1.1 0 + 1))) 1 (nI (M1.1 1 + nSt q))) 6 (nI (max (M1.1 6) (nSt q))))
        have ok2 : StOk 34 (pA (pA (pA g1 65 (upd (gA g1 65) 0 (nI (M1.1 0 + 1)))) 65 (upd (upd (gA g1 65) 0 (nI (M1.1 0 + 1))) 1 (nI (M1.1 1 + nSt q)))) 65 (upd (upd (upd (gA g1 65) 0 (nI (M1.1 0 + 1))) 1 (nI (M1.1 1 + nSt q))) 6 (nI (max (M1.1 6) (nSt q))))) q := ok1.fr ((((Fr.rf [65] g1).sA (by decide) _).sA (by decide) _).sA (by decide) _) (by decide)
        refine a_if_eqB (pc := 110) 119 dX3_lookAround_110 (by decide) (fun c2 => ?_) (fun c2 => ?_)
        · refine a_iconst (pc := 119) (nI 1) dX3_lookAround_119 (by decide) ?_
          refine a_goto (pc := 120) 124 dX3_lookAround_120 (by decide) ?_
          refine ret _ _ 124 _ _ dX3_lookAround_124 rfl (by first | exact Or.inl rfl | exact Or.inr rfl | exact bI_01 _) ?_
          exact ⟨rfl, seO _ f2 ok2 e131 e371, f2, true, rfl, fun _ => ⟨rF _ rfl rfl rfl, by rw [e2, c2]; rfl⟩, fun z => absurd hf z⟩
        · refine a_aload_n (pc := 113) dX3_lookAround_113 rfl ?_
          refine a_iconst (pc := 114) (nI 2) dX3_lookAround_114 (by decide) ?_
          refine a_ial (pc := 115) _ dX3_lookAround_115 rfl rfl (by omega) ?_
          simp only [gF_pF, gF_pA, gF_pL, gA_pF, gA_pA, gA_pL, gL_pF, gL_pA, gL_pL, reduceIte, Nat.reduceEqDiff, and_false, false_and, and_true, true_and, and_self]
          rw [show upd (upd (upd (gA g1 65) 0 (nI (M1.1 0 + 1))) 1 (nI (M1.1 1 + nSt q))) 6 (nI (max (M1.1 6) (nSt q))) 2 = nI (M1.1 2) by rw [upd, if_neg (by decide), upd, if_neg (by decide), upd, if_neg (by decide)]; exact r1.1 2 (by decide)]
          refine a_if_neN (pc := 116) 123 dX3_lookAround_116 (by decide) (by omega) (fun c3 => ?_) (fun c3 => ?_)
          · refine a_iconst (pc := 123) (nI 0) dX3_lookAround_123 (by decide) ?_
            refine ret _ _ 124 _ _ dX3_lookAround_124 rfl (by first | exact Or.inl rfl | exact Or.inr rfl | exact bI_01 _) ?_
            exact ⟨rfl, seO _ f2 ok2 e131 e371, f2, false, rfl, fun _ => ⟨rF _ rfl rfl rfl, by rw [e2, c2, decide_eq_false c3]; rfl⟩, fun z => absurd hf z⟩
          · refine a_iconst (pc := 119) (nI 1) dX3_lookAround_119 (by decide) ?_
            refine a_goto (pc := 120) 124 dX3_lookAround_120 (by decide) ?_
            refine ret _ _ 124 _ _ dX3_lookAround_124 rfl (by first | exact Or.inl rfl | exact Or.inr rfl | exact bI_01 _) ?_
            exact ⟨rfl, seO _ f2 ok2 e131 e371, f2, true, rfl, fun _ => ⟨rF _ rfl rfl rfl, by rw [e2, c2, decide_eq_true c3]; rfl⟩, fun z => absurd hf z⟩
      have loop : ∀ t i, nSt q = i + t → ∀ g1 : GH, Fr lkL_64 g g1 → StOk 34 g1 q → gF g1 34 13 = nI Ed → gA g1 37 0 = nI 0 → RpC 64 g1 (momF A (fSt q) st (spB st m) su be rp i) → AW mX3_lookAround X Q ad 0 0 (conc (SS (71 + st) 67 64) g1) 30 [some (.ref 26), some (.int (nI (nSt q))), some (.int (nI i))] [] := by
        intro t
        induction t with
        | zero =>
          intro i hi g1 f1 ok1 e131 e371 r1
          obtain rfl : i = nSt q := by omega
          refine a_iload_n (pc := 30) dX3_lookAround_30 rfl ?_
          refine a_iload_n (pc := 31) dX3_lookAround_31 rfl ?_
          refine a_icmp_geN (pc := 32) 72 dX3_lookAround_32 (by decide) (by omega) (by omega) (fun c2 => ?_) (fun c2 => ?_)
          · exact fin g1 f1 ok1 e131 e371 r1
          · exact absurd c2 (by omega)
        | succ t ih =>
          intro i hi g1 f1 ok1 e131 e371 r1
          obtain ⟨t1, t2, t3⟩ := momF_t A (fSt q) st (spB st m) su be rp i
          refine a_iload_n (pc := 30) dX3_lookAround_30 rfl ?_
          refine a_iload_n (pc := 31) dX3_lookAround_31 rfl ?_
          refine a_icmp_geN (pc := 32) 72 dX3_lookAround_32 (by decide) (by omega) (by omega) (fun c2 => ?_) (fun c2 => ?_)
          · exact absurd c2 (by omega)
          · refine a_aload_n (pc := 35) dX3_lookAround_35 rfl ?_
            refine a_gr (pc := 36) dX3_lookAround_36 fX3_21 rfl ?_
            refine a_iload_n (pc := 39) dX3_lookAround_39 rfl ?_
            refine a_V1v (pc := 40) 8 dX3_lookAround_40 lcX9_seek lX3_161 rfl rfl rfl (fit_of hR (by omega) rfl) (c_seekQ_34 (d0 := d0) q i ok1 hf (by omega)) rfl rfl (fun S' g2 hS hp => ?_)
            obtain ⟨rfl, ok2, con, ek, f2⟩ := hp
            have f12 := f1.tr (f2.mono (by decide))
            refine a_aload_n (pc := 43) dX3_lookAround_43 rfl ?_
            refine a_aload_n (pc := 44) dX3_lookAround_44 rfl ?_
            refine a_gr (pc := 45) dX3_lookAround_45 fX3_21 rfl ?_
            refine a_gr (pc := 48) dX3_lookAround_48 fX3_164 rfl ?_
            refine a_V1v (pc := 51) 2 dX3_lookAround_51 lcX3_riseFrom lX3_167 rfl rfl rfl (fit_of hR (by omega) rfl) (c_riseFrom (d0 := d0) st m hst hm ((f12.f (by decide) 10).trans h10)) rfl rfl (fun S' g3 hS hp => ?_)
            obtain ⟨rfl, rw3, f3⟩ := hp
            have f13 := f12.tr (f3.mono (by decide))
            have ok3 : StOk 34 g3 q := ok2.fr f3 (by decide)
            have rw4 : rowD (gA g3 62) (camQ (fSt q i) st (spB st m)) := rw3.congr (fun x hx => camQ_congr con st (spB st m) hx)
            have r3 : RpC 64 g3 (momF A (fSt q) st (spB st m) su be rp i) := (r1.fr f2 (by decide) (by decide) (by decide)).fr f3 (by decide) (by decide) (by decide)
            have e133 : gF g3 34 13 = nI Ed := (f3.f (by decide) 13).trans ((ek 13 (by decide)).trans e131)
            have e373 : gA g3 37 0 = nI 0 := by rw [f3.a (by decide), f2.a (by decide)]; exact e371
            refine a_aload_n (pc := 54) dX3_lookAround_54 rfl ?_
            refine a_V0i (pc := 55) 2 dX3_lookAround_55 lcX3_isRight lX3_171 rfl rfl rfl (fit_of hR (by omega) rfl) (c_kright (d0 := d0) A (camQ (fSt q i) st (spB st m)) su be ((f13.f (by decide) 12).trans h12) ((f13.f (by decide) 11).trans h11) hsu hbe h8 (hD.fr h8 f13 (by decide)) rw4) rfl rfl (fun rr S' g' hS hp => ?_)
            obtain ⟨rfl, b, rfl, hg4, hbb⟩ := hp
            have hg4 := hg4.symm
            subst hg4
            refine a_if_neB (pc := 58) 66 dX3_lookAround_58 (by decide) (fun c3 => ?_) (fun c3 => ?_)
            · refine a_iinc (pc := 66) (ls' := [_, _, _]) (nI 1) dX3_lookAround_66 (by decide) rfl (Nat.le_of_ble_eq_true rfl) rfl ?_
              try rw [nI_add]
              refine a_goto (pc := 69) 30 dX3_lookAround_69 (by decide) ?_
              refine ih (i + 1) (by omega) _ f13 ok3 e133 e373 ?_
              rw [momF, if_pos (hbb.mp c3)]
              exact r3
            · refine a_aload_n (pc := 61) dX3_lookAround_61 rfl ?_
              refine a_iload_n (pc := 62) dX3_lookAround_62 rfl ?_
              refine a_V1v (pc := 63) 2 dX3_lookAround_63 lcX3_keepBad lX3_174 rfl rfl rfl (fit_of hR (by omega) rfl) (c_keepBad_64 (d0 := d0) (momF A (fSt q) st (spB st m) su be rp i) i be su (camQ (fSt q i) st (spB st m)) r3 ((f13.f (by decide) 11).trans h11) ((f13.f (by decide) 12).trans h12) rw4) rfl rfl (fun S' g' hS hp => ?_)
              obtain ⟨rfl, r5, f5⟩ := hp
              refine a_iinc (pc := 66) (ls' := [_, _, _]) (nI 1) dX3_lookAround_66 (by decide) rfl (Nat.le_of_ble_eq_true rfl) rfl ?_
              try rw [nI_add]
              refine a_goto (pc := 69) 30 dX3_lookAround_69 (by decide) ?_
              refine ih (i + 1) (by omega) _ (f13.tr (f5.mono (by decide))) (ok3.fr f5 (by decide)) ((f5.f (by decide) 13).trans e133) (by rw [f5.a (by decide)]; exact e373) ?_
              rw [momF, if_neg (fun z => absurd ((hbb.mpr z).symm.trans c3) (by decide))]
              rw [t1 0 (by decide)] at r5
              exact r5
      exact loop (nSt q) 0 (by omega) _ (fr0.mono (by decide)) ok e13 e37 (hr.fr fr0 (by decide) (by decide) (by decide))
    · exact absurd c1 (by omega)
  · rw [cn hf]
    refine a_istore_n (pc := 18) (ls' := [_, _, _]) dX3_lookAround_18 (Nat.le_of_ble_eq_true rfl) rfl ?_
    refine a_iload_n (pc := 19) dX3_lookAround_19 rfl ?_
    refine a_sipush (pc := 20) (nI 4096) dX3_lookAround_20 (by decide) ?_
    refine a_icmp_leN (pc := 23) 28 dX3_lookAround_23 (by decide) (by omega) (by omega) (fun c1 => ?_) (fun c1 => ?_)
    · exact absurd c1 (by omega)
    · refine a_iconst (pc := 26) (nI 0) dX3_lookAround_26 (by decide) ?_
      refine ret _ _ 27 _ _ dX3_lookAround_27 rfl (by first | exact Or.inl rfl | exact Or.inr rfl | exact bI_01 _) ?_
      exact ⟨rfl, seO _ (fr0.mono (by decide)) ok e13 e37, fr0.mono (by decide), false, rfl, (fun z => absurd z hf), fun _ => rfl⟩
