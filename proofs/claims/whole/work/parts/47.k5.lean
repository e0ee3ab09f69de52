/-! LOGGED: what is in the log, rising -/
set_option maxHeartbeats 1000000 in
set_option maxRecDepth 100000 in
theorem c_isLog_3 {d0 kd kp rp : Nat} {g : GH} : ACi mX2_isLogWhole (d0 + 1) (SS kd kp rp) g [.ref 3] (fun r S' g' => S' = SS kd kp rp ∧ g' = g ∧ ∃ b : Bool, r = bI b ∧ (b = true ↔ (insQ (gA g 3 6) (nI 1) (nI 2) = true ∧ gA g 3 7 = sum7 (gA g 3 6) (gA g 3 8) (gA g 3 9) (gA g 3 10) (gA g 3 11) (gA g 3 12) (gA g 3 13) ∧ insQ (gA g 3 8) (nI 0) (nI 2) = true ∧ (gA g 3 6 = nI 1 ∨ insQ (gA g 3 11) (nI 0) (nI 2) = true)))) := by
  have q1 : insQ (nI 1) (nI 1) (nI 2) = true := by decide
  have q2 : insQ (nI 2) (nI 1) (nI 2) = true := by decide
  have q3 : ∀ x : Int32, insQ x (nI 1) (nI 2) = true → x = nI 1 ∨ x = nI 2 := by
    intro x h
    unfold insQ at h
    rw [Bool.and_eq_true, decide_eq_true_iff, decide_eq_true_iff, Int32.le_iff_toInt_le, Int32.le_iff_toInt_le] at h
    have e1 : (nI 1).toInt = 1 := rfl
    have e2 : (nI 2).toInt = 2 := rfl
    have : x.toInt = 1 ∨ x.toInt = 2 := by omega
    rcases this with z | z
    · exact Or.inl (Int32.toInt_inj.mp (z.trans e1.symm))
    · exact Or.inr (Int32.toInt_inj.mp (z.trans e2.symm))
  have n12 : ¬ nI 1 = nI 2 := by decide
  refine ACz.of lcX2_isLogWhole rfl rfl (fun X Q ad hR ret => ?_)
  refine AW_ls (ls' := [_, _, _]) rfl ?_
  refine a_aload_n (pc := 0) dX2_isLogWhole_0 rfl ?_
  refine a_bipush (pc := 1) (nI 6) dX2_isLogWhole_1 (by decide) ?_
  refine a_ial (pc := 3) _ dX2_isLogWhole_3 rfl rfl (by omega) ?_
  refine a_istore_n (pc := 4) (ls' := [_, _, _]) dX2_isLogWhole_4 (Nat.le_of_ble_eq_true rfl) rfl ?_
  refine a_bipush (pc := 5) (nI 8) dX2_isLogWhole_5 (by decide) ?_
  refine a_istore_n (pc := 7) (ls' := [_, _, _]) dX2_isLogWhole_7 (Nat.le_of_ble_eq_true rfl) rfl ?_
  refine a_iload_n (pc := 8) dX2_isLogWhole_8 rfl ?_
  refine a_iconst (pc := 9) (nI 1) dX2_isLogWhole_9 (by decide) ?_
  generalize gA g 3 6 = x6 at ret ⊢
  have fin : AW mX2_isLogWhole X Q ad 0 0 (conc (SS kd kp rp) g) 47 [some (.ref 3), some (.int x6), some (.int (nI 8))] [] → AW mX2_isLogWhole X Q ad 0 0 (conc (SS kd kp rp) g) 47 [some (.ref 3), some (.int x6), some (.int (nI 8))] [] := id
  have last : insQ x6 (nI 1) (nI 2) = true → insQ (gA g 3 8) (nI 0) (nI 2) = true → (x6 = nI 1 ∨ insQ (gA g 3 11) (nI 0) (nI 2) = true) → AW mX2_isLogWhole X Q ad 0 0 (conc (SS kd kp rp) g) 47 [some (.ref 3), some (.int x6), some (.int (nI 8))] [] := by
    intro h1 h2 h3
    refine a_aload_n (pc := 47) dX2_isLogWhole_47 rfl ?_
    refine a_bipush (pc := 48) (nI 7) dX2_isLogWhole_48 (by decide) ?_
    refine a_ial (pc := 50) _ dX2_isLogWhole_50 rfl rfl (by omega) ?_
    refine a_iload_n (pc := 51) dX2_isLogWhole_51 rfl ?_
    refine a_aload_n (pc := 52) dX2_isLogWhole_52 rfl ?_
    refine a_iload_n (pc := 53) dX2_isLogWhole_53 rfl ?_
    refine a_ial (pc := 54) _ dX2_isLogWhole_54 rfl rfl (by omega) ?_
    refine a_aload_n (pc := 55) dX2_isLogWhole_55 rfl ?_
    refine a_iload_n (pc := 56) dX2_isLogWhole_56 rfl ?_
    refine a_iconst (pc := 57) (nI 1) dX2_isLogWhole_57 (by decide) ?_
    refine a_iadd (pc := 58) dX2_isLogWhole_58 ?_
    try rw [nI_add]
    refine a_ial (pc := 59) _ dX2_isLogWhole_59 rfl rfl (by omega) ?_
    refine a_aload_n (pc := 60) dX2_isLogWhole_60 rfl ?_
    refine a_iload_n (pc := 61) dX2_isLogWhole_61 rfl ?_
    refine a_iconst (pc := 62) (nI 2) dX2_isLogWhole_62 (by decide) ?_
    refine a_iadd (pc := 63) dX2_isLogWhole_63 ?_
    try rw [nI_add]
    refine a_ial (pc := 64) _ dX2_isLogWhole_64 rfl rfl (by omega) ?_
    refine a_aload_n (pc := 65) dX2_isLogWhole_65 rfl ?_
    refine a_iload_n (pc := 66) dX2_isLogWhole_66 rfl ?_
    refine a_iconst (pc := 67) (nI 3) dX2_isLogWhole_67 (by decide) ?_
    refine a_iadd (pc := 68) dX2_isLogWhole_68 ?_
    try rw [nI_add]
    refine a_ial (pc := 69) _ dX2_isLogWhole_69 rfl rfl (by omega) ?_
    refine a_aload_n (pc := 70) dX2_isLogWhole_70 rfl ?_
    refine a_iload_n (pc := 71) dX2_isLogWhole_71 rfl ?_
    refine a_iconst (pc := 72) (nI 4) dX2_isLogWhole_72 (by decide) ?_
    refine a_iadd (pc := 73) dX2_isLogWhole_73 ?_
    try rw [nI_add]
    refine a_ial (pc := 74) _ dX2_isLogWhole_74 rfl rfl (by omega) ?_
    refine a_aload_n (pc := 75) dX2_isLogWhole_75 rfl ?_
    refine a_iload_n (pc := 76) dX2_isLogWhole_76 rfl ?_
    refine a_iconst (pc := 77) (nI 5) dX2_isLogWhole_77 (by decide) ?_
    refine a_iadd (pc := 78) dX2_isLogWhole_78 ?_
    try rw [nI_add]
    refine a_ial (pc := 79) _ dX2_isLogWhole_79 rfl rfl (by omega) ?_
    refine a_S7i (pc := 80) dX2_isLogWhole_80 lcX2_sum lX2_18 (fit_of hR (by omega) rfl) (c_ksum (d0 := d0) x6 (gA g 3 8) (gA g 3 9) (gA g 3 10) (gA g 3 11) (gA g 3 12) (gA g 3 13)) rfl rfl (ex_i ?_)
    refine a_icmp_ne (pc := 83) 90 dX2_isLogWhole_83 (by decide) (fun c5 => ?_) (fun c5 => ?_)
    · refine a_iconst (pc := 90) (nI 0) dX2_isLogWhole_90 (by decide) ?_
      refine ret _ _ 91 _ _ dX2_isLogWhole_91 rfl (by first | exact Or.inl rfl | exact Or.inr rfl | exact bI_01 _) ?_
      exact ⟨rfl, rfl, false, rfl, ⟨fun z => absurd z (by decide), fun z => absurd z.2.1 c5⟩⟩
    · refine a_iconst (pc := 86) (nI 1) dX2_isLogWhole_86 (by decide) ?_
      refine a_goto (pc := 87) 91 dX2_isLogWhole_87 (by decide) ?_
      refine ret _ _ 91 _ _ dX2_isLogWhole_91 rfl (by first | exact Or.inl rfl | exact Or.inr rfl | exact bI_01 _) ?_
      exact ⟨rfl, rfl, true, rfl, ⟨fun _ => ⟨h1, c5, h2, h3⟩, fun _ => rfl⟩⟩
  have mid : insQ x6 (nI 1) (nI 2) = true → AW mX2_isLogWhole X Q ad 0 0 (conc (SS kd kp rp) g) 18 [some (.ref 3), some (.int x6), some (.int (nI 8))] [] := by
    intro h1
    refine a_aload_n (pc := 18) dX2_isLogWhole_18 rfl ?_
    refine a_iload_n (pc := 19) dX2_isLogWhole_19 rfl ?_
    refine a_ial (pc := 20) _ dX2_isLogWhole_20 rfl rfl (by omega) ?_
    refine a_S1i (pc := 21) dX2_isLogWhole_21 lcX10_isKey lX2_43 (fit_of hR (by omega) rfl) (c_isKey (d0 := d0) (gA g 3 8)) rfl rfl (ex_i ?_)
    refine a_if_neB (pc := 24) 29 dX2_isLogWhole_24 (by decide) (fun c3 => ?_) (fun c3 => ?_)
    · refine a_iload_n (pc := 29) dX2_isLogWhole_29 rfl ?_
      refine a_iconst (pc := 30) (nI 2) dX2_isLogWhole_30 (by decide) ?_
      refine a_icmp_ne (pc := 31) 47 dX2_isLogWhole_31 (by decide) (fun c4 => ?_) (fun c4 => ?_)
      · rcases q3 x6 h1 with z | z
        · exact last h1 c3 (Or.inl z)
        · exact absurd z c4
      · refine a_aload_n (pc := 34) dX2_isLogWhole_34 rfl ?_
        refine a_iload_n (pc := 35) dX2_isLogWhole_35 rfl ?_
        refine a_iconst (pc := 36) (nI 3) dX2_isLogWhole_36 (by decide) ?_
        refine a_iadd (pc := 37) dX2_isLogWhole_37 ?_
        try rw [nI_add]
        refine a_ial (pc := 38) _ dX2_isLogWhole_38 rfl rfl (by omega) ?_
        refine a_S1i (pc := 39) dX2_isLogWhole_39 lcX10_isKey lX2_43 (fit_of hR (by omega) rfl) (c_isKey (d0 := d0) (gA g 3 11)) rfl rfl (ex_i ?_)
        refine a_if_neB (pc := 42) 47 dX2_isLogWhole_42 (by decide) (fun c5 => ?_) (fun c5 => ?_)
        · exact last h1 c3 (Or.inr c5)
        · refine a_iconst (pc := 45) (nI 0) dX2_isLogWhole_45 (by decide) ?_
          refine ret _ _ 46 _ _ dX2_isLogWhole_46 rfl (by first | exact Or.inl rfl | exact Or.inr rfl | exact bI_01 _) ?_
          refine ⟨rfl, rfl, false, rfl, ⟨fun z => absurd z (by decide), fun z => ?_⟩⟩
          rcases z.2.2.2 with z | z
          · exact absurd (z.symm.trans c4) n12
          · exact absurd (z.symm.trans c5) (by decide)
    · refine a_iconst (pc := 27) (nI 0) dX2_isLogWhole_27 (by decide) ?_
      refine ret _ _ 28 _ _ dX2_isLogWhole_28 rfl (by first | exact Or.inl rfl | exact Or.inr rfl | exact bI_01 _) ?_
      exact ⟨rfl, rfl, false, rfl, ⟨fun z => absurd z (by decide), fun z => absurd (z.2.2.1.symm.trans c3) (by decide)⟩⟩
  refine a_icmp_eq (pc := 10) 18 dX2_isLogWhole_10 (by decide) (fun c1 => ?_) (fun c1 => ?_)
  · exact mid (by rw [c1]; exact q1)
  · refine a_iload_n (pc := 13) dX2_isLogWhole_13 rfl ?_
    refine a_iconst (pc := 14) (nI 2) dX2_isLogWhole_14 (by decide) ?_
    refine a_icmp_ne (pc := 15) 27 dX2_isLogWhole_15 (by decide) (fun c2 => ?_) (fun c2 => ?_)
    · refine a_iconst (pc := 27) (nI 0) dX2_isLogWhole_27 (by decide) ?_
      refine ret _ _ 28 _ _ dX2_isLogWhole_28 rfl (by first | exact Or.inl rfl | exact Or.inr rfl | exact bI_01 _) ?_
      refine ⟨rfl, rfl, false, rfl, ⟨fun z => absurd z (by decide), fun z => ?_⟩⟩
      rcases q3 x6 z.1 with z | z
      · exact absurd z c1
      · exact absurd z c2
    · exact mid (by rw [c2]; exact q2)
set_option maxRecDepth 100000 in
theorem c_well1_3 {d0 kd kp rp : Nat} {g : GH} : ACi mX2_allIsWell d0 (SS kd kp rp) g [.ref 72, .ref 3] (fun r S' g' => S' = SS kd kp rp ∧ g' = g ∧ r = bI (decide (gA g 3 6 = 0 ∧ gA g 3 7 = 0))) := by
  refine ACz.of lcX2_allIsWell rfl rfl (fun X Q ad hR ret => ?_)
  refine AW_ls (ls' := [_, _]) rfl ?_
  refine a_aload_n (pc := 0) dX2_allIsWell_0 rfl ?_
  refine a_bipush (pc := 1) (nI 6) dX2_allIsWell_1 (by decide) ?_
  refine a_ial (pc := 3) _ dX2_allIsWell_3 rfl rfl (by omega) ?_
  refine a_if_ne (pc := 4) 18 dX2_allIsWell_4 (by decide) (fun c1 => ?_) (fun c1 => ?_)
  · refine a_iconst (pc := 18) (nI 0) dX2_allIsWell_18 (by decide) ?_
    refine ret _ _ 19 _ _ dX2_allIsWell_19 rfl (by first | exact Or.inl rfl | exact Or.inr rfl | exact bI_01 _) ?_
    exact ⟨rfl, rfl, (bI_ndec _ (fun z => c1 z.1)).symm⟩
  · refine a_aload_n (pc := 7) dX2_allIsWell_7 rfl ?_
    refine a_bipush (pc := 8) (nI 7) dX2_allIsWell_8 (by decide) ?_
    refine a_ial (pc := 10) _ dX2_allIsWell_10 rfl rfl (by omega) ?_
    refine a_if_ne (pc := 11) 18 dX2_allIsWell_11 (by decide) (fun c2 => ?_) (fun c2 => ?_)
    · refine a_iconst (pc := 18) (nI 0) dX2_allIsWell_18 (by decide) ?_
      refine ret _ _ 19 _ _ dX2_allIsWell_19 rfl (by first | exact Or.inl rfl | exact Or.inr rfl | exact bI_01 _) ?_
      exact ⟨rfl, rfl, (bI_ndec _ (fun z => c2 z.2)).symm⟩
    · refine a_iconst (pc := 14) (nI 1) dX2_allIsWell_14 (by decide) ?_
      refine a_goto (pc := 15) 19 dX2_allIsWell_15 (by decide) ?_
      refine ret _ _ 19 _ _ dX2_allIsWell_19 rfl (by first | exact Or.inl rfl | exact Or.inr rfl | exact bI_01 _) ?_
      exact ⟨rfl, rfl, (bI_dec _ ⟨c1, c2⟩).symm⟩
set_option maxHeartbeats 1000000 in
set_option maxRecDepth 100000 in
theorem c_isLog_35 {d0 kd kp rp : Nat} {g : GH} : ACi mX2_isLogWhole (d0 + 1) (SS kd kp rp) g [.ref 35] (fun r S' g' => S' = SS kd kp rp ∧ g' = g ∧ ∃ b : Bool, r = bI b ∧ (b = true ↔ (insQ (gA g 35 6) (nI 1) (nI 2) = true ∧ gA g 35 7 = sum7 (gA g 35 6) (gA g 35 8) (gA g 35 9) (gA g 35 10) (gA g 35 11) (gA g 35 12) (gA g 35 13) ∧ insQ (gA g 35 8) (nI 0) (nI 2) = true ∧ (gA g 35 6 = nI 1 ∨ insQ (gA g 35 11) (nI 0) (nI 2) = true)))) := by
  have q1 : insQ (nI 1) (nI 1) (nI 2) = true := by decide
  have q2 : insQ (nI 2) (nI 1) (nI 2) = true := by decide
  have q3 : ∀ x : Int32, insQ x (nI 1) (nI 2) = true → x = nI 1 ∨ x = nI 2 := by
    intro x h
    unfold insQ at h
    rw [Bool.and_eq_true, decide_eq_true_iff, decide_eq_true_iff, Int32.le_iff_toInt_le, Int32.le_iff_toInt_le] at h
    have e1 : (nI 1).toInt = 1 := rfl
    have e2 : (nI 2).toInt = 2 := rfl
    have : x.toInt = 1 ∨ x.toInt = 2 := by omega
    rcases this with z | z
    · exact Or.inl (Int32.toInt_inj.mp (z.trans e1.symm))
    · exact Or.inr (Int32.toInt_inj.mp (z.trans e2.symm))
  have n12 : ¬ nI 1 = nI 2 := by decide
  refine ACz.of lcX2_isLogWhole rfl rfl (fun X Q ad hR ret => ?_)
  refine AW_ls (ls' := [_, _, _]) rfl ?_
  refine a_aload_n (pc := 0) dX2_isLogWhole_0 rfl ?_
  refine a_bipush (pc := 1) (nI 6) dX2_isLogWhole_1 (by decide) ?_
  refine a_ial (pc := 3) _ dX2_isLogWhole_3 rfl rfl (by omega) ?_
  refine a_istore_n (pc := 4) (ls' := [_, _, _]) dX2_isLogWhole_4 (Nat.le_of_ble_eq_true rfl) rfl ?_
  refine a_bipush (pc := 5) (nI 8) dX2_isLogWhole_5 (by decide) ?_
  refine a_istore_n (pc := 7) (ls' := [_, _, _]) dX2_isLogWhole_7 (Nat.le_of_ble_eq_true rfl) rfl ?_
  refine a_iload_n (pc := 8) dX2_isLogWhole_8 rfl ?_
  refine a_iconst (pc := 9) (nI 1) dX2_isLogWhole_9 (by decide) ?_
  generalize gA g 35 6 = x6 at ret ⊢
  have fin : AW mX2_isLogWhole X Q ad 0 0 (conc (SS kd kp rp) g) 47 [some (.ref 35), some (.int x6), some (.int (nI 8))] [] → AW mX2_isLogWhole X Q ad 0 0 (conc (SS kd kp rp) g) 47 [some (.ref 35), some (.int x6), some (.int (nI 8))] [] := id
  have last : insQ x6 (nI 1) (nI 2) = true → insQ (gA g 35 8) (nI 0) (nI 2) = true → (x6 = nI 1 ∨ insQ (gA g 35 11) (nI 0) (nI 2) = true) → AW mX2_isLogWhole X Q ad 0 0 (conc (SS kd kp rp) g) 47 [some (.ref 35), some (.int x6), some (.int (nI 8))] [] := by
    intro h1 h2 h3
    refine a_aload_n (pc := 47) dX2_isLogWhole_47 rfl ?_
    refine a_bipush (pc := 48) (nI 7) dX2_isLogWhole_48 (by decide) ?_
    refine a_ial (pc := 50) _ dX2_isLogWhole_50 rfl rfl (by omega) ?_
    refine a_iload_n (pc := 51) dX2_isLogWhole_51 rfl ?_
    refine a_aload_n (pc := 52) dX2_isLogWhole_52 rfl ?_
    refine a_iload_n (pc := 53) dX2_isLogWhole_53 rfl ?_
    refine a_ial (pc := 54) _ dX2_isLogWhole_54 rfl rfl (by omega) ?_
    refine a_aload_n (pc := 55) dX2_isLogWhole_55 rfl ?_
    refine a_iload_n (pc := 56) dX2_isLogWhole_56 rfl ?_
    refine a_iconst (pc := 57) (nI 1) dX2_isLogWhole_57 (by decide) ?_
    refine a_iadd (pc := 58) dX2_isLogWhole_58 ?_
    try rw [nI_add]
    refine a_ial (pc := 59) _ dX2_isLogWhole_59 rfl rfl (by omega) ?_
    refine a_aload_n (pc := 60) dX2_isLogWhole_60 rfl ?_
    refine a_iload_n (pc := 61) dX2_isLogWhole_61 rfl ?_
    refine a_iconst (pc := 62) (nI 2) dX2_isLogWhole_62 (by decide) ?_
    refine a_iadd (pc := 63) dX2_isLogWhole_63 ?_
    try rw [nI_add]
    refine a_ial (pc := 64) _ dX2_isLogWhole_64 rfl rfl (by omega) ?_
    refine a_aload_n (pc := 65) dX2_isLogWhole_65 rfl ?_
    refine a_iload_n (pc := 66) dX2_isLogWhole_66 rfl ?_
    refine a_iconst (pc := 67) (nI 3) dX2_isLogWhole_67 (by decide) ?_
    refine a_iadd (pc := 68) dX2_isLogWhole_68 ?_
    try rw [nI_add]
    refine a_ial (pc := 69) _ dX2_isLogWhole_69 rfl rfl (by omega) ?_
    refine a_aload_n (pc := 70) dX2_isLogWhole_70 rfl ?_
    refine a_iload_n (pc := 71) dX2_isLogWhole_71 rfl ?_
    refine a_iconst (pc := 72) (nI 4) dX2_isLogWhole_72 (by decide) ?_
    refine a_iadd (pc := 73) dX2_isLogWhole_73 ?_
    try rw [nI_add]
    refine a_ial (pc := 74) _ dX2_isLogWhole_74 rfl rfl (by omega) ?_
    refine a_aload_n (pc := 75) dX2_isLogWhole_75 rfl ?_
    refine a_iload_n (pc := 76) dX2_isLogWhole_76 rfl ?_
    refine a_iconst (pc := 77) (nI 5) dX2_isLogWhole_77 (by decide) ?_
    refine a_iadd (pc := 78) dX2_isLogWhole_78 ?_
    try rw [nI_add]
    refine a_ial (pc := 79) _ dX2_isLogWhole_79 rfl rfl (by omega) ?_
    refine a_S7i (pc := 80) dX2_isLogWhole_80 lcX2_sum lX2_18 (fit_of hR (by omega) rfl) (c_ksum (d0 := d0) x6 (gA g 35 8) (gA g 35 9) (gA g 35 10) (gA g 35 11) (gA g 35 12) (gA g 35 13)) rfl rfl (ex_i ?_)
    refine a_icmp_ne (pc := 83) 90 dX2_isLogWhole_83 (by decide) (fun c5 => ?_) (fun c5 => ?_)
    · refine a_iconst (pc := 90) (nI 0) dX2_isLogWhole_90 (by decide) ?_
      refine ret _ _ 91 _ _ dX2_isLogWhole_91 rfl (by first | exact Or.inl rfl | exact Or.inr rfl | exact bI_01 _) ?_
      exact ⟨rfl, rfl, false, rfl, ⟨fun z => absurd z (by decide), fun z => absurd z.2.1 c5⟩⟩
    · refine a_iconst (pc := 86) (nI 1) dX2_isLogWhole_86 (by decide) ?_
      refine a_goto (pc := 87) 91 dX2_isLogWhole_87 (by decide) ?_
      refine ret _ _ 91 _ _ dX2_isLogWhole_91 rfl (by first | exact Or.inl rfl | exact Or.inr rfl | exact bI_01 _) ?_
      exact ⟨rfl, rfl, true, rfl, ⟨fun _ => ⟨h1, c5, h2, h3⟩, fun _ => rfl⟩⟩
  have mid : insQ x6 (nI 1) (nI 2) = true → AW mX2_isLogWhole X Q ad 0 0 (conc (SS kd kp rp) g) 18 [some (.ref 35), some (.int x6), some (.int (nI 8))] [] := by
    intro h1
    refine a_aload_n (pc := 18) dX2_isLogWhole_18 rfl ?_
    refine a_iload_n (pc := 19) dX2_isLogWhole_19 rfl ?_
    refine a_ial (pc := 20) _ dX2_isLogWhole_20 rfl rfl (by omega) ?_
    refine a_S1i (pc := 21) dX2_isLogWhole_21 lcX10_isKey lX2_43 (fit_of hR (by omega) rfl) (c_isKey (d0 := d0) (gA g 35 8)) rfl rfl (ex_i ?_)
    refine a_if_neB (pc := 24) 29 dX2_isLogWhole_24 (by decide) (fun c3 => ?_) (fun c3 => ?_)
    · refine a_iload_n (pc := 29) dX2_isLogWhole_29 rfl ?_
      refine a_iconst (pc := 30) (nI 2) dX2_isLogWhole_30 (by decide) ?_
      refine a_icmp_ne (pc := 31) 47 dX2_isLogWhole_31 (by decide) (fun c4 => ?_) (fun c4 => ?_)
      · rcases q3 x6 h1 with z | z
        · exact last h1 c3 (Or.inl z)
        · exact absurd z c4
      · refine a_aload_n (pc := 34) dX2_isLogWhole_34 rfl ?_
        refine a_iload_n (pc := 35) dX2_isLogWhole_35 rfl ?_
        refine a_iconst (pc := 36) (nI 3) dX2_isLogWhole_36 (by decide) ?_
        refine a_iadd (pc := 37) dX2_isLogWhole_37 ?_
        try rw [nI_add]
        refine a_ial (pc := 38) _ dX2_isLogWhole_38 rfl rfl (by omega) ?_
        refine a_S1i (pc := 39) dX2_isLogWhole_39 lcX10_isKey lX2_43 (fit_of hR (by omega) rfl) (c_isKey (d0 := d0) (gA g 35 11)) rfl rfl (ex_i ?_)
        refine a_if_neB (pc := 42) 47 dX2_isLogWhole_42 (by decide) (fun c5 => ?_) (fun c5 => ?_)
        · exact last h1 c3 (Or.inr c5)
        · refine a_iconst (pc := 45) (nI 0) dX2_isLogWhole_45 (by decide) ?_
          refine ret _ _ 46 _ _ dX2_isLogWhole_46 rfl (by first | exact Or.inl rfl | exact Or.inr rfl | exact bI_01 _) ?_
          refine ⟨rfl, rfl, false, rfl, ⟨fun z => absurd z (by decide), fun z => ?_⟩⟩
          rcases z.2.2.2 with z | z
          · exact absurd (z.symm.trans c4) n12
          · exact absurd (z.symm.trans c5) (by decide)
    · refine a_iconst (pc := 27) (nI 0) dX2_isLogWhole_27 (by decide) ?_
      refine ret _ _ 28 _ _ dX2_isLogWhole_28 rfl (by first | exact Or.inl rfl | exact Or.inr rfl | exact bI_01 _) ?_
      exact ⟨rfl, rfl, false, rfl, ⟨fun z => absurd z (by decide), fun z => absurd (z.2.2.1.symm.trans c3) (by decide)⟩⟩
  refine a_icmp_eq (pc := 10) 18 dX2_isLogWhole_10 (by decide) (fun c1 => ?_) (fun c1 => ?_)
  · exact mid (by rw [c1]; exact q1)
  · refine a_iload_n (pc := 13) dX2_isLogWhole_13 rfl ?_
    refine a_iconst (pc := 14) (nI 2) dX2_isLogWhole_14 (by decide) ?_
    refine a_icmp_ne (pc := 15) 27 dX2_isLogWhole_15 (by decide) (fun c2 => ?_) (fun c2 => ?_)
    · refine a_iconst (pc := 27) (nI 0) dX2_isLogWhole_27 (by decide) ?_
      refine ret _ _ 28 _ _ dX2_isLogWhole_28 rfl (by first | exact Or.inl rfl | exact Or.inr rfl | exact bI_01 _) ?_
      refine ⟨rfl, rfl, false, rfl, ⟨fun z => absurd z (by decide), fun z => ?_⟩⟩
      rcases q3 x6 z.1 with z | z
      · exact absurd z c1
      · exact absurd z c2
    · exact mid (by rw [c2]; exact q2)
set_option maxRecDepth 100000 in
theorem c_well1_35 {d0 kd kp rp : Nat} {g : GH} : ACi mX2_allIsWell d0 (SS kd kp rp) g [.ref 72, .ref 35] (fun r S' g' => S' = SS kd kp rp ∧ g' = g ∧ r = bI (decide (gA g 35 6 = 0 ∧ gA g 35 7 = 0))) := by
  refine ACz.of lcX2_allIsWell rfl rfl (fun X Q ad hR ret => ?_)
  refine AW_ls (ls' := [_, _]) rfl ?_
  refine a_aload_n (pc := 0) dX2_allIsWell_0 rfl ?_
  refine a_bipush (pc := 1) (nI 6) dX2_allIsWell_1 (by decide) ?_
  refine a_ial (pc := 3) _ dX2_allIsWell_3 rfl rfl (by omega) ?_
  refine a_if_ne (pc := 4) 18 dX2_allIsWell_4 (by decide) (fun c1 => ?_) (fun c1 => ?_)
  · refine a_iconst (pc := 18) (nI 0) dX2_allIsWell_18 (by decide) ?_
    refine ret _ _ 19 _ _ dX2_allIsWell_19 rfl (by first | exact Or.inl rfl | exact Or.inr rfl | exact bI_01 _) ?_
    exact ⟨rfl, rfl, (bI_ndec _ (fun z => c1 z.1)).symm⟩
  · refine a_aload_n (pc := 7) dX2_allIsWell_7 rfl ?_
    refine a_bipush (pc := 8) (nI 7) dX2_allIsWell_8 (by decide) ?_
    refine a_ial (pc := 10) _ dX2_allIsWell_10 rfl rfl (by omega) ?_
    refine a_if_ne (pc := 11) 18 dX2_allIsWell_11 (by decide) (fun c2 => ?_) (fun c2 => ?_)
    · refine a_iconst (pc := 18) (nI 0) dX2_allIsWell_18 (by decide) ?_
      refine ret _ _ 19 _ _ dX2_allIsWell_19 rfl (by first | exact Or.inl rfl | exact Or.inr rfl | exact bI_01 _) ?_
      exact ⟨rfl, rfl, (bI_ndec _ (fun z => c2 z.2)).symm⟩
    · refine a_iconst (pc := 14) (nI 1) dX2_allIsWell_14 (by decide) ?_
      refine a_goto (pc := 15) 19 dX2_allIsWell_15 (by decide) ?_
      refine ret _ _ 19 _ _ dX2_allIsWell_19 rfl (by first | exact Or.inl rfl | exact Or.inr rfl | exact bI_01 _) ?_
      exact ⟨rfl, rfl, (bI_dec _ ⟨c1, c2⟩).symm⟩
set_option maxHeartbeats 1000000 in
set_option maxRecDepth 100000 in
theorem c_pris1_17 {d0 kd kp rp : Nat} {g : GH} (m : Nat) (hm : m < 16) (hP : PL 17 g []) (h4 : gF g 17 4 = nI m) : ACv mX2_planRising (d0 + 2) (SS kd kp rp) g [.ref 72, .ref 3, .ref 17] (fun S' g' => S' = SS kd kp rp ∧ PL 17 g' (risQ (gA g 3) 1 (spB 1 m)) ∧ Fr [17, 18, 19, 20] g g') := by
  have f6 := fnc_len (spB 1 m) 6
  have f7 := fnc_len (spB 1 m) 7
  have er : risQ (gA g 3) 1 (spB 1 m) = ris1 (spB 1 m) (gA g 3 6) (gA g 3 7) (gA g 3 8) (gA g 3 9) (gA g 3 10) (gA g 3 11) (gA g 3 12) (gA g 3 13) := rfl
  rw [er]
  refine ACv.of lcX2_planRising rfl rfl (fun X Q ad hR ret => ?_)
  refine AW_ls (ls' := [_, _, _, _]) rfl ?_
  refine a_aload_n (pc := 0) dX2_planRising_0 rfl ?_
  refine a_S1i (pc := 1) dX2_planRising_1 lcX2_isLogWhole lX2_36 (fit_of hR (by omega) rfl) (c_isLog_3 (d0 := d0)) rfl rfl (fun rr S' g' hS hp => ?_)
  obtain ⟨rfl, hg, b, rfl, hb⟩ := hp
  have hg := hg.symm
  subst hg
  refine a_if_eqB (pc := 4) 66 dX2_planRising_4 (by decide) (fun c1 => ?_) (fun c1 => ?_)
  · have hno : ¬ _ := fun z => absurd ((hb.mpr z).symm.trans c1) (by decide)
    rw [ris1, if_neg hno] at ret
    refine a_aload_n (pc := 66) dX2_planRising_66 rfl ?_
    refine a_aload_n (pc := 67) dX2_planRising_67 rfl ?_
    refine a_V1i (pc := 68) 1 dX2_planRising_68 lcX2_allIsWell lX2_40 rfl rfl rfl (fit_of hR (by omega) rfl) (c_well1_3 (d0 := d0)) rfl rfl (ex_i ?_)
    refine a_if_neB (pc := 71) 78 dX2_planRising_71 (by decide) (fun c2 => ?_) (fun c2 => ?_)
    · have c2 := of_decide_eq_true c2
      refine ret _ _ 78 _ dX2_planRising_78 rfl ?_
      rw [if_neg (by rintro (z | z); exact z c2.1; exact z c2.2)]
      exact ⟨rfl, hP, Fr.rf _ _⟩
    · have c2 := of_decide_eq_false c2
      rw [if_pos (by
        by_cases z : gA g 3 6 = 0
        · exact Or.inr (fun y => c2 ⟨z, y⟩)
        · exact Or.inl z)] at ret
      refine a_aload_n (pc := 74) dX2_planRising_74 rfl ?_
      refine a_S1v (pc := 75) dX2_planRising_75 lcX2_planUnmark lX2_32 (fit_of hR (by omega) rfl) (c_unmark_17 (d0 := d0) [] m hP (by decide) hm h4) rfl rfl (fun S' g' hS hp => ?_)
      obtain ⟨rfl, hP1, hf1⟩ := hp
      refine ret _ _ 78 _ dX2_planRising_78 rfl ?_
      exact ⟨rfl, hP1, hf1⟩
  · have hyes := hb.mp c1
    rw [ris1, if_pos hyes] at ret
    refine a_bipush (pc := 7) (nI 8) dX2_planRising_7 (by decide) ?_
    refine a_istore_n (pc := 9) (ls' := [_, _, _, _]) dX2_planRising_9 (Nat.le_of_ble_eq_true rfl) rfl ?_
    refine a_aload_n (pc := 10) dX2_planRising_10 rfl ?_
    refine a_aload_n (pc := 11) dX2_planRising_11 rfl ?_
    refine a_iload_n (pc := 12) dX2_planRising_12 rfl ?_
    refine a_ial (pc := 13) _ dX2_planRising_13 rfl rfl (by omega) ?_
    refine a_aload_n (pc := 14) dX2_planRising_14 rfl ?_
    refine a_iload_n (pc := 15) dX2_planRising_15 rfl ?_
    refine a_iconst (pc := 16) (nI 1) dX2_planRising_16 (by decide) ?_
    refine a_iadd (pc := 17) dX2_planRising_17 ?_
    try rw [nI_add]
    refine a_ial (pc := 18) _ dX2_planRising_18 rfl rfl (by omega) ?_
    refine a_aload_n (pc := 19) dX2_planRising_19 rfl ?_
    refine a_iload_n (pc := 20) dX2_planRising_20 rfl ?_
    refine a_iconst (pc := 21) (nI 2) dX2_planRising_21 (by decide) ?_
    refine a_iadd (pc := 22) dX2_planRising_22 ?_
    try rw [nI_add]
    refine a_ial (pc := 23) _ dX2_planRising_23 rfl rfl (by omega) ?_
    refine a_V3v (pc := 24) 4 dX2_planRising_24 lcX5_planWrite lX2_22 rfl rfl rfl (fit_of hR (by omega) rfl) (c_planW_17 (d0 := d0) [] (gA g 3 8) (gA g 3 9) (gA g 3 10) hP (by simp)) rfl rfl (fun S' g' hS hp => ?_)
    obtain ⟨rfl, hP1, q1, hf1⟩ := hp
    have hg1 : g' = g' := rfl
    generalize g' = g1 at hP1 q1 hf1 ⊢
    have ec : gA g1 3 = gA g 3 := hf1.a (by decide)
    have tail : ∀ (g2 : GH) (L : List En), PL 17 g2 L → L.length ≤ 2 → L = [(gA g 3 8, gA g 3 9, gA g 3 10)] ++ (if gA g 3 6 = nI 2 then [(gA g 3 11, gA g 3 12, gA g 3 13)] else []) → gF g2 17 4 = nI m → Fr [17, 18, 19, 20] g g2 → AW mX2_planRising X Q ad 0 0 (conc (SS kd kp rp) g2) 54 [some (.ref 72), some (.ref 3), some (.ref 17), some (.int (nI 8))] [] := by
      intro g2 L hL hl hfin e4 hfr
      refine a_aload_n (pc := 54) dX2_planRising_54 rfl ?_
      refine a_iconst (pc := 55) (nI 2) dX2_planRising_55 (by decide) ?_
      refine a_V1v (pc := 56) 4 dX2_planRising_56 lcX5_planFence lX2_28 rfl rfl rfl (fit_of hR (by omega) rfl) (c_planF_17 (d0 := d0) L 1 m 2 hL (by omega) hm (by decide) e4) rfl rfl (fun S' g' hS hp => ?_)
      obtain ⟨rfl, hP8, q8, hf8⟩ := hp
      change PL 17 _ (_ ++ fnc (spB 1 m) 6) at hP8
      refine a_aload_n (pc := 59) dX2_planRising_59 rfl ?_
      refine a_S1v (pc := 60) dX2_planRising_60 lcX2_planUnmark lX2_32 (fit_of hR (by omega) rfl) (c_unmark_17 (d0 := d0) _ m hP8 (by simp; omega) hm (q8.trans e4)) rfl rfl (fun S' g' hS hp => ?_)
      obtain ⟨rfl, hP9, hf9⟩ := hp
      refine a_goto (pc := 63) 78 dX2_planRising_63 (by decide) ?_
      refine ret _ _ 78 _ dX2_planRising_78 rfl ?_
      rw [hfin] at hP9
      exact ⟨rfl, hP9, hfr.tr (hf8.tr hf9)⟩
    refine a_aload_n (pc := 27) dX2_planRising_27 rfl ?_
    refine a_bipush (pc := 28) (nI 6) dX2_planRising_28 (by decide) ?_
    refine a_ial (pc := 30) _ dX2_planRising_30 rfl rfl (by omega) ?_
    rw [ec]
    refine a_iconst (pc := 31) (nI 2) dX2_planRising_31 (by decide) ?_
    refine a_icmp_ne (pc := 32) 54 dX2_planRising_32 (by decide) (fun c3 => ?_) (fun c3 => ?_)
    · refine tail _ _ hP1 (by simp) ?_ (q1.trans h4) hf1
      rw [if_neg c3]
      rfl
    · refine a_aload_n (pc := 35) dX2_planRising_35 rfl ?_
      refine a_aload_n (pc := 36) dX2_planRising_36 rfl ?_
      refine a_iload_n (pc := 37) dX2_planRising_37 rfl ?_
      refine a_iconst (pc := 38) (nI 3) dX2_planRising_38 (by decide) ?_
      refine a_iadd (pc := 39) dX2_planRising_39 ?_
      try rw [nI_add]
      refine a_ial (pc := 40) _ dX2_planRising_40 rfl rfl (by omega) ?_
      refine a_aload_n (pc := 41) dX2_planRising_41 rfl ?_
      refine a_iload_n (pc := 42) dX2_planRising_42 rfl ?_
      refine a_iconst (pc := 43) (nI 4) dX2_planRising_43 (by decide) ?_
      refine a_iadd (pc := 44) dX2_planRising_44 ?_
      try rw [nI_add]
      refine a_ial (pc := 45) _ dX2_planRising_45 rfl rfl (by omega) ?_
      refine a_aload_n (pc := 46) dX2_planRising_46 rfl ?_
      refine a_iload_n (pc := 47) dX2_planRising_47 rfl ?_
      refine a_iconst (pc := 48) (nI 5) dX2_planRising_48 (by decide) ?_
      refine a_iadd (pc := 49) dX2_planRising_49 ?_
      try rw [nI_add]
      refine a_ial (pc := 50) _ dX2_planRising_50 rfl rfl (by omega) ?_
      rw [ec]
      refine a_V3v (pc := 51) 4 dX2_planRising_51 lcX5_planWrite lX2_22 rfl rfl rfl (fit_of hR (by omega) rfl) (c_planW_17 (d0 := d0) _ (gA g 3 11) (gA g 3 12) (gA g 3 13) hP1 (by simp)) rfl rfl (fun S' g' hS hp => ?_)
      obtain ⟨rfl, hP2, q2, hf2⟩ := hp
      refine tail _ _ hP2 (by simp) ?_ (q2.trans (q1.trans h4)) (hf1.tr hf2)
      rw [if_pos c3]
      rfl
set_option maxHeartbeats 1000000 in
set_option maxRecDepth 100000 in
theorem c_pris1_47 {d0 kd kp rp : Nat} {g : GH} (m : Nat) (hm : m < 16) (hP : PL 47 g []) (h4 : gF g 47 4 = nI m) : ACv mX2_planRising (d0 + 2) (SS kd kp rp) g [.ref 72, .ref 35, .ref 47] (fun S' g' => S' = SS kd kp rp ∧ PL 47 g' (risQ (gA g 35) 1 (spB 1 m)) ∧ Fr [47, 48, 49, 50] g g') := by
  have f6 := fnc_len (spB 1 m) 6
  have f7 := fnc_len (spB 1 m) 7
  have er : risQ (gA g 35) 1 (spB 1 m) = ris1 (spB 1 m) (gA g 35 6) (gA g 35 7) (gA g 35 8) (gA g 35 9) (gA g 35 10) (gA g 35 11) (gA g 35 12) (gA g 35 13) := rfl
  rw [er]
  refine ACv.of lcX2_planRising rfl rfl (fun X Q ad hR ret => ?_)
  refine AW_ls (ls' := [_, _, _, _]) rfl ?_
  refine a_aload_n (pc := 0) dX2_planRising_0 rfl ?_
  refine a_S1i (pc := 1) dX2_planRising_1 lcX2_isLogWhole lX2_36 (fit_of hR (by omega) rfl) (c_isLog_35 (d0 := d0)) rfl rfl (fun rr S' g' hS hp => ?_)
  obtain ⟨rfl, hg, b, rfl, hb⟩ := hp
  have hg := hg.symm
  subst hg
  refine a_if_eqB (pc := 4) 66 dX2_planRising_4 (by decide) (fun c1 => ?_) (fun c1 => ?_)
  · have hno : ¬ _ := fun z => absurd ((hb.mpr z).symm.trans c1) (by decide)
    rw [ris1, if_neg hno] at ret
    refine a_aload_n (pc := 66) dX2_planRising_66 rfl ?_
    refine a_aload_n (pc := 67) dX2_planRising_67 rfl ?_
    refine a_V1i (pc := 68) 1 dX2_planRising_68 lcX2_allIsWell lX2_40 rfl rfl rfl (fit_of hR (by omega) rfl) (c_well1_35 (d0 := d0)) rfl rfl (ex_i ?_)
    refine a_if_neB (pc := 71) 78 dX2_planRising_71 (by decide) (fun c2 => ?_) (fun c2 => ?_)
    · have c2 := of_decide_eq_true c2
      refine ret _ _ 78 _ dX2_planRising_78 rfl ?_
      rw [if_neg (by rintro (z | z); exact z c2.1; exact z c2.2)]
      exact ⟨rfl, hP, Fr.rf _ _⟩
    · have c2 := of_decide_eq_false c2
      rw [if_pos (by
        by_cases z : gA g 35 6 = 0
        · exact Or.inr (fun y => c2 ⟨z, y⟩)
        · exact Or.inl z)] at ret
      refine a_aload_n (pc := 74) dX2_planRising_74 rfl ?_
      refine a_S1v (pc := 75) dX2_planRising_75 lcX2_planUnmark lX2_32 (fit_of hR (by omega) rfl) (c_unmark_47 (d0 := d0) [] m hP (by decide) hm h4) rfl rfl (fun S' g' hS hp => ?_)
      obtain ⟨rfl, hP1, hf1⟩ := hp
      refine ret _ _ 78 _ dX2_planRising_78 rfl ?_
      exact ⟨rfl, hP1, hf1⟩
  · have hyes := hb.mp c1
    rw [ris1, if_pos hyes] at ret
    refine a_bipush (pc := 7) (nI 8) dX2_planRising_7 (by decide) ?_
    refine a_istore_n (pc := 9) (ls' := [_, _, _, _]) dX2_planRising_9 (Nat.le_of_ble_eq_true rfl) rfl ?_
    refine a_aload_n (pc := 10) dX2_planRising_10 rfl ?_
    refine a_aload_n (pc := 11) dX2_planRising_11 rfl ?_
    refine a_iload_n (pc := 12) dX2_planRising_12 rfl ?_
    refine a_ial (pc := 13) _ dX2_planRising_13 rfl rfl (by omega) ?_
    refine a_aload_n (pc := 14) dX2_planRising_14 rfl ?_
    refine a_iload_n (pc := 15) dX2_planRising_15 rfl ?_
    refine a_iconst (pc := 16) (nI 1) dX2_planRising_16 (by decide) ?_
    refine a_iadd (pc := 17) dX2_planRising_17 ?_
    try rw [nI_add]
    refine a_ial (pc := 18) _ dX2_planRising_18 rfl rfl (by omega) ?_
    refine a_aload_n (pc := 19) dX2_planRising_19 rfl ?_
    refine a_iload_n (pc := 20) dX2_planRising_20 rfl ?_
    refine a_iconst (pc := 21) (nI 2) dX2_planRising_21 (by decide) ?_
    refine a_iadd (pc := 22) dX2_planRising_22 ?_
    try rw [nI_add]
    refine a_ial (pc := 23) _ dX2_planRising_23 rfl rfl (by omega) ?_
    refine a_V3v (pc := 24) 4 dX2_planRising_24 lcX5_planWrite lX2_22 rfl rfl rfl (fit_of hR (by omega) rfl) (c_planW_47 (d0 := d0) [] (gA g 35 8) (gA g 35 9) (gA g 35 10) hP (by simp)) rfl rfl (fun S' g' hS hp => ?_)
    obtain ⟨rfl, hP1, q1, hf1⟩ := hp
    have hg1 : g' = g' := rfl
    generalize g' = g1 at hP1 q1 hf1 ⊢
    have ec : gA g1 35 = gA g 35 := hf1.a (by decide)
    have tail : ∀ (g2 : GH) (L : List En), PL 47 g2 L → L.length ≤ 2 → L = [(gA g 35 8, gA g 35 9, gA g 35 10)] ++ (if gA g 35 6 = nI 2 then [(gA g 35 11, gA g 35 12, gA g 35 13)] else []) → gF g2 47 4 = nI m → Fr [47, 48, 49, 50] g g2 → AW mX2_planRising X Q ad 0 0 (conc (SS kd kp rp) g2) 54 [some (.ref 72), some (.ref 35), some (.ref 47), some (.int (nI 8))] [] := by
      intro g2 L hL hl hfin e4 hfr
      refine a_aload_n (pc := 54) dX2_planRising_54 rfl ?_
      refine a_iconst (pc := 55) (nI 2) dX2_planRising_55 (by decide) ?_
      refine a_V1v (pc := 56) 4 dX2_planRising_56 lcX5_planFence lX2_28 rfl rfl rfl (fit_of hR (by omega) rfl) (c_planF_47 (d0 := d0) L 1 m 2 hL (by omega) hm (by decide) e4) rfl rfl (fun S' g' hS hp => ?_)
      obtain ⟨rfl, hP8, q8, hf8⟩ := hp
      change PL 47 _ (_ ++ fnc (spB 1 m) 6) at hP8
      refine a_aload_n (pc := 59) dX2_planRising_59 rfl ?_
      refine a_S1v (pc := 60) dX2_planRising_60 lcX2_planUnmark lX2_32 (fit_of hR (by omega) rfl) (c_unmark_47 (d0 := d0) _ m hP8 (by simp; omega) hm (q8.trans e4)) rfl rfl (fun S' g' hS hp => ?_)
      obtain ⟨rfl, hP9, hf9⟩ := hp
      refine a_goto (pc := 63) 78 dX2_planRising_63 (by decide) ?_
      refine ret _ _ 78 _ dX2_planRising_78 rfl ?_
      rw [hfin] at hP9
      exact ⟨rfl, hP9, hfr.tr (hf8.tr hf9)⟩
    refine a_aload_n (pc := 27) dX2_planRising_27 rfl ?_
    refine a_bipush (pc := 28) (nI 6) dX2_planRising_28 (by decide) ?_
    refine a_ial (pc := 30) _ dX2_planRising_30 rfl rfl (by omega) ?_
    rw [ec]
    refine a_iconst (pc := 31) (nI 2) dX2_planRising_31 (by decide) ?_
    refine a_icmp_ne (pc := 32) 54 dX2_planRising_32 (by decide) (fun c3 => ?_) (fun c3 => ?_)
    · refine tail _ _ hP1 (by simp) ?_ (q1.trans h4) hf1
      rw [if_neg c3]
      rfl
    · refine a_aload_n (pc := 35) dX2_planRising_35 rfl ?_
      refine a_aload_n (pc := 36) dX2_planRising_36 rfl ?_
      refine a_iload_n (pc := 37) dX2_planRising_37 rfl ?_
      refine a_iconst (pc := 38) (nI 3) dX2_planRising_38 (by decide) ?_
      refine a_iadd (pc := 39) dX2_planRising_39 ?_
      try rw [nI_add]
      refine a_ial (pc := 40) _ dX2_planRising_40 rfl rfl (by omega) ?_
      refine a_aload_n (pc := 41) dX2_planRising_41 rfl ?_
      refine a_iload_n (pc := 42) dX2_planRising_42 rfl ?_
      refine a_iconst (pc := 43) (nI 4) dX2_planRising_43 (by decide) ?_
      refine a_iadd (pc := 44) dX2_planRising_44 ?_
      try rw [nI_add]
      refine a_ial (pc := 45) _ dX2_planRising_45 rfl rfl (by omega) ?_
      refine a_aload_n (pc := 46) dX2_planRising_46 rfl ?_
      refine a_iload_n (pc := 47) dX2_planRising_47 rfl ?_
      refine a_iconst (pc := 48) (nI 5) dX2_planRising_48 (by decide) ?_
      refine a_iadd (pc := 49) dX2_planRising_49 ?_
      try rw [nI_add]
      refine a_ial (pc := 50) _ dX2_planRising_50 rfl rfl (by omega) ?_
      rw [ec]
      refine a_V3v (pc := 51) 4 dX2_planRising_51 lcX5_planWrite lX2_22 rfl rfl rfl (fit_of hR (by omega) rfl) (c_planW_47 (d0 := d0) _ (gA g 35 11) (gA g 35 12) (gA g 35 13) hP1 (by simp)) rfl rfl (fun S' g' hS hp => ?_)
      obtain ⟨rfl, hP2, q2, hf2⟩ := hp
      refine tail _ _ hP2 (by simp) ?_ (q2.trans (q1.trans h4)) (hf1.tr hf2)
      rw [if_pos c3]
      rfl
