set_option maxRecDepth 100000 in
theorem c_isSector {d0 : Nat} {S : sH} {g : GH} (x : Int32) : ACi mX10_isSector d0 S g [.int x] (fun r S' g' => S' = S ∧ g' = g ∧ r = bI (insQ x (nI 0) (nI 15))) := by
  have h15 : ∀ x : Int32, insQ x (nI 0) (nI 15) = true ↔ 0 ≤ x ∧ x ≤ nI 15 := fun x => by
    unfold insQ
    rw [Bool.and_eq_true, decide_eq_true_iff, decide_eq_true_iff]
    rfl
  refine ACz.of lcX10_isSector rfl rfl (fun X Q ad hR ret => ?_)
  refine AW_ls (ls' := [_]) rfl ?_
  refine a_iload_n (pc := 0) dX10_isSector_0 rfl ?_
  refine a_if_lt (pc := 1) 14 dX10_isSector_1 (by decide) (fun c1 => ?_) (fun c1 => ?_)
  · refine a_iconst (pc := 14) (nI 0) dX10_isSector_14 (by decide) ?_
    refine ret _ _ 15 _ _ dX10_isSector_15 rfl (by first | exact Or.inl rfl | exact Or.inr rfl | exact bI_01 _) ?_
    refine ⟨rfl, rfl, ?_⟩
    have : insQ x (nI 0) (nI 15) = false := Bool.eq_false_iff.mpr (fun z => absurd c1 (Int32.not_lt.mpr ((h15 x).mp z).1))
    rw [this]
    rfl
  · refine a_iload_n (pc := 4) dX10_isSector_4 rfl ?_
    refine a_bipush (pc := 5) (nI 16) dX10_isSector_5 (by decide) ?_
    refine a_icmp_ge (pc := 7) 14 dX10_isSector_7 (by decide) (fun c2 => ?_) (fun c2 => ?_)
    · refine a_iconst (pc := 14) (nI 0) dX10_isSector_14 (by decide) ?_
      refine ret _ _ 15 _ _ dX10_isSector_15 rfl (by first | exact Or.inl rfl | exact Or.inr rfl | exact bI_01 _) ?_
      refine ⟨rfl, rfl, ?_⟩
      have : insQ x (nI 0) (nI 15) = false := Bool.eq_false_iff.mpr (fun z => by
        have z2 := ((h15 x).mp z).2
        rw [Int32.le_iff_toInt_le] at c2 z2
        have e1 : (nI 16).toInt = 16 := rfl
        have e2 : (nI 15).toInt = 15 := rfl
        omega)
      rw [this]
      rfl
    · refine a_iconst (pc := 10) (nI 1) dX10_isSector_10 (by decide) ?_
      refine a_goto (pc := 11) 15 dX10_isSector_11 (by decide) ?_
      refine ret _ _ 15 _ _ dX10_isSector_15 rfl (by first | exact Or.inl rfl | exact Or.inr rfl | exact bI_01 _) ?_
      refine ⟨rfl, rfl, ?_⟩
      have : insQ x (nI 0) (nI 15) = true := (h15 x).mpr ⟨Int32.not_lt.mp c1, by
        have c2 := Int32.not_le.mp c2
        rw [Int32.lt_iff_toInt_lt] at c2
        rw [Int32.le_iff_toInt_le]
        have e1 : (nI 16).toInt = 16 := rfl
        have e2 : (nI 15).toInt = 15 := rfl
        omega⟩
      rw [this]
      rfl
set_option maxRecDepth 100000 in
theorem c_hasRoom_1 {d0 kd kp rp : Nat} {g : GH} (n m : Nat) (hn : gF g 1 6 = nI n) (hn60 : n ≤ 60) (hm : m ≤ 100) : ACi mX0_hasRoom d0 (SS kd kp rp) g [.ref 1, .int (nI m)] (fun r S' g' => S' = SS kd kp rp ∧ g' = g ∧ r = bI (decide (n + m ≤ 60))) := by
  refine ACz.of lcX0_hasRoom rfl rfl (fun X Q ad hR ret => ?_)
  refine AW_ls (ls' := [_, _]) rfl ?_
  refine a_aload_n (pc := 0) dX0_hasRoom_0 rfl ?_
  refine a_gi (pc := 1) dX0_hasRoom_1 fX0_30 rfl ?_
  rw [hn]
  refine a_iload_n (pc := 4) dX0_hasRoom_4 rfl ?_
  refine a_iadd (pc := 5) dX0_hasRoom_5 ?_
  try rw [nI_add]
  refine a_bipush (pc := 6) (nI 60) dX0_hasRoom_6 (by decide) ?_
  refine a_icmp_gtN (pc := 8) 15 dX0_hasRoom_8 (by decide) (by omega) (by omega) (fun c1 => ?_) (fun c1 => ?_)
  · refine a_iconst (pc := 15) (nI 0) dX0_hasRoom_15 (by decide) ?_
    refine ret _ _ 16 _ _ dX0_hasRoom_16 rfl (by first | exact Or.inl rfl | exact Or.inr rfl | exact bI_01 _) ?_
    exact ⟨rfl, rfl, (bI_ndec _ (by omega)).symm⟩
  · refine a_iconst (pc := 11) (nI 1) dX0_hasRoom_11 (by decide) ?_
    refine a_goto (pc := 12) 16 dX0_hasRoom_12 (by decide) ?_
    refine ret _ _ 16 _ _ dX0_hasRoom_16 rfl (by first | exact Or.inl rfl | exact Or.inr rfl | exact bI_01 _) ?_
    exact ⟨rfl, rfl, (bI_dec _ c1).symm⟩
set_option maxHeartbeats 1000000 in
set_option maxRecDepth 100000 in
theorem c_enqW_1 {d0 kd kp rp : Nat} {g : GH} (q : Qd) (s : Nat) (u v : Int32) (h : CD 1 g q) (hs : s < 16) (hl : q.2.length < 60) : ACv mX0_enqueueWrite (d0 + 1) (SS kd kp rp) g [.ref 1, .int (nI s), .int u, .int v] (fun S' g' => S' = SS kd kp rp ∧ CD 1 g' (q.1, q.2 ++ [(nI s, u, v)]) ∧ gF g' 1 11 = gF g 1 11 + nI 1 ∧ gF g' 1 12 = gF g 1 12 + nI 1 ∧ Fr [1, 2, 3, 4, 5, 6, 7] g g') := by
  have hsec : insQ (nI s) (nI 0) (nI 15) = true := (insQ_ok (by decide)).mpr ⟨s, by omega, rfl⟩
  obtain ⟨⟨h6, h60, h7, h8, h9, -⟩, -⟩ := id h
  have hwe := weN_le (qS q.2) q.2.length
  refine ACv.of lcX0_enqueueWrite rfl rfl (fun X Q ad hR ret => ?_)
  refine AW_ls (ls' := [_, _, _, _]) rfl ?_
  refine a_iload_n (pc := 0) dX0_enqueueWrite_0 rfl ?_
  refine a_S1i (pc := 1) dX0_enqueueWrite_1 lcX10_isSector lX0_53 (fit_of hR (by omega) rfl) (c_isSector (d0 := d0) (nI s)) rfl rfl (ex_i ?_)
  refine a_if_eqB (pc := 4) 16 dX0_enqueueWrite_4 (by decide) (fun c1 => ?_) (fun c1 => ?_)
  · exact absurd (c1.symm.trans hsec) (by decide)
  refine a_aload_n (pc := 7) dX0_enqueueWrite_7 rfl ?_
  refine a_gi (pc := 8) dX0_enqueueWrite_8 fX0_30 rfl ?_
  rw [h6]
  refine a_bipush (pc := 11) (nI 60) dX0_enqueueWrite_11 (by decide) ?_
  refine a_icmp_ltN (pc := 13) 17 dX0_enqueueWrite_13 (by decide) (by omega) (by omega) (fun c2 => ?_) (fun c2 => ?_)
  rotate_left
  · exact absurd c2 (by omega)
  have tail : ∀ g1 : GH, gF g1 1 8 = nI (weN (qS q.2) q.2.length + 1) → gF g1 1 9 = nI 0 → (∀ k, k ≠ 8 → k ≠ 9 → gF g1 1 k = gF g 1 k) → (∀ a, gA g1 a = gA g a) → Fr [1, 2, 3, 4, 5, 6, 7] g g1 → AW mX0_enqueueWrite X Q ad 0 0 (conc (SS kd kp rp) g1) 46 [some (.ref 1), some (.int (nI s)), some (.int u), some (.int v)] [] := by
    intro g1 e8 e9 eF eA hfr
    have e6 : gF g1 1 6 = nI q.2.length := (eF 6 (by decide) (by decide)).trans h6
    refine a_aload_n (pc := 46) dX0_enqueueWrite_46 rfl ?_
    refine a_gr (pc := 47) dX0_enqueueWrite_47 fX0_18 rfl ?_
    refine a_aload_n (pc := 50) dX0_enqueueWrite_50 rfl ?_
    refine a_gi (pc := 51) dX0_enqueueWrite_51 fX0_30 rfl ?_
    rw [e6]
    refine a_iload_n (pc := 54) dX0_enqueueWrite_54 rfl ?_
    refine a_ast (pc := 55) _ dX0_enqueueWrite_55 rfl rfl (by omega) ?_
    refine a_aload_n (pc := 56) dX0_enqueueWrite_56 rfl ?_
    refine a_gr (pc := 57) dX0_enqueueWrite_57 fX0_21 rfl ?_
    refine a_aload_n (pc := 60) dX0_enqueueWrite_60 rfl ?_
    refine a_gi (pc := 61) dX0_enqueueWrite_61 fX0_30 rfl ?_
    simp only [gF_pF, gF_pA, gF_pL, gA_pF, gA_pA, gA_pL, gL_pF, gL_pA, gL_pL, reduceIte, Nat.reduceEqDiff, and_false, false_and, and_true, true_and, and_self, e6]
    refine a_iload_n (pc := 64) dX0_enqueueWrite_64 rfl ?_
    refine a_ast (pc := 65) _ dX0_enqueueWrite_65 rfl rfl (by omega) ?_
    refine a_aload_n (pc := 66) dX0_enqueueWrite_66 rfl ?_
    refine a_gr (pc := 67) dX0_enqueueWrite_67 fX0_24 rfl ?_
    refine a_aload_n (pc := 70) dX0_enqueueWrite_70 rfl ?_
    refine a_gi (pc := 71) dX0_enqueueWrite_71 fX0_30 rfl ?_
    simp only [gF_pF, gF_pA, gF_pL, gA_pF, gA_pA, gA_pL, gL_pF, gL_pA, gL_pL, reduceIte, Nat.reduceEqDiff, and_false, false_and, and_true, true_and, and_self, e6]
    refine a_iload_n (pc := 74) dX0_enqueueWrite_74 rfl ?_
    refine a_ast (pc := 75) _ dX0_enqueueWrite_75 rfl rfl (by omega) ?_
    refine a_aload_n (pc := 76) dX0_enqueueWrite_76 rfl ?_
    refine a_gr (pc := 77) dX0_enqueueWrite_77 fX0_27 rfl ?_
    refine a_aload_n (pc := 80) dX0_enqueueWrite_80 rfl ?_
    refine a_gi (pc := 81) dX0_enqueueWrite_81 fX0_30 rfl ?_
    simp only [gF_pF, gF_pA, gF_pL, gA_pF, gA_pA, gA_pL, gL_pF, gL_pA, gL_pL, reduceIte, Nat.reduceEqDiff, and_false, false_and, and_true, true_and, and_self, e6]
    refine a_aload_n (pc := 84) dX0_enqueueWrite_84 rfl ?_
    refine a_gi (pc := 85) dX0_enqueueWrite_85 fX0_37 rfl ?_
    simp only [gF_pF, gF_pA, gF_pL, gA_pF, gA_pA, gA_pL, gL_pF, gL_pA, gL_pL, reduceIte, Nat.reduceEqDiff, and_false, false_and, and_true, true_and, and_self, e8]
    refine a_iconst (pc := 88) (nI 1) dX0_enqueueWrite_88 (by decide) ?_
    refine a_isub (pc := 89) dX0_enqueueWrite_89 ?_
    rw [show nI (weN (qS q.2) q.2.length + 1) - nI 1 = nI (weN (qS q.2) q.2.length) from (pk_sub (by omega)).trans (by rw [Nat.add_sub_cancel])]
    refine a_ast (pc := 90) _ dX0_enqueueWrite_90 rfl rfl (by omega) ?_
    refine a_aload_n (pc := 91) dX0_enqueueWrite_91 rfl ?_
    refine a_gr (pc := 92) dX0_enqueueWrite_92 fX0_15 rfl ?_
    refine a_iconst (pc := 95) (nI 2) dX0_enqueueWrite_95 (by decide) ?_
    refine a_iload_n (pc := 96) dX0_enqueueWrite_96 rfl ?_
    refine a_imul (pc := 97) dX0_enqueueWrite_97 ?_
    try rw [pk_mul]
    refine a_iload_n (pc := 98) dX0_enqueueWrite_98 rfl ?_
    refine a_ast (pc := 99) _ dX0_enqueueWrite_99 rfl rfl (by omega) ?_
    refine a_aload_n (pc := 100) dX0_enqueueWrite_100 rfl ?_
    refine a_gr (pc := 101) dX0_enqueueWrite_101 fX0_15 rfl ?_
    refine a_iconst (pc := 104) (nI 2) dX0_enqueueWrite_104 (by decide) ?_
    refine a_iload_n (pc := 105) dX0_enqueueWrite_105 rfl ?_
    refine a_imul (pc := 106) dX0_enqueueWrite_106 ?_
    try rw [pk_mul]
    refine a_iconst (pc := 107) (nI 1) dX0_enqueueWrite_107 (by decide) ?_
    refine a_iadd (pc := 108) dX0_enqueueWrite_108 ?_
    try rw [nI_add]
    refine a_iload_n (pc := 109) dX0_enqueueWrite_109 rfl ?_
    refine a_ast (pc := 110) _ dX0_enqueueWrite_110 rfl rfl (by omega) ?_
    refine a_aload_n (pc := 111) dX0_enqueueWrite_111 rfl ?_
    refine a_dup (pc := 112) dX0_enqueueWrite_112 rfl ?_
    refine a_gi (pc := 113) dX0_enqueueWrite_113 fX0_44 rfl ?_
    refine a_iconst (pc := 116) (nI 1) dX0_enqueueWrite_116 (by decide) ?_
    refine a_iload_n (pc := 117) dX0_enqueueWrite_117 rfl ?_
    refine a_ishl (pc := 118) dX0_enqueueWrite_118 ?_
    refine a_ior (pc := 119) dX0_enqueueWrite_119 ?_
    refine a_pi (pc := 120) dX0_enqueueWrite_120 fX0_44 rfl ?_
    refine a_aload_n (pc := 123) dX0_enqueueWrite_123 rfl ?_
    refine a_dup (pc := 124) dX0_enqueueWrite_124 rfl ?_
    refine a_gi (pc := 125) dX0_enqueueWrite_125 fX0_30 rfl ?_
    refine a_iconst (pc := 128) (nI 1) dX0_enqueueWrite_128 (by decide) ?_
    refine a_iadd (pc := 129) dX0_enqueueWrite_129 ?_
    try rw [nI_add]
    refine a_pi (pc := 130) dX0_enqueueWrite_130 fX0_30 rfl ?_
    refine a_aload_n (pc := 133) dX0_enqueueWrite_133 rfl ?_
    refine a_dup (pc := 134) dX0_enqueueWrite_134 rfl ?_
    refine a_gi (pc := 135) dX0_enqueueWrite_135 fX0_34 rfl ?_
    refine a_iconst (pc := 138) (nI 1) dX0_enqueueWrite_138 (by decide) ?_
    refine a_iadd (pc := 139) dX0_enqueueWrite_139 ?_
    try rw [nI_add]
    refine a_pi (pc := 140) dX0_enqueueWrite_140 fX0_34 rfl ?_
    refine a_aload_n (pc := 143) dX0_enqueueWrite_143 rfl ?_
    refine a_dup (pc := 144) dX0_enqueueWrite_144 rfl ?_
    refine a_gi (pc := 145) dX0_enqueueWrite_145 fX0_47 rfl ?_
    refine a_iconst (pc := 148) (nI 1) dX0_enqueueWrite_148 (by decide) ?_
    refine a_iadd (pc := 149) dX0_enqueueWrite_149 ?_
    try rw [nI_add]
    refine a_pi (pc := 150) dX0_enqueueWrite_150 fX0_47 rfl ?_
    refine a_aload_n (pc := 153) dX0_enqueueWrite_153 rfl ?_
    refine a_dup (pc := 154) dX0_enqueueWrite_154 rfl ?_
    refine a_gi (pc := 155) dX0_enqueueWrite_155 fX0_50 rfl ?_
    refine a_iconst (pc := 158) (nI 1) dX0_enqueueWrite_158 (by decide) ?_
    refine a_iadd (pc := 159) dX0_enqueueWrite_159 ?_
    try rw [nI_add]
    refine a_pi (pc := 160) dX0_enqueueWrite_160 fX0_50 rfl ?_
    refine ret _ _ 163 _ dX0_enqueueWrite_163 rfl ?_
    refine ⟨rfl, h.wr hs hl ?_ ?_ ?_ ?_ ?_ ?_ ?_ ?_ ?_ ?_ ?_, ?_, ?_, ?_⟩
    · simp only [gF_pF, gF_pA, gF_pL, gA_pF, gA_pA, gA_pL, gL_pF, gL_pA, gL_pL, reduceIte, Nat.reduceEqDiff, and_false, false_and, and_true, true_and, and_self, e6]
      rw [nI_add]
    · simp only [gF_pF, gF_pA, gF_pL, gA_pF, gA_pA, gA_pL, gL_pF, gL_pA, gL_pL, reduceIte, Nat.reduceEqDiff, and_false, false_and, and_true, true_and, and_self]
      rw [eF 7 (by decide) (by decide)]
    · simp only [gF_pF, gF_pA, gF_pL, gA_pF, gA_pA, gA_pL, gL_pF, gL_pA, gL_pL, reduceIte, Nat.reduceEqDiff, and_false, false_and, and_true, true_and, and_self, e8]
    · simp only [gF_pF, gF_pA, gF_pL, gA_pF, gA_pA, gA_pL, gL_pF, gL_pA, gL_pL, reduceIte, Nat.reduceEqDiff, and_false, false_and, and_true, true_and, and_self, e9]
    · simp only [gF_pF, gF_pA, gF_pL, gA_pF, gA_pA, gA_pL, gL_pF, gL_pA, gL_pL, reduceIte, Nat.reduceEqDiff, and_false, false_and, and_true, true_and, and_self]
      rw [eF 10 (by decide) (by decide)]
    · simp only [gF_pF, gF_pA, gF_pL, gA_pF, gA_pA, gA_pL, gL_pF, gL_pA, gL_pL, reduceIte, Nat.reduceEqDiff, and_false, false_and, and_true, true_and, and_self, eA]
    · simp only [gF_pF, gF_pA, gF_pL, gA_pF, gA_pA, gA_pL, gL_pF, gL_pA, gL_pL, reduceIte, Nat.reduceEqDiff, and_false, false_and, and_true, true_and, and_self, eA]
    · simp only [gF_pF, gF_pA, gF_pL, gA_pF, gA_pA, gA_pL, gL_pF, gL_pA, gL_pL, reduceIte, Nat.reduceEqDiff, and_false, false_and, and_true, true_and, and_self, eA]
    · simp only [gF_pF, gF_pA, gF_pL, gA_pF, gA_pA, gA_pL, gL_pF, gL_pA, gL_pL, reduceIte, Nat.reduceEqDiff, and_false, false_and, and_true, true_and, and_self, eA]
    · simp only [gF_pF, gF_pA, gF_pL, gA_pF, gA_pA, gA_pL, gL_pF, gL_pA, gL_pL, reduceIte, Nat.reduceEqDiff, and_false, false_and, and_true, true_and, and_self, eA]
    · simp only [gF_pF, gF_pA, gF_pL, gA_pF, gA_pA, gA_pL, gL_pF, gL_pA, gL_pL, reduceIte, Nat.reduceEqDiff, and_false, false_and, and_true, true_and, and_self, eA]
    · simp only [gF_pF, gF_pA, gF_pL, gA_pF, gA_pA, gA_pL, gL_pF, gL_pA, gL_pL, reduceIte, Nat.reduceEqDiff, and_false, false_and, and_true, true_and, and_self]
      rw [eF 11 (by decide) (by decide)]
    · simp only [gF_pF, gF_pA, gF_pL, gA_pF, gA_pA, gA_pL, gL_pF, gL_pA, gL_pL, reduceIte, Nat.reduceEqDiff, and_false, false_and, and_true, true_and, and_self]
      rw [eF 12 (by decide) (by decide)]
    · exact ((((((((((hfr.sA (by decide) _).sA (by decide) _).sA (by decide) _).sA (by decide) _).sA (by decide) _).sA (by decide) _).sF (by decide) _ _).sF (by decide) _ _).sF (by decide) _ _).sF (by decide) _ _).sF (by decide) _ _
  have inc : weS (qS q.2) q.2.length = false → AW mX0_enqueueWrite X Q ad 0 0 (conc (SS kd kp rp) g) 31 [some (.ref 1), some (.int (nI s)), some (.int u), some (.int v)] [] := by
    intro hw
    have e8 : gF g 1 8 = nI (weN (qS q.2) q.2.length) := by
      rw [h8, epc, hw]
      rfl
    refine a_aload_n (pc := 31) dX0_enqueueWrite_31 rfl ?_
    refine a_dup (pc := 32) dX0_enqueueWrite_32 rfl ?_
    refine a_gi (pc := 33) dX0_enqueueWrite_33 fX0_37 rfl ?_
    rw [e8]
    refine a_iconst (pc := 36) (nI 1) dX0_enqueueWrite_36 (by decide) ?_
    refine a_iadd (pc := 37) dX0_enqueueWrite_37 ?_
    try rw [nI_add]
    refine a_pi (pc := 38) dX0_enqueueWrite_38 fX0_37 rfl ?_
    refine a_aload_n (pc := 41) dX0_enqueueWrite_41 rfl ?_
    refine a_iconst (pc := 42) (nI 0) dX0_enqueueWrite_42 (by decide) ?_
    refine a_pz (pc := 43) dX0_enqueueWrite_43 fX0_40 (by first | exact Or.inl rfl | exact Or.inr rfl | exact bI_01 _) rfl ?_
    refine tail _ ?_ ?_ (fun k k8 k9 => ?_) (fun a => rfl) (((Fr.rf _ g).sF (by decide) _ _).sF (by decide) _ _)
    · simp only [gF_pF, gF_pA, gF_pL, gA_pF, gA_pA, gA_pL, gL_pF, gL_pA, gL_pL, reduceIte, Nat.reduceEqDiff, and_false, false_and, and_true, true_and, and_self]
    · simp only [gF_pF, gF_pA, gF_pL, gA_pF, gA_pA, gA_pL, gL_pF, gL_pA, gL_pL, reduceIte, Nat.reduceEqDiff, and_false, false_and, and_true, true_and, and_self]
    · rw [gF_pF, if_neg (fun z => k9 z.2), gF_pF, if_neg (fun z => k8 z.2)]
  refine a_aload_n (pc := 17) dX0_enqueueWrite_17 rfl ?_
  refine a_gi (pc := 18) dX0_enqueueWrite_18 fX0_37 rfl ?_
  rw [h8]
  have hepc : epc (qS q.2) q.2.length ≤ 61 := by
    unfold epc
    split <;> omega
  refine a_if_eqN (pc := 21) 31 dX0_enqueueWrite_21 (by decide) (by omega) (fun c3 => ?_) (fun c3 => ?_)
  · refine inc ?_
    cases hw : weS (qS q.2) q.2.length with
    | false => rfl
    | true =>
      rw [epc, hw] at c3
      exact absurd c3 (by simp)
  · refine a_aload_n (pc := 24) dX0_enqueueWrite_24 rfl ?_
    refine a_gi (pc := 25) dX0_enqueueWrite_25 fX0_40 rfl ?_
    rw [h9]
    refine a_if_eqB (pc := 28) 46 dX0_enqueueWrite_28 (by decide) (fun c4 => ?_) (fun c4 => ?_)
    · have hw : weS (qS q.2) q.2.length = true := by
        cases hw : weS (qS q.2) q.2.length with
        | true => rfl
        | false =>
          unfold fnd at c4
          rw [hw] at c4
          have z : q.2.length = 0 := by simpa using c4
          rw [epc, hw, z] at c3
          exact absurd rfl c3
      refine tail g ?_ ?_ (fun k _ _ => rfl) (fun a => rfl) (Fr.rf _ g)
      · rw [h8, epc, hw]
        rfl
      · rw [h9, c4]
        rfl
    · refine inc ?_
      unfold fnd at c4
      simp only [Bool.and_eq_true, Bool.not_eq_true'] at c4
      exact c4.2
set_option maxHeartbeats 1000000 in
set_option maxRecDepth 100000 in
theorem c_enqF_1 {d0 kd kp rp : Nat} {g : GH} (q : Qd) (h : CD 1 g q) (hl : q.2.length < 60) : ACv mX0_enqueueFence d0 (SS kd kp rp) g [.ref 1] (fun S' g' => S' = SS kd kp rp ∧ CD 1 g' (q.1, q.2 ++ [(-1, nI 0, nI 0)]) ∧ gF g' 1 11 = gF g 1 11 ∧ gF g' 1 12 = gF g 1 12 + nI 1 ∧ Fr [1, 2, 3, 4, 5, 6, 7] g g') := by
  obtain ⟨⟨h6, h60, h7, h8, h9, -⟩, -⟩ := id h
  refine ACv.of lcX0_enqueueFence rfl rfl (fun X Q ad hR ret => ?_)
  refine AW_ls (ls' := [_]) rfl ?_
  refine a_aload_n (pc := 0) dX0_enqueueFence_0 rfl ?_
  refine a_gi (pc := 1) dX0_enqueueFence_1 fX0_30 rfl ?_
  rw [h6]
  refine a_bipush (pc := 4) (nI 60) dX0_enqueueFence_4 (by decide) ?_
  refine a_icmp_ltN (pc := 6) 10 dX0_enqueueFence_6 (by decide) (by omega) (by omega) (fun c2 => ?_) (fun c2 => ?_)
  rotate_left
  · exact absurd c2 (by omega)
  refine a_aload_n (pc := 10) dX0_enqueueFence_10 rfl ?_
  refine a_gr (pc := 11) dX0_enqueueFence_11 fX0_18 rfl ?_
  refine a_aload_n (pc := 14) dX0_enqueueFence_14 rfl ?_
  refine a_gi (pc := 15) dX0_enqueueFence_15 fX0_30 rfl ?_
  rw [h6]
  refine a_iconst (pc := 18) (-1) dX0_enqueueFence_18 (by decide) ?_
  refine a_ast (pc := 19) _ dX0_enqueueFence_19 rfl rfl (by omega) ?_
  refine a_aload_n (pc := 20) dX0_enqueueFence_20 rfl ?_
  refine a_gr (pc := 21) dX0_enqueueFence_21 fX0_21 rfl ?_
  refine a_aload_n (pc := 24) dX0_enqueueFence_24 rfl ?_
  refine a_gi (pc := 25) dX0_enqueueFence_25 fX0_30 rfl ?_
  simp only [gF_pF, gF_pA, gF_pL, gA_pF, gA_pA, gA_pL, gL_pF, gL_pA, gL_pL, reduceIte, Nat.reduceEqDiff, and_false, false_and, and_true, true_and, and_self, h6]
  refine a_iconst (pc := 28) (nI 0) dX0_enqueueFence_28 (by decide) ?_
  refine a_ast (pc := 29) _ dX0_enqueueFence_29 rfl rfl (by omega) ?_
  refine a_aload_n (pc := 30) dX0_enqueueFence_30 rfl ?_
  refine a_gr (pc := 31) dX0_enqueueFence_31 fX0_24 rfl ?_
  refine a_aload_n (pc := 34) dX0_enqueueFence_34 rfl ?_
  refine a_gi (pc := 35) dX0_enqueueFence_35 fX0_30 rfl ?_
  simp only [gF_pF, gF_pA, gF_pL, gA_pF, gA_pA, gA_pL, gL_pF, gL_pA, gL_pL, reduceIte, Nat.reduceEqDiff, and_false, false_and, and_true, true_and, and_self, h6]
  refine a_iconst (pc := 38) (nI 0) dX0_enqueueFence_38 (by decide) ?_
  refine a_ast (pc := 39) _ dX0_enqueueFence_39 rfl rfl (by omega) ?_
  refine a_aload_n (pc := 40) dX0_enqueueFence_40 rfl ?_
  refine a_gr (pc := 41) dX0_enqueueFence_41 fX0_27 rfl ?_
  refine a_aload_n (pc := 44) dX0_enqueueFence_44 rfl ?_
  refine a_gi (pc := 45) dX0_enqueueFence_45 fX0_30 rfl ?_
  simp only [gF_pF, gF_pA, gF_pL, gA_pF, gA_pA, gA_pL, gL_pF, gL_pA, gL_pL, reduceIte, Nat.reduceEqDiff, and_false, false_and, and_true, true_and, and_self, h6]
  refine a_iconst (pc := 48) (-1) dX0_enqueueFence_48 (by decide) ?_
  refine a_ast (pc := 49) _ dX0_enqueueFence_49 rfl rfl (by omega) ?_
  refine a_aload_n (pc := 50) dX0_enqueueFence_50 rfl ?_
  refine a_dup (pc := 51) dX0_enqueueFence_51 rfl ?_
  refine a_gi (pc := 52) dX0_enqueueFence_52 fX0_30 rfl ?_
  refine a_iconst (pc := 55) (nI 1) dX0_enqueueFence_55 (by decide) ?_
  refine a_iadd (pc := 56) dX0_enqueueFence_56 ?_
  try rw [nI_add]
  refine a_pi (pc := 57) dX0_enqueueFence_57 fX0_30 rfl ?_
  refine a_aload_n (pc := 60) dX0_enqueueFence_60 rfl ?_
  refine a_iconst (pc := 61) (nI 1) dX0_enqueueFence_61 (by decide) ?_
  refine a_pz (pc := 62) dX0_enqueueFence_62 fX0_40 (by first | exact Or.inl rfl | exact Or.inr rfl | exact bI_01 _) rfl ?_
  refine a_aload_n (pc := 65) dX0_enqueueFence_65 rfl ?_
  refine a_dup (pc := 66) dX0_enqueueFence_66 rfl ?_
  refine a_gi (pc := 67) dX0_enqueueFence_67 fX0_50 rfl ?_
  refine a_iconst (pc := 70) (nI 1) dX0_enqueueFence_70 (by decide) ?_
  refine a_iadd (pc := 71) dX0_enqueueFence_71 ?_
  try rw [nI_add]
  refine a_pi (pc := 72) dX0_enqueueFence_72 fX0_50 rfl ?_
  refine ret _ _ 75 _ dX0_enqueueFence_75 rfl ?_
  refine ⟨rfl, h.fe hl ?_ ?_ ?_ ?_ ?_ ?_ ?_ ?_ ?_ ?_ ?_, ?_, ?_, ?_⟩
  · simp only [gF_pF, gF_pA, gF_pL, gA_pF, gA_pA, gA_pL, gL_pF, gL_pA, gL_pL, reduceIte, Nat.reduceEqDiff, and_false, false_and, and_true, true_and, and_self, h6]
    rw [nI_add]
  · simp only [gF_pF, gF_pA, gF_pL, gA_pF, gA_pA, gA_pL, gL_pF, gL_pA, gL_pL, reduceIte, Nat.reduceEqDiff, and_false, false_and, and_true, true_and, and_self]
  · simp only [gF_pF, gF_pA, gF_pL, gA_pF, gA_pA, gA_pL, gL_pF, gL_pA, gL_pL, reduceIte, Nat.reduceEqDiff, and_false, false_and, and_true, true_and, and_self]
  · simp only [gF_pF, gF_pA, gF_pL, gA_pF, gA_pA, gA_pL, gL_pF, gL_pA, gL_pL, reduceIte, Nat.reduceEqDiff, and_false, false_and, and_true, true_and, and_self]
  · simp only [gF_pF, gF_pA, gF_pL, gA_pF, gA_pA, gA_pL, gL_pF, gL_pA, gL_pL, reduceIte, Nat.reduceEqDiff, and_false, false_and, and_true, true_and, and_self]
  · simp only [gF_pF, gF_pA, gF_pL, gA_pF, gA_pA, gA_pL, gL_pF, gL_pA, gL_pL, reduceIte, Nat.reduceEqDiff, and_false, false_and, and_true, true_and, and_self]
  · simp only [gF_pF, gF_pA, gF_pL, gA_pF, gA_pA, gA_pL, gL_pF, gL_pA, gL_pL, reduceIte, Nat.reduceEqDiff, and_false, false_and, and_true, true_and, and_self]
  · simp only [gF_pF, gF_pA, gF_pL, gA_pF, gA_pA, gA_pL, gL_pF, gL_pA, gL_pL, reduceIte, Nat.reduceEqDiff, and_false, false_and, and_true, true_and, and_self]
  · simp only [gF_pF, gF_pA, gF_pL, gA_pF, gA_pA, gA_pL, gL_pF, gL_pA, gL_pL, reduceIte, Nat.reduceEqDiff, and_false, false_and, and_true, true_and, and_self]
  · simp only [gF_pF, gF_pA, gF_pL, gA_pF, gA_pA, gA_pL, gL_pF, gL_pA, gL_pL, reduceIte, Nat.reduceEqDiff, and_false, false_and, and_true, true_and, and_self]
  · simp only [gF_pF, gF_pA, gF_pL, gA_pF, gA_pA, gA_pL, gL_pF, gL_pA, gL_pL, reduceIte, Nat.reduceEqDiff, and_false, false_and, and_true, true_and, and_self]
  · simp only [gF_pF, gF_pA, gF_pL, gA_pF, gA_pA, gA_pL, gL_pF, gL_pA, gL_pL, reduceIte, Nat.reduceEqDiff, and_false, false_and, and_true, true_and, and_self]
  · simp only [gF_pF, gF_pA, gF_pL, gA_pF, gA_pA, gA_pL, gL_pF, gL_pA, gL_pL, reduceIte, Nat.reduceEqDiff, and_false, false_and, and_true, true_and, and_self]
  · exact (((((((Fr.rf _ g).sA (by decide) _).sA (by decide) _).sA (by decide) _).sA (by decide) _).sF (by decide) _ _).sF (by decide) _ _).sF (by decide) _ _
set_option maxHeartbeats 1000000 in
set_option maxRecDepth 100000 in
theorem c_comeUp_1 {d0 kd kp rp : Nat} {g : GH} (c : Nat) (f : Nat → Int32) (hc : aiAt (SS kd kp rp) c 0 = some 32) (hc1 : c ≠ 2) (hf : ∀ p, p < 32 → gA g c p = f p) : ACv mX0_comeUpWith d0 (SS kd kp rp) g [.ref 1, .ref c] (fun S' g' => S' = SS kd kp rp ∧ CD 1 g' (f, []) ∧ gF g' 1 11 = gF g 1 11 ∧ gF g' 1 12 = gF g 1 12 + nI 1 ∧ Fr [1, 2, 3, 4, 5, 6, 7] g g') := by
  refine ACv.of lcX0_comeUpWith rfl rfl (fun X Q ad hR ret => ?_)
  refine AW_ls (ls' := [_, _, _]) rfl ?_
  refine a_iconst (pc := 0) (nI 0) dX0_comeUpWith_0 (by decide) ?_
  refine a_istore_n (pc := 1) (ls' := [_, _, _]) dX0_comeUpWith_1 (Nat.le_of_ble_eq_true rfl) rfl ?_
  have loop : ∀ t p, 32 = p + t → ∀ g1 : GH, (∀ j, j < p → gA g1 2 j = f j ∧ gA g1 3 j = f j) → (∀ j, j < 32 → gA g1 c j = f j) → (∀ k, gF g1 1 k = gF g 1 k) → Fr [1, 2, 3, 4, 5, 6, 7] g g1 → AW mX0_comeUpWith X Q ad 0 0 (conc (SS kd kp rp) g1) 2 [some (.ref 1), some (.ref c), some (.int (nI p))] [] := by
    intro t
    induction t with
    | zero =>
      intro p hp g1 h1 hcj hF hfr
      obtain rfl : p = 32 := by omega
      refine a_iload_n (pc := 2) dX0_comeUpWith_2 rfl ?_
      refine a_bipush (pc := 3) (nI 32) dX0_comeUpWith_3 (by decide) ?_
      refine a_icmp_geN (pc := 5) 32 dX0_comeUpWith_5 (by decide) (by omega) (by omega) (fun c1 => ?_) (fun c1 => ?_)
      · refine a_aload_n (pc := 32) dX0_comeUpWith_32 rfl ?_
        refine a_iconst (pc := 33) (nI 0) dX0_comeUpWith_33 (by decide) ?_
        refine a_pi (pc := 34) dX0_comeUpWith_34 fX0_30 rfl ?_
        refine a_aload_n (pc := 37) dX0_comeUpWith_37 rfl ?_
        refine a_iconst (pc := 38) (nI 0) dX0_comeUpWith_38 (by decide) ?_
        refine a_pi (pc := 39) dX0_comeUpWith_39 fX0_34 rfl ?_
        refine a_aload_n (pc := 42) dX0_comeUpWith_42 rfl ?_
        refine a_iconst (pc := 43) (nI 0) dX0_comeUpWith_43 (by decide) ?_
        refine a_pi (pc := 44) dX0_comeUpWith_44 fX0_37 rfl ?_
        refine a_aload_n (pc := 47) dX0_comeUpWith_47 rfl ?_
        refine a_iconst (pc := 48) (nI 0) dX0_comeUpWith_48 (by decide) ?_
        refine a_pz (pc := 49) dX0_comeUpWith_49 fX0_40 (by first | exact Or.inl rfl | exact Or.inr rfl | exact bI_01 _) rfl ?_
        refine a_aload_n (pc := 52) dX0_comeUpWith_52 rfl ?_
        refine a_iconst (pc := 53) (nI 0) dX0_comeUpWith_53 (by decide) ?_
        refine a_pi (pc := 54) dX0_comeUpWith_54 fX0_44 rfl ?_
        refine a_aload_n (pc := 57) dX0_comeUpWith_57 rfl ?_
        refine a_dup (pc := 58) dX0_comeUpWith_58 rfl ?_
        refine a_gi (pc := 59) dX0_comeUpWith_59 fX0_50 rfl ?_
        refine a_iconst (pc := 62) (nI 1) dX0_comeUpWith_62 (by decide) ?_
        refine a_iadd (pc := 63) dX0_comeUpWith_63 ?_
        try rw [nI_add]
        refine a_pi (pc := 64) dX0_comeUpWith_64 fX0_50 rfl ?_
        refine ret _ _ 67 _ dX0_comeUpWith_67 rfl ?_
        refine ⟨rfl, CD.up ?_ ?_ ?_ ?_ ?_ (fun p hp => ?_) (fun p hp => ?_), ?_, ?_, ?_⟩
        · simp only [gF_pF, gF_pA, gF_pL, gA_pF, gA_pA, gA_pL, gL_pF, gL_pA, gL_pL, reduceIte, Nat.reduceEqDiff, and_false, false_and, and_true, true_and, and_self]
        · simp only [gF_pF, gF_pA, gF_pL, gA_pF, gA_pA, gA_pL, gL_pF, gL_pA, gL_pL, reduceIte, Nat.reduceEqDiff, and_false, false_and, and_true, true_and, and_self]
        · simp only [gF_pF, gF_pA, gF_pL, gA_pF, gA_pA, gA_pL, gL_pF, gL_pA, gL_pL, reduceIte, Nat.reduceEqDiff, and_false, false_and, and_true, true_and, and_self]
        · simp only [gF_pF, gF_pA, gF_pL, gA_pF, gA_pA, gA_pL, gL_pF, gL_pA, gL_pL, reduceIte, Nat.reduceEqDiff, and_false, false_and, and_true, true_and, and_self]
        · simp only [gF_pF, gF_pA, gF_pL, gA_pF, gA_pA, gA_pL, gL_pF, gL_pA, gL_pL, reduceIte, Nat.reduceEqDiff, and_false, false_and, and_true, true_and, and_self]
        · exact (h1 p hp).1
        · exact (h1 p hp).2
        · simp only [gF_pF, gF_pA, gF_pL, gA_pF, gA_pA, gA_pL, gL_pF, gL_pA, gL_pL, reduceIte, Nat.reduceEqDiff, and_false, false_and, and_true, true_and, and_self, hF]
        · simp only [gF_pF, gF_pA, gF_pL, gA_pF, gA_pA, gA_pL, gL_pF, gL_pA, gL_pL, reduceIte, Nat.reduceEqDiff, and_false, false_and, and_true, true_and, and_self, hF]
        · exact (((((hfr.sF (by decide) _ _).sF (by decide) _ _).sF (by decide) _ _).sF (by decide) _ _).sF (by decide) _ _).sF (by decide) _ _
      · exact absurd c1 (by omega)
    | succ t ih =>
      intro p hp g1 h1 hcj hF hfr
      refine a_iload_n (pc := 2) dX0_comeUpWith_2 rfl ?_
      refine a_bipush (pc := 3) (nI 32) dX0_comeUpWith_3 (by decide) ?_
      refine a_icmp_geN (pc := 5) 32 dX0_comeUpWith_5 (by decide) (by omega) (by omega) (fun c1 => ?_) (fun c1 => ?_)
      · exact absurd c1 (by omega)
      · refine a_aload_n (pc := 8) dX0_comeUpWith_8 rfl ?_
        refine a_gr (pc := 9) dX0_comeUpWith_9 fX0_9 rfl ?_
        refine a_iload_n (pc := 12) dX0_comeUpWith_12 rfl ?_
        refine a_aload_n (pc := 13) dX0_comeUpWith_13 rfl ?_
        refine a_iload_n (pc := 14) dX0_comeUpWith_14 rfl ?_
        refine a_ial (pc := 15) _ dX0_comeUpWith_15 hc rfl (by omega) ?_
        rw [hcj p (by omega)]
        refine a_ast (pc := 16) _ dX0_comeUpWith_16 rfl rfl (by omega) ?_
        refine a_aload_n (pc := 17) dX0_comeUpWith_17 rfl ?_
        refine a_gr (pc := 18) dX0_comeUpWith_18 fX0_15 rfl ?_
        refine a_iload_n (pc := 21) dX0_comeUpWith_21 rfl ?_
        refine a_aload_n (pc := 22) dX0_comeUpWith_22 rfl ?_
        refine a_iload_n (pc := 23) dX0_comeUpWith_23 rfl ?_
        refine a_ial (pc := 24) _ dX0_comeUpWith_24 hc rfl (by omega) ?_
        rw [show gA (pA g1 2 (upd (gA g1 2) p (f p))) c p = f p by rw [gA_pA, if_neg hc1]; exact hcj p (by omega)]
        refine a_ast (pc := 25) _ dX0_comeUpWith_25 rfl rfl (by omega) ?_
        refine a_iinc (pc := 26) (ls' := [_, _, _]) (nI 1) dX0_comeUpWith_26 (by decide) rfl (Nat.le_of_ble_eq_true rfl) rfl ?_
        try rw [nI_add]
        refine a_goto (pc := 29) 2 dX0_comeUpWith_29 (by decide) ?_
        refine ih (p + 1) (by omega) _ (fun j hj => ?_) (fun j hj => ?_) (fun k => hF k) ((hfr.sA (by decide) _).sA (by decide) _)
        · simp only [gF_pF, gF_pA, gF_pL, gA_pF, gA_pA, gA_pL, gL_pF, gL_pA, gL_pL, reduceIte, Nat.reduceEqDiff, and_false, false_and, and_true, true_and, and_self, upd]
          by_cases e : j = p
          · rw [if_pos e, if_pos e, e]
            exact ⟨rfl, rfl⟩
          · rw [if_neg e, if_neg e]
            exact h1 j (by omega)
        · rw [gA_pA]
          by_cases e2 : c = 3
          · rw [if_pos e2]
            subst e2
            simp only [upd]
            by_cases e : j = p
            · rw [if_pos e, e]
            · rw [if_neg e]
              exact hcj j hj
          · rw [if_neg e2, gA_pA, if_neg hc1]
            exact hcj j hj
  exact loop 32 0 (by omega) g (fun j h => absurd h (by omega)) hf (fun _ => rfl) (Fr.rf _ g)
set_option maxRecDepth 100000 in
theorem c_settle_1 {d0 kd kp rp : Nat} {g : GH} (q : Qd) (h : CD 1 g q) : ACv mX0_settle (d0 + 1) (SS kd kp rp) g [.ref 1] (fun S' g' => S' = SS kd kp rp ∧ CD 1 g' (flQ q, []) ∧ gF g' 1 11 = gF g 1 11 ∧ gF g' 1 12 = gF g 1 12 + nI 1 ∧ Fr [1, 2, 3, 4, 5, 6, 7] g g') := by
  refine ACv.of lcX0_settle rfl rfl (fun X Q ad hR ret => ?_)
  refine AW_ls (ls' := [_]) rfl ?_
  refine a_aload_n (pc := 0) dX0_settle_0 rfl ?_
  refine a_aload_n (pc := 1) dX0_settle_1 rfl ?_
  refine a_gr (pc := 2) dX0_settle_2 fX0_15 rfl ?_
  refine a_V1v (pc := 5) 0 dX0_settle_5 lcX0_comeUpWith lX0_72 rfl rfl rfl (fit_of hR (by omega) rfl) (c_comeUp_1 (d0 := d0) 3 (flQ q) rfl (by decide) h.2.2.1) rfl rfl (fun S' g' hS hp => ?_)
  obtain ⟨rfl, hp⟩ := hp
  refine ret _ _ 8 _ dX0_settle_8 rfl ?_
  exact ⟨rfl, hp⟩
set_option maxRecDepth 100000 in
theorem c_hasRoom_27 {d0 kd kp rp : Nat} {g : GH} (n m : Nat) (hn : gF g 27 6 = nI n) (hn60 : n ≤ 60) (hm : m ≤ 100) : ACi mX0_hasRoom d0 (SS kd kp rp) g [.ref 27, .int (nI m)] (fun r S' g' => S' = SS kd kp rp ∧ g' = g ∧ r = bI (decide (n + m ≤ 60))) := by
  refine ACz.of lcX0_hasRoom rfl rfl (fun X Q ad hR ret => ?_)
  refine AW_ls (ls' := [_, _]) rfl ?_
  refine a_aload_n (pc := 0) dX0_hasRoom_0 rfl ?_
  refine a_gi (pc := 1) dX0_hasRoom_1 fX0_30 rfl ?_
  rw [hn]
  refine a_iload_n (pc := 4) dX0_hasRoom_4 rfl ?_
  refine a_iadd (pc := 5) dX0_hasRoom_5 ?_
  try rw [nI_add]
  refine a_bipush (pc := 6) (nI 60) dX0_hasRoom_6 (by decide) ?_
  refine a_icmp_gtN (pc := 8) 15 dX0_hasRoom_8 (by decide) (by omega) (by omega) (fun c1 => ?_) (fun c1 => ?_)
  · refine a_iconst (pc := 15) (nI 0) dX0_hasRoom_15 (by decide) ?_
    refine ret _ _ 16 _ _ dX0_hasRoom_16 rfl (by first | exact Or.inl rfl | exact Or.inr rfl | exact bI_01 _) ?_
    exact ⟨rfl, rfl, (bI_ndec _ (by omega)).symm⟩
  · refine a_iconst (pc := 11) (nI 1) dX0_hasRoom_11 (by decide) ?_
    refine a_goto (pc := 12) 16 dX0_hasRoom_12 (by decide) ?_
    refine ret _ _ 16 _ _ dX0_hasRoom_16 rfl (by first | exact Or.inl rfl | exact Or.inr rfl | exact bI_01 _) ?_
    exact ⟨rfl, rfl, (bI_dec _ c1).symm⟩
set_option maxHeartbeats 1000000 in
set_option maxRecDepth 100000 in
theorem c_enqW_27 {d0 kd kp rp : Nat} {g : GH} (q : Qd) (s : Nat) (u v : Int32) (h : CD 27 g q) (hs : s < 16) (hl : q.2.length < 60) : ACv mX0_enqueueWrite (d0 + 1) (SS kd kp rp) g [.ref 27, .int (nI s), .int u, .int v] (fun S' g' => S' = SS kd kp rp ∧ CD 27 g' (q.1, q.2 ++ [(nI s, u, v)]) ∧ gF g' 27 11 = gF g 27 11 + nI 1 ∧ gF g' 27 12 = gF g 27 12 + nI 1 ∧ Fr [27, 28, 29, 30, 31, 32, 33] g g') := by
  have hsec : insQ (nI s) (nI 0) (nI 15) = true := (insQ_ok (by decide)).mpr ⟨s, by omega, rfl⟩
  obtain ⟨⟨h6, h60, h7, h8, h9, -⟩, -⟩ := id h
  have hwe := weN_le (qS q.2) q.2.length
  refine ACv.of lcX0_enqueueWrite rfl rfl (fun X Q ad hR ret => ?_)
  refine AW_ls (ls' := [_, _, _, _]) rfl ?_
  refine a_iload_n (pc := 0) dX0_enqueueWrite_0 rfl ?_
  refine a_S1i (pc := 1) dX0_enqueueWrite_1 lcX10_isSector lX0_53 (fit_of hR (by omega) rfl) (c_isSector (d0 := d0) (nI s)) rfl rfl (ex_i ?_)
  refine a_if_eqB (pc := 4) 16 dX0_enqueueWrite_4 (by decide) (fun c1 => ?_) (fun c1 => ?_)
  · exact absurd (c1.symm.trans hsec) (by decide)
  refine a_aload_n (pc := 7) dX0_enqueueWrite_7 rfl ?_
  refine a_gi (pc := 8) dX0_enqueueWrite_8 fX0_30 rfl ?_
  rw [h6]
  refine a_bipush (pc := 11) (nI 60) dX0_enqueueWrite_11 (by decide) ?_
  refine a_icmp_ltN (pc := 13) 17 dX0_enqueueWrite_13 (by decide) (by omega) (by omega) (fun c2 => ?_) (fun c2 => ?_)
  rotate_left
  · exact absurd c2 (by omega)
  have tail : ∀ g1 : GH, gF g1 27 8 = nI (weN (qS q.2) q.2.length + 1) → gF g1 27 9 = nI 0 → (∀ k, k ≠ 8 → k ≠ 9 → gF g1 27 k = gF g 27 k) → (∀ a, gA g1 a = gA g a) → Fr [27, 28, 29, 30, 31, 32, 33] g g1 → AW mX0_enqueueWrite X Q ad 0 0 (conc (SS kd kp rp) g1) 46 [some (.ref 27), some (.int (nI s)), some (.int u), some (.int v)] [] := by
    intro g1 e8 e9 eF eA hfr
    have e6 : gF g1 27 6 = nI q.2.length := (eF 6 (by decide) (by decide)).trans h6
    refine a_aload_n (pc := 46) dX0_enqueueWrite_46 rfl ?_
    refine a_gr (pc := 47) dX0_enqueueWrite_47 fX0_18 rfl ?_
    refine a_aload_n (pc := 50) dX0_enqueueWrite_50 rfl ?_
    refine a_gi (pc := 51) dX0_enqueueWrite_51 fX0_30 rfl ?_
    rw [e6]
    refine a_iload_n (pc := 54) dX0_enqueueWrite_54 rfl ?_
    refine a_ast (pc := 55) _ dX0_enqueueWrite_55 rfl rfl (by omega) ?_
    refine a_aload_n (pc := 56) dX0_enqueueWrite_56 rfl ?_
    refine a_gr (pc := 57) dX0_enqueueWrite_57 fX0_21 rfl ?_
    refine a_aload_n (pc := 60) dX0_enqueueWrite_60 rfl ?_
    refine a_gi (pc := 61) dX0_enqueueWrite_61 fX0_30 rfl ?_
    simp only [gF_pF, gF_pA, gF_pL, gA_pF, gA_pA, gA_pL, gL_pF, gL_pA, gL_pL, reduceIte, Nat.reduceEqDiff, and_false, false_and, and_true, true_and, and_self, e6]
    refine a_iload_n (pc := 64) dX0_enqueueWrite_64 rfl ?_
    refine a_ast (pc := 65) _ dX0_enqueueWrite_65 rfl rfl (by omega) ?_
    refine a_aload_n (pc := 66) dX0_enqueueWrite_66 rfl ?_
    refine a_gr (pc := 67) dX0_enqueueWrite_67 fX0_24 rfl ?_
    refine a_aload_n (pc := 70) dX0_enqueueWrite_70 rfl ?_
    refine a_gi (pc := 71) dX0_enqueueWrite_71 fX0_30 rfl ?_
    simp only [gF_pF, gF_pA, gF_pL, gA_pF, gA_pA, gA_pL, gL_pF, gL_pA, gL_pL, reduceIte, Nat.reduceEqDiff, and_false, false_and, and_true, true_and, and_self, e6]
    refine a_iload_n (pc := 74) dX0_enqueueWrite_74 rfl ?_
    refine a_ast (pc := 75) _ dX0_enqueueWrite_75 rfl rfl (by omega) ?_
    refine a_aload_n (pc := 76) dX0_enqueueWrite_76 rfl ?_
    refine a_gr (pc := 77) dX0_enqueueWrite_77 fX0_27 rfl ?_
    refine a_aload_n (pc := 80) dX0_enqueueWrite_80 rfl ?_
    refine a_gi (pc := 81) dX0_enqueueWrite_81 fX0_30 rfl ?_
    simp only [gF_pF, gF_pA, gF_pL, gA_pF, gA_pA, gA_pL, gL_pF, gL_pA, gL_pL, reduceIte, Nat.reduceEqDiff, and_false, false_and, and_true, true_and, and_self, e6]
    refine a_aload_n (pc := 84) dX0_enqueueWrite_84 rfl ?_
    refine a_gi (pc := 85) dX0_enqueueWrite_85 fX0_37 rfl ?_
    simp only [gF_pF, gF_pA, gF_pL, gA_pF, gA_pA, gA_pL, gL_pF, gL_pA, gL_pL, reduceIte, Nat.reduceEqDiff, and_false, false_and, and_true, true_and, and_self, e8]
    refine a_iconst (pc := 88) (nI 1) dX0_enqueueWrite_88 (by decide) ?_
    refine a_isub (pc := 89) dX0_enqueueWrite_89 ?_
    rw [show nI (weN (qS q.2) q.2.length + 1) - nI 1 = nI (weN (qS q.2) q.2.length) from (pk_sub (by omega)).trans (by rw [Nat.add_sub_cancel])]
    refine a_ast (pc := 90) _ dX0_enqueueWrite_90 rfl rfl (by omega) ?_
    refine a_aload_n (pc := 91) dX0_enqueueWrite_91 rfl ?_
    refine a_gr (pc := 92) dX0_enqueueWrite_92 fX0_15 rfl ?_
    refine a_iconst (pc := 95) (nI 2) dX0_enqueueWrite_95 (by decide) ?_
    refine a_iload_n (pc := 96) dX0_enqueueWrite_96 rfl ?_
    refine a_imul (pc := 97) dX0_enqueueWrite_97 ?_
    try rw [pk_mul]
    refine a_iload_n (pc := 98) dX0_enqueueWrite_98 rfl ?_
    refine a_ast (pc := 99) _ dX0_enqueueWrite_99 rfl rfl (by omega) ?_
    refine a_aload_n (pc := 100) dX0_enqueueWrite_100 rfl ?_
    refine a_gr (pc := 101) dX0_enqueueWrite_101 fX0_15 rfl ?_
    refine a_iconst (pc := 104) (nI 2) dX0_enqueueWrite_104 (by decide) ?_
    refine a_iload_n (pc := 105) dX0_enqueueWrite_105 rfl ?_
    refine a_imul (pc := 106) dX0_enqueueWrite_106 ?_
    try rw [pk_mul]
    refine a_iconst (pc := 107) (nI 1) dX0_enqueueWrite_107 (by decide) ?_
    refine a_iadd (pc := 108) dX0_enqueueWrite_108 ?_
    try rw [nI_add]
    refine a_iload_n (pc := 109) dX0_enqueueWrite_109 rfl ?_
    refine a_ast (pc := 110) _ dX0_enqueueWrite_110 rfl rfl (by omega) ?_
    refine a_aload_n (pc := 111) dX0_enqueueWrite_111 rfl ?_
    refine a_dup (pc := 112) dX0_enqueueWrite_112 rfl ?_
    refine a_gi (pc := 113) dX0_enqueueWrite_113 fX0_44 rfl ?_
    refine a_iconst (pc := 116) (nI 1) dX0_enqueueWrite_116 (by decide) ?_
    refine a_iload_n (pc := 117) dX0_enqueueWrite_117 rfl ?_
    refine a_ishl (pc := 118) dX0_enqueueWrite_118 ?_
    refine a_ior (pc := 119) dX0_enqueueWrite_119 ?_
    refine a_pi (pc := 120) dX0_enqueueWrite_120 fX0_44 rfl ?_
    refine a_aload_n (pc := 123) dX0_enqueueWrite_123 rfl ?_
    refine a_dup (pc := 124) dX0_enqueueWrite_124 rfl ?_
    refine a_gi (pc := 125) dX0_enqueueWrite_125 fX0_30 rfl ?_
    refine a_iconst (pc := 128) (nI 1) dX0_enqueueWrite_128 (by decide) ?_
    refine a_iadd (pc := 129) dX0_enqueueWrite_129 ?_
    try rw [nI_add]
    refine a_pi (pc := 130) dX0_enqueueWrite_130 fX0_30 rfl ?_
    refine a_aload_n (pc := 133) dX0_enqueueWrite_133 rfl ?_
    refine a_dup (pc := 134) dX0_enqueueWrite_134 rfl ?_
    refine a_gi (pc := 135) dX0_enqueueWrite_135 fX0_34 rfl ?_
    refine a_iconst (pc := 138) (nI 1) dX0_enqueueWrite_138 (by decide) ?_
    refine a_iadd (pc := 139) dX0_enqueueWrite_139 ?_
    try rw [nI_add]
    refine a_pi (pc := 140) dX0_enqueueWrite_140 fX0_34 rfl ?_
    refine a_aload_n (pc := 143) dX0_enqueueWrite_143 rfl ?_
    refine a_dup (pc := 144) dX0_enqueueWrite_144 rfl ?_
    refine a_gi (pc := 145) dX0_enqueueWrite_145 fX0_47 rfl ?_
    refine a_iconst (pc := 148) (nI 1) dX0_enqueueWrite_148 (by decide) ?_
    refine a_iadd (pc := 149) dX0_enqueueWrite_149 ?_
    try rw [nI_add]
    refine a_pi (pc := 150) dX0_enqueueWrite_150 fX0_47 rfl ?_
    refine a_aload_n (pc := 153) dX0_enqueueWrite_153 rfl ?_
    refine a_dup (pc := 154) dX0_enqueueWrite_154 rfl ?_
    refine a_gi (pc := 155) dX0_enqueueWrite_155 fX0_50 rfl ?_
    refine a_iconst (pc := 158) (nI 1) dX0_enqueueWrite_158 (by decide) ?_
    refine a_iadd (pc := 159) dX0_enqueueWrite_159 ?_
    try rw [nI_add]
    refine a_pi (pc := 160) dX0_enqueueWrite_160 fX0_50 rfl ?_
    refine ret _ _ 163 _ dX0_enqueueWrite_163 rfl ?_
    refine ⟨rfl, h.wr hs hl ?_ ?_ ?_ ?_ ?_ ?_ ?_ ?_ ?_ ?_ ?_, ?_, ?_, ?_⟩
    · simp only [gF_pF, gF_pA, gF_pL, gA_pF, gA_pA, gA_pL, gL_pF, gL_pA, gL_pL, reduceIte, Nat.reduceEqDiff, and_false, false_and, and_true, true_and, and_self, e6]
      rw [nI_add]
    · simp only [gF_pF, gF_pA, gF_pL, gA_pF, gA_pA, gA_pL, gL_pF, gL_pA, gL_pL, reduceIte, Nat.reduceEqDiff, and_false, false_and, and_true, true_and, and_self]
      rw [eF 7 (by decide) (by decide)]
    · simp only [gF_pF, gF_pA, gF_pL, gA_pF, gA_pA, gA_pL, gL_pF, gL_pA, gL_pL, reduceIte, Nat.reduceEqDiff, and_false, false_and, and_true, true_and, and_self, e8]
    · simp only [gF_pF, gF_pA, gF_pL, gA_pF, gA_pA, gA_pL, gL_pF, gL_pA, gL_pL, reduceIte, Nat.reduceEqDiff, and_false, false_and, and_true, true_and, and_self, e9]
    · simp only [gF_pF, gF_pA, gF_pL, gA_pF, gA_pA, gA_pL, gL_pF, gL_pA, gL_pL, reduceIte, Nat.reduceEqDiff, and_false, false_and, and_true, true_and, and_self]
      rw [eF 10 (by decide) (by decide)]
    · simp only [gF_pF, gF_pA, gF_pL, gA_pF, gA_pA, gA_pL, gL_pF, gL_pA, gL_pL, reduceIte, Nat.reduceEqDiff, and_false, false_and, and_true, true_and, and_self, eA]
    · simp only [gF_pF, gF_pA, gF_pL, gA_pF, gA_pA, gA_pL, gL_pF, gL_pA, gL_pL, reduceIte, Nat.reduceEqDiff, and_false, false_and, and_true, true_and, and_self, eA]
    · simp only [gF_pF, gF_pA, gF_pL, gA_pF, gA_pA, gA_pL, gL_pF, gL_pA, gL_pL, reduceIte, Nat.reduceEqDiff, and_false, false_and, and_true, true_and, and_self, eA]
    · simp only [gF_pF, gF_pA, gF_pL, gA_pF, gA_pA, gA_pL, gL_pF, gL_pA, gL_pL, reduceIte, Nat.reduceEqDiff, and_false, false_and, and_true, true_and, and_self, eA]
    · simp only [gF_pF, gF_pA, gF_pL, gA_pF, gA_pA, gA_pL, gL_pF, gL_pA, gL_pL, reduceIte, Nat.reduceEqDiff, and_false, false_and, and_true, true_and, and_self, eA]
    · simp only [gF_pF, gF_pA, gF_pL, gA_pF, gA_pA, gA_pL, gL_pF, gL_pA, gL_pL, reduceIte, Nat.reduceEqDiff, and_false, false_and, and_true, true_and, and_self, eA]
    · simp only [gF_pF, gF_pA, gF_pL, gA_pF, gA_pA, gA_pL, gL_pF, gL_pA, gL_pL, reduceIte, Nat.reduceEqDiff, and_false, false_and, and_true, true_and, and_self]
      rw [eF 11 (by decide) (by decide)]
    · simp only [gF_pF, gF_pA, gF_pL, gA_pF, gA_pA, gA_pL, gL_pF, gL_pA, gL_pL, reduceIte, Nat.reduceEqDiff, and_false, false_and, and_true, true_and, and_self]
      rw [eF 12 (by decide) (by decide)]
    · exact ((((((((((hfr.sA (by decide) _).sA (by decide) _).sA (by decide) _).sA (by decide) _).sA (by decide) _).sA (by decide) _).sF (by decide) _ _).sF (by decide) _ _).sF (by decide) _ _).sF (by decide) _ _).sF (by decide) _ _
  have inc : weS (qS q.2) q.2.length = false → AW mX0_enqueueWrite X Q ad 0 0 (conc (SS kd kp rp) g) 31 [some (.ref 27), some (.int (nI s)), some (.int u), some (.int v)] [] := by
    intro hw
    have e8 : gF g 27 8 = nI (weN (qS q.2) q.2.length) := by
      rw [h8, epc, hw]
      rfl
    refine a_aload_n (pc := 31) dX0_enqueueWrite_31 rfl ?_
    refine a_dup (pc := 32) dX0_enqueueWrite_32 rfl ?_
    refine a_gi (pc := 33) dX0_enqueueWrite_33 fX0_37 rfl ?_
    rw [e8]
    refine a_iconst (pc := 36) (nI 1) dX0_enqueueWrite_36 (by decide) ?_
    refine a_iadd (pc := 37) dX0_enqueueWrite_37 ?_
    try rw [nI_add]
    refine a_pi (pc := 38) dX0_enqueueWrite_38 fX0_37 rfl ?_
    refine a_aload_n (pc := 41) dX0_enqueueWrite_41 rfl ?_
    refine a_iconst (pc := 42) (nI 0) dX0_enqueueWrite_42 (by decide) ?_
    refine a_pz (pc := 43) dX0_enqueueWrite_43 fX0_40 (by first | exact Or.inl rfl | exact Or.inr rfl | exact bI_01 _) rfl ?_
    refine tail _ ?_ ?_ (fun k k8 k9 => ?_) (fun a => rfl) (((Fr.rf _ g).sF (by decide) _ _).sF (by decide) _ _)
    · simp only [gF_pF, gF_pA, gF_pL, gA_pF, gA_pA, gA_pL, gL_pF, gL_pA, gL_pL, reduceIte, Nat.reduceEqDiff, and_false, false_and, and_true, true_and, and_self]
    · simp only [gF_pF, gF_pA, gF_pL, gA_pF, gA_pA, gA_pL, gL_pF, gL_pA, gL_pL, reduceIte, Nat.reduceEqDiff, and_false, false_and, and_true, true_and, and_self]
    · rw [gF_pF, if_neg (fun z => k9 z.2), gF_pF, if_neg (fun z => k8 z.2)]
  refine a_aload_n (pc := 17) dX0_enqueueWrite_17 rfl ?_
  refine a_gi (pc := 18) dX0_enqueueWrite_18 fX0_37 rfl ?_
  rw [h8]
  have hepc : epc (qS q.2) q.2.length ≤ 61 := by
    unfold epc
    split <;> omega
  refine a_if_eqN (pc := 21) 31 dX0_enqueueWrite_21 (by decide) (by omega) (fun c3 => ?_) (fun c3 => ?_)
  · refine inc ?_
    cases hw : weS (qS q.2) q.2.length with
    | false => rfl
    | true =>
      rw [epc, hw] at c3
      exact absurd c3 (by simp)
  · refine a_aload_n (pc := 24) dX0_enqueueWrite_24 rfl ?_
    refine a_gi (pc := 25) dX0_enqueueWrite_25 fX0_40 rfl ?_
    rw [h9]
    refine a_if_eqB (pc := 28) 46 dX0_enqueueWrite_28 (by decide) (fun c4 => ?_) (fun c4 => ?_)
    · have hw : weS (qS q.2) q.2.length = true := by
        cases hw : weS (qS q.2) q.2.length with
        | true => rfl
        | false =>
          unfold fnd at c4
          rw [hw] at c4
          have z : q.2.length = 0 := by simpa using c4
          rw [epc, hw, z] at c3
          exact absurd rfl c3
      refine tail g ?_ ?_ (fun k _ _ => rfl) (fun a => rfl) (Fr.rf _ g)
      · rw [h8, epc, hw]
        rfl
      · rw [h9, c4]
        rfl
    · refine inc ?_
      unfold fnd at c4
      simp only [Bool.and_eq_true, Bool.not_eq_true'] at c4
      exact c4.2
set_option maxHeartbeats 1000000 in
set_option maxRecDepth 100000 in
theorem c_enqF_27 {d0 kd kp rp : Nat} {g : GH} (q : Qd) (h : CD 27 g q) (hl : q.2.length < 60) : ACv mX0_enqueueFence d0 (SS kd kp rp) g [.ref 27] (fun S' g' => S' = SS kd kp rp ∧ CD 27 g' (q.1, q.2 ++ [(-1, nI 0, nI 0)]) ∧ gF g' 27 11 = gF g 27 11 ∧ gF g' 27 12 = gF g 27 12 + nI 1 ∧ Fr [27, 28, 29, 30, 31, 32, 33] g g') := by
  obtain ⟨⟨h6, h60, h7, h8, h9, -⟩, -⟩ := id h
  refine ACv.of lcX0_enqueueFence rfl rfl (fun X Q ad hR ret => ?_)
  refine AW_ls (ls' := [_]) rfl ?_
  refine a_aload_n (pc := 0) dX0_enqueueFence_0 rfl ?_
  refine a_gi (pc := 1) dX0_enqueueFence_1 fX0_30 rfl ?_
  rw [h6]
  refine a_bipush (pc := 4) (nI 60) dX0_enqueueFence_4 (by decide) ?_
  refine a_icmp_ltN (pc := 6) 10 dX0_enqueueFence_6 (by decide) (by omega) (by omega) (fun c2 => ?_) (fun c2 => ?_)
  rotate_left
  · exact absurd c2 (by omega)
  refine a_aload_n (pc := 10) dX0_enqueueFence_10 rfl ?_
  refine a_gr (pc := 11) dX0_enqueueFence_11 fX0_18 rfl ?_
  refine a_aload_n (pc := 14) dX0_enqueueFence_14 rfl ?_
  refine a_gi (pc := 15) dX0_enqueueFence_15 fX0_30 rfl ?_
  rw [h6]
  refine a_iconst (pc := 18) (-1) dX0_enqueueFence_18 (by decide) ?_
  refine a_ast (pc := 19) _ dX0_enqueueFence_19 rfl rfl (by omega) ?_
  refine a_aload_n (pc := 20) dX0_enqueueFence_20 rfl ?_
  refine a_gr (pc := 21) dX0_enqueueFence_21 fX0_21 rfl ?_
  refine a_aload_n (pc := 24) dX0_enqueueFence_24 rfl ?_
  refine a_gi (pc := 25) dX0_enqueueFence_25 fX0_30 rfl ?_
  simp only [gF_pF, gF_pA, gF_pL, gA_pF, gA_pA, gA_pL, gL_pF, gL_pA, gL_pL, reduceIte, Nat.reduceEqDiff, and_false, false_and, and_true, true_and, and_self, h6]
  refine a_iconst (pc := 28) (nI 0) dX0_enqueueFence_28 (by decide) ?_
  refine a_ast (pc := 29) _ dX0_enqueueFence_29 rfl rfl (by omega) ?_
  refine a_aload_n (pc := 30) dX0_enqueueFence_30 rfl ?_
  refine a_gr (pc := 31) dX0_enqueueFence_31 fX0_24 rfl ?_
  refine a_aload_n (pc := 34) dX0_enqueueFence_34 rfl ?_
  refine a_gi (pc := 35) dX0_enqueueFence_35 fX0_30 rfl ?_
  simp only [gF_pF, gF_pA, gF_pL, gA_pF, gA_pA, gA_pL, gL_pF, gL_pA, gL_pL, reduceIte, Nat.reduceEqDiff, and_false, false_and, and_true, true_and, and_self, h6]
  refine a_iconst (pc := 38) (nI 0) dX0_enqueueFence_38 (by decide) ?_
  refine a_ast (pc := 39) _ dX0_enqueueFence_39 rfl rfl (by omega) ?_
  refine a_aload_n (pc := 40) dX0_enqueueFence_40 rfl ?_
  refine a_gr (pc := 41) dX0_enqueueFence_41 fX0_27 rfl ?_
  refine a_aload_n (pc := 44) dX0_enqueueFence_44 rfl ?_
  refine a_gi (pc := 45) dX0_enqueueFence_45 fX0_30 rfl ?_
  simp only [gF_pF, gF_pA, gF_pL, gA_pF, gA_pA, gA_pL, gL_pF, gL_pA, gL_pL, reduceIte, Nat.reduceEqDiff, and_false, false_and, and_true, true_and, and_self, h6]
  refine a_iconst (pc := 48) (-1) dX0_enqueueFence_48 (by decide) ?_
  refine a_ast (pc := 49) _ dX0_enqueueFence_49 rfl rfl (by omega) ?_
  refine a_aload_n (pc := 50) dX0_enqueueFence_50 rfl ?_
  refine a_dup (pc := 51) dX0_enqueueFence_51 rfl ?_
  refine a_gi (pc := 52) dX0_enqueueFence_52 fX0_30 rfl ?_
  refine a_iconst (pc := 55) (nI 1) dX0_enqueueFence_55 (by decide) ?_
  refine a_iadd (pc := 56) dX0_enqueueFence_56 ?_
  try rw [nI_add]
  refine a_pi (pc := 57) dX0_enqueueFence_57 fX0_30 rfl ?_
  refine a_aload_n (pc := 60) dX0_enqueueFence_60 rfl ?_
  refine a_iconst (pc := 61) (nI 1) dX0_enqueueFence_61 (by decide) ?_
  refine a_pz (pc := 62) dX0_enqueueFence_62 fX0_40 (by first | exact Or.inl rfl | exact Or.inr rfl | exact bI_01 _) rfl ?_
  refine a_aload_n (pc := 65) dX0_enqueueFence_65 rfl ?_
  refine a_dup (pc := 66) dX0_enqueueFence_66 rfl ?_
  refine a_gi (pc := 67) dX0_enqueueFence_67 fX0_50 rfl ?_
  refine a_iconst (pc := 70) (nI 1) dX0_enqueueFence_70 (by decide) ?_
  refine a_iadd (pc := 71) dX0_enqueueFence_71 ?_
  try rw [nI_add]
  refine a_pi (pc := 72) dX0_enqueueFence_72 fX0_50 rfl ?_
  refine ret _ _ 75 _ dX0_enqueueFence_75 rfl ?_
  refine ⟨rfl, h.fe hl ?_ ?_ ?_ ?_ ?_ ?_ ?_ ?_ ?_ ?_ ?_, ?_, ?_, ?_⟩
  · simp only [gF_pF, gF_pA, gF_pL, gA_pF, gA_pA, gA_pL, gL_pF, gL_pA, gL_pL, reduceIte, Nat.reduceEqDiff, and_false, false_and, and_true, true_and, and_self, h6]
    rw [nI_add]
  · simp only [gF_pF, gF_pA, gF_pL, gA_pF, gA_pA, gA_pL, gL_pF, gL_pA, gL_pL, reduceIte, Nat.reduceEqDiff, and_false, false_and, and_true, true_and, and_self]
  · simp only [gF_pF, gF_pA, gF_pL, gA_pF, gA_pA, gA_pL, gL_pF, gL_pA, gL_pL, reduceIte, Nat.reduceEqDiff, and_false, false_and, and_true, true_and, and_self]
  · simp only [gF_pF, gF_pA, gF_pL, gA_pF, gA_pA, gA_pL, gL_pF, gL_pA, gL_pL, reduceIte, Nat.reduceEqDiff, and_false, false_and, and_true, true_and, and_self]
  · simp only [gF_pF, gF_pA, gF_pL, gA_pF, gA_pA, gA_pL, gL_pF, gL_pA, gL_pL, reduceIte, Nat.reduceEqDiff, and_false, false_and, and_true, true_and, and_self]
  · simp only [gF_pF, gF_pA, gF_pL, gA_pF, gA_pA, gA_pL, gL_pF, gL_pA, gL_pL, reduceIte, Nat.reduceEqDiff, and_false, false_and, and_true, true_and, and_self]
  · simp only [gF_pF, gF_pA, gF_pL, gA_pF, gA_pA, gA_pL, gL_pF, gL_pA, gL_pL, reduceIte, Nat.reduceEqDiff, and_false, false_and, and_true, true_and, and_self]
  · simp only [gF_pF, gF_pA, gF_pL, gA_pF, gA_pA, gA_pL, gL_pF, gL_pA, gL_pL, reduceIte, Nat.reduceEqDiff, and_false, false_and, and_true, true_and, and_self]
  · simp only [gF_pF, gF_pA, gF_pL, gA_pF, gA_pA, gA_pL, gL_pF, gL_pA, gL_pL, reduceIte, Nat.reduceEqDiff, and_false, false_and, and_true, true_and, and_self]
  · simp only [gF_pF, gF_pA, gF_pL, gA_pF, gA_pA, gA_pL, gL_pF, gL_pA, gL_pL, reduceIte, Nat.reduceEqDiff, and_false, false_and, and_true, true_and, and_self]
  · simp only [gF_pF, gF_pA, gF_pL, gA_pF, gA_pA, gA_pL, gL_pF, gL_pA, gL_pL, reduceIte, Nat.reduceEqDiff, and_false, false_and, and_true, true_and, and_self]
  · simp only [gF_pF, gF_pA, gF_pL, gA_pF, gA_pA, gA_pL, gL_pF, gL_pA, gL_pL, reduceIte, Nat.reduceEqDiff, and_false, false_and, and_true, true_and, and_self]
  · simp only [gF_pF, gF_pA, gF_pL, gA_pF, gA_pA, gA_pL, gL_pF, gL_pA, gL_pL, reduceIte, Nat.reduceEqDiff, and_false, false_and, and_true, true_and, and_self]
  · exact (((((((Fr.rf _ g).sA (by decide) _).sA (by decide) _).sA (by decide) _).sA (by decide) _).sF (by decide) _ _).sF (by decide) _ _).sF (by decide) _ _
set_option maxHeartbeats 1000000 in
set_option maxRecDepth 100000 in
theorem c_comeUp_27 {d0 kd kp rp : Nat} {g : GH} (c : Nat) (f : Nat → Int32) (hc : aiAt (SS kd kp rp) c 0 = some 32) (hc1 : c ≠ 28) (hf : ∀ p, p < 32 → gA g c p = f p) : ACv mX0_comeUpWith d0 (SS kd kp rp) g [.ref 27, .ref c] (fun S' g' => S' = SS kd kp rp ∧ CD 27 g' (f, []) ∧ gF g' 27 11 = gF g 27 11 ∧ gF g' 27 12 = gF g 27 12 + nI 1 ∧ Fr [27, 28, 29, 30, 31, 32, 33] g g') := by
  refine ACv.of lcX0_comeUpWith rfl rfl (fun X Q ad hR ret => ?_)
  refine AW_ls (ls' := [_, _, _]) rfl ?_
  refine a_iconst (pc := 0) (nI 0) dX0_comeUpWith_0 (by decide) ?_
  refine a_istore_n (pc := 1) (ls' := [_, _, _]) dX0_comeUpWith_1 (Nat.le_of_ble_eq_true rfl) rfl ?_
  have loop : ∀ t p, 32 = p + t → ∀ g1 : GH, (∀ j, j < p → gA g1 28 j = f j ∧ gA g1 29 j = f j) → (∀ j, j < 32 → gA g1 c j = f j) → (∀ k, gF g1 27 k = gF g 27 k) → Fr [27, 28, 29, 30, 31, 32, 33] g g1 → AW mX0_comeUpWith X Q ad 0 0 (conc (SS kd kp rp) g1) 2 [some (.ref 27), some (.ref c), some (.int (nI p))] [] := by
    intro t
    induction t with
    | zero =>
      intro p hp g1 h1 hcj hF hfr
      obtain rfl : p = 32 := by omega
      refine a_iload_n (pc := 2) dX0_comeUpWith_2 rfl ?_
      refine a_bipush (pc := 3) (nI 32) dX0_comeUpWith_3 (by decide) ?_
      refine a_icmp_geN (pc := 5) 32 dX0_comeUpWith_5 (by decide) (by omega) (by omega) (fun c1 => ?_) (fun c1 => ?_)
      · refine a_aload_n (pc := 32) dX0_comeUpWith_32 rfl ?_
        refine a_iconst (pc := 33) (nI 0) dX0_comeUpWith_33 (by decide) ?_
        refine a_pi (pc := 34) dX0_comeUpWith_34 fX0_30 rfl ?_
        refine a_aload_n (pc := 37) dX0_comeUpWith_37 rfl ?_
        refine a_iconst (pc := 38) (nI 0) dX0_comeUpWith_38 (by decide) ?_
        refine a_pi (pc := 39) dX0_comeUpWith_39 fX0_34 rfl ?_
        refine a_aload_n (pc := 42) dX0_comeUpWith_42 rfl ?_
        refine a_iconst (pc := 43) (nI 0) dX0_comeUpWith_43 (by decide) ?_
        refine a_pi (pc := 44) dX0_comeUpWith_44 fX0_37 rfl ?_
        refine a_aload_n (pc := 47) dX0_comeUpWith_47 rfl ?_
        refine a_iconst (pc := 48) (nI 0) dX0_comeUpWith_48 (by decide) ?_
        refine a_pz (pc := 49) dX0_comeUpWith_49 fX0_40 (by first | exact Or.inl rfl | exact Or.inr rfl | exact bI_01 _) rfl ?_
        refine a_aload_n (pc := 52) dX0_comeUpWith_52 rfl ?_
        refine a_iconst (pc := 53) (nI 0) dX0_comeUpWith_53 (by decide) ?_
        refine a_pi (pc := 54) dX0_comeUpWith_54 fX0_44 rfl ?_
        refine a_aload_n (pc := 57) dX0_comeUpWith_57 rfl ?_
        refine a_dup (pc := 58) dX0_comeUpWith_58 rfl ?_
        refine a_gi (pc := 59) dX0_comeUpWith_59 fX0_50 rfl ?_
        refine a_iconst (pc := 62) (nI 1) dX0_comeUpWith_62 (by decide) ?_
        refine a_iadd (pc := 63) dX0_comeUpWith_63 ?_
        try rw [nI_add]
        refine a_pi (pc := 64) dX0_comeUpWith_64 fX0_50 rfl ?_
        refine ret _ _ 67 _ dX0_comeUpWith_67 rfl ?_
        refine ⟨rfl, CD.up ?_ ?_ ?_ ?_ ?_ (fun p hp => ?_) (fun p hp => ?_), ?_, ?_, ?_⟩
        · simp only [gF_pF, gF_pA, gF_pL, gA_pF, gA_pA, gA_pL, gL_pF, gL_pA, gL_pL, reduceIte, Nat.reduceEqDiff, and_false, false_and, and_true, true_and, and_self]
        · simp only [gF_pF, gF_pA, gF_pL, gA_pF, gA_pA, gA_pL, gL_pF, gL_pA, gL_pL, reduceIte, Nat.reduceEqDiff, and_false, false_and, and_true, true_and, and_self]
        · simp only [gF_pF, gF_pA, gF_pL, gA_pF, gA_pA, gA_pL, gL_pF, gL_pA, gL_pL, reduceIte, Nat.reduceEqDiff, and_false, false_and, and_true, true_and, and_self]
        · simp only [gF_pF, gF_pA, gF_pL, gA_pF, gA_pA, gA_pL, gL_pF, gL_pA, gL_pL, reduceIte, Nat.reduceEqDiff, and_false, false_and, and_true, true_and, and_self]
        · simp only [gF_pF, gF_pA, gF_pL, gA_pF, gA_pA, gA_pL, gL_pF, gL_pA, gL_pL, reduceIte, Nat.reduceEqDiff, and_false, false_and, and_true, true_and, and_self]
        · exact (h1 p hp).1
        · exact (h1 p hp).2
        · simp only [gF_pF, gF_pA, gF_pL, gA_pF, gA_pA, gA_pL, gL_pF, gL_pA, gL_pL, reduceIte, Nat.reduceEqDiff, and_false, false_and, and_true, true_and, and_self, hF]
        · simp only [gF_pF, gF_pA, gF_pL, gA_pF, gA_pA, gA_pL, gL_pF, gL_pA, gL_pL, reduceIte, Nat.reduceEqDiff, and_false, false_and, and_true, true_and, and_self, hF]
        · exact (((((hfr.sF (by decide) _ _).sF (by decide) _ _).sF (by decide) _ _).sF (by decide) _ _).sF (by decide) _ _).sF (by decide) _ _
      · exact absurd c1 (by omega)
    | succ t ih =>
      intro p hp g1 h1 hcj hF hfr
      refine a_iload_n (pc := 2) dX0_comeUpWith_2 rfl ?_
      refine a_bipush (pc := 3) (nI 32) dX0_comeUpWith_3 (by decide) ?_
      refine a_icmp_geN (pc := 5) 32 dX0_comeUpWith_5 (by decide) (by omega) (by omega) (fun c1 => ?_) (fun c1 => ?_)
      · exact absurd c1 (by omega)
      · refine a_aload_n (pc := 8) dX0_comeUpWith_8 rfl ?_
        refine a_gr (pc := 9) dX0_comeUpWith_9 fX0_9 rfl ?_
        refine a_iload_n (pc := 12) dX0_comeUpWith_12 rfl ?_
        refine a_aload_n (pc := 13) dX0_comeUpWith_13 rfl ?_
        refine a_iload_n (pc := 14) dX0_comeUpWith_14 rfl ?_
        refine a_ial (pc := 15) _ dX0_comeUpWith_15 hc rfl (by omega) ?_
        rw [hcj p (by omega)]
        refine a_ast (pc := 16) _ dX0_comeUpWith_16 rfl rfl (by omega) ?_
        refine a_aload_n (pc := 17) dX0_comeUpWith_17 rfl ?_
        refine a_gr (pc := 18) dX0_comeUpWith_18 fX0_15 rfl ?_
        refine a_iload_n (pc := 21) dX0_comeUpWith_21 rfl ?_
        refine a_aload_n (pc := 22) dX0_comeUpWith_22 rfl ?_
        refine a_iload_n (pc := 23) dX0_comeUpWith_23 rfl ?_
        refine a_ial (pc := 24) _ dX0_comeUpWith_24 hc rfl (by omega) ?_
        rw [show gA (pA g1 28 (upd (gA g1 28) p (f p))) c p = f p by rw [gA_pA, if_neg hc1]; exact hcj p (by omega)]
        refine a_ast (pc := 25) _ dX0_comeUpWith_25 rfl rfl (by omega) ?_
        refine a_iinc (pc := 26) (ls' := [_, _, _]) (nI 1) dX0_comeUpWith_26 (by decide) rfl (Nat.le_of_ble_eq_true rfl) rfl ?_
        try rw [nI_add]
        refine a_goto (pc := 29) 2 dX0_comeUpWith_29 (by decide) ?_
        refine ih (p + 1) (by omega) _ (fun j hj => ?_) (fun j hj => ?_) (fun k => hF k) ((hfr.sA (by decide) _).sA (by decide) _)
        · simp only [gF_pF, gF_pA, gF_pL, gA_pF, gA_pA, gA_pL, gL_pF, gL_pA, gL_pL, reduceIte, Nat.reduceEqDiff, and_false, false_and, and_true, true_and, and_self, upd]
          by_cases e : j = p
          · rw [if_pos e, if_pos e, e]
            exact ⟨rfl, rfl⟩
          · rw [if_neg e, if_neg e]
            exact h1 j (by omega)
        · rw [gA_pA]
          by_cases e2 : c = 29
          · rw [if_pos e2]
            subst e2
            simp only [upd]
            by_cases e : j = p
            · rw [if_pos e, e]
            · rw [if_neg e]
              exact hcj j hj
          · rw [if_neg e2, gA_pA, if_neg hc1]
            exact hcj j hj
  exact loop 32 0 (by omega) g (fun j h => absurd h (by omega)) hf (fun _ => rfl) (Fr.rf _ g)
set_option maxRecDepth 100000 in
theorem c_settle_27 {d0 kd kp rp : Nat} {g : GH} (q : Qd) (h : CD 27 g q) : ACv mX0_settle (d0 + 1) (SS kd kp rp) g [.ref 27] (fun S' g' => S' = SS kd kp rp ∧ CD 27 g' (flQ q, []) ∧ gF g' 27 11 = gF g 27 11 ∧ gF g' 27 12 = gF g 27 12 + nI 1 ∧ Fr [27, 28, 29, 30, 31, 32, 33] g g') := by
  refine ACv.of lcX0_settle rfl rfl (fun X Q ad hR ret => ?_)
  refine AW_ls (ls' := [_]) rfl ?_
  refine a_aload_n (pc := 0) dX0_settle_0 rfl ?_
  refine a_aload_n (pc := 1) dX0_settle_1 rfl ?_
  refine a_gr (pc := 2) dX0_settle_2 fX0_15 rfl ?_
  refine a_V1v (pc := 5) 0 dX0_settle_5 lcX0_comeUpWith lX0_72 rfl rfl rfl (fit_of hR (by omega) rfl) (c_comeUp_27 (d0 := d0) 29 (flQ q) rfl (by decide) h.2.2.1) rfl rfl (fun S' g' hS hp => ?_)
  obtain ⟨rfl, hp⟩ := hp
  refine ret _ _ 8 _ dX0_settle_8 rfl ?_
  exact ⟨rfl, hp⟩
