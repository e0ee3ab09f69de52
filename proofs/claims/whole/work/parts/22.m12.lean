def entI (g : GH) (n : Nat) (i : Int32) : Bool := insQ i (nI 0) (nI n - nI 1)
theorem entI_ok {i : Int32} {n : Nat} (hn : n < 2147483648) : insQ i (nI 0) (nI n - nI 1) = true ↔ ∃ j, j < n ∧ i = nI j := by
  cases n with
  | zero =>
    constructor
    · intro h
      unfold insQ at h
      rw [Bool.and_eq_true, decide_eq_true_iff, decide_eq_true_iff] at h
      have h2 : (nI 0 : Int32) ≤ nI 0 - nI 1 := Int32.le_trans h.1 h.2
      exact absurd h2 (by decide)
    · rintro ⟨j, hj, -⟩
      exact absurd hj (by omega)
  | succ m =>
    rw [show nI (m + 1) - nI 1 = nI m from nI_pred m, insQ_ok (by omega)]
    constructor
    · rintro ⟨j, hj, h⟩
      exact ⟨j, by omega, h⟩
    · rintro ⟨j, hj, h⟩
      exact ⟨j, by omega, h⟩
set_option maxRecDepth 100000 in
theorem c_mentry1 {d0 kd kp rp : Nat} {g : GH} (i w : Int32) (n : Nat) (hn : gA g 81 0 = nI n) (h : insQ i (nI 0) (nI n - nI 1) = false) : ACi mX11_entry (d0 + 1) (SS kd kp rp) g [.ref 76, .int i, .int w] (fun r S' g' => S' = SS kd kp rp ∧ g' = rfu (th0 g) 1 ∧ r = -nI 1) := by
  refine ACi.of lcX11_entry rfl rfl (fun X Q ad hR ret => ?_)
  refine AW_ls (ls' := [_, _, _, _]) rfl ?_
  refine a_aload_n (pc := 0) dX11_entry_0 rfl ?_
  refine a_iconst (pc := 1) (nI 0) dX11_entry_1 (by decide) ?_
  refine a_pi (pc := 2) dX11_entry_2 fX11_104 rfl ?_
  refine a_iload_n (pc := 5) dX11_entry_5 rfl ?_
  refine a_iconst (pc := 6) (nI 0) dX11_entry_6 (by decide) ?_
  refine a_aload_n (pc := 7) dX11_entry_7 rfl ?_
  refine a_gr (pc := 8) dX11_entry_8 fX11_22 rfl ?_
  refine a_iconst (pc := 11) (nI 0) dX11_entry_11 (by decide) ?_
  refine a_ial (pc := 12) _ dX11_entry_12 rfl rfl (by omega) ?_
  simp only [gF_pF, gF_pA, gF_pL, gA_pF, gA_pA, gA_pL, gL_pF, gL_pA, gL_pL, reduceIte, Nat.reduceEqDiff, and_false, false_and, and_true, true_and, and_self, hn]
  refine a_iconst (pc := 13) (nI 1) dX11_entry_13 (by decide) ?_
  refine a_isub (pc := 14) dX11_entry_14 ?_
  refine a_S3i (pc := 15) dX11_entry_15 lcX11_in lX11_110 (fit_of hR (by omega) rfl) (c_in (d := d0) i (nI 0) (nI n - nI 1)) rfl rfl (ex_i ?_)
  refine a_if_neB (pc := 18) 27 dX11_entry_18 (by decide) (fun cc => ?_) (fun cc => ?_)
  · exact absurd (cc.symm.trans h) (by decide)
  · refine a_aload_n (pc := 21) dX11_entry_21 rfl ?_
    refine a_iconst (pc := 22) (-1) dX11_entry_22 (by decide) ?_
    refine a_V1i (pc := 23) 10 dX11_entry_23 lcX11_refuse lX11_114 rfl rfl rfl (fit_of hR (by omega) rfl) (c_refuse (d := d0) 1 (by decide)) rfl rfl (ex_i ?_)
    refine ret _ _ 26 _ _ dX11_entry_26 rfl ?_
    exact ⟨rfl, rfl, rfl⟩
def entR (g : GH) (i : Nat) (w : Int32) : Int32 := if w = 0 then gA g 78 i else if w = nI 1 then gA g 79 i else if w = nI 2 then gA g 80 i else if w = nI 3 then (if gA g 78 i = -1 then -1 else nI (weN (gA g 78) i)) else -9
set_option maxRecDepth 100000 in
theorem c_mentry2 {d0 kd kp rp : Nat} {g : GH} (i n : Nat) (w : Int32) (hn : gA g 81 0 = nI n) (hn60 : n ≤ 60) (hi : i < n) : ACi mX11_entry (d0 + 1) (SS kd kp rp) g [.ref 76, .int (nI i), .int w] (fun r S' g' => S' = SS kd kp rp ∧ g' = th0 g ∧ r = entR g i w) := by
  have h := (entI_ok (i := nI i) (n := n) (by omega)).mpr ⟨i, hi, rfl⟩
  refine ACi.of lcX11_entry rfl rfl (fun X Q ad hR ret => ?_)
  refine AW_ls (ls' := [_, _, _, _]) rfl ?_
  refine a_aload_n (pc := 0) dX11_entry_0 rfl ?_
  refine a_iconst (pc := 1) (nI 0) dX11_entry_1 (by decide) ?_
  refine a_pi (pc := 2) dX11_entry_2 fX11_104 rfl ?_
  refine a_iload_n (pc := 5) dX11_entry_5 rfl ?_
  refine a_iconst (pc := 6) (nI 0) dX11_entry_6 (by decide) ?_
  refine a_aload_n (pc := 7) dX11_entry_7 rfl ?_
  refine a_gr (pc := 8) dX11_entry_8 fX11_22 rfl ?_
  refine a_iconst (pc := 11) (nI 0) dX11_entry_11 (by decide) ?_
  refine a_ial (pc := 12) _ dX11_entry_12 rfl rfl (by omega) ?_
  simp only [gF_pF, gF_pA, gF_pL, gA_pF, gA_pA, gA_pL, gL_pF, gL_pA, gL_pL, reduceIte, Nat.reduceEqDiff, and_false, false_and, and_true, true_and, and_self, hn]
  refine a_iconst (pc := 13) (nI 1) dX11_entry_13 (by decide) ?_
  refine a_isub (pc := 14) dX11_entry_14 ?_
  refine a_S3i (pc := 15) dX11_entry_15 lcX11_in lX11_110 (fit_of hR (by omega) rfl) (c_in (d := d0) (nI i) (nI 0) (nI n - nI 1)) rfl rfl (ex_i ?_)
  refine a_if_neB (pc := 18) 27 dX11_entry_18 (by decide) (fun cc => ?_) (fun cc => ?_)
  · refine a_aload_n (pc := 27) dX11_entry_27 rfl ?_
    refine a_gr (pc := 28) dX11_entry_28 fX11_13 rfl ?_
    refine a_iload_n (pc := 31) dX11_entry_31 rfl ?_
    refine a_ial (pc := 32) _ dX11_entry_32 rfl rfl (by omega) ?_
    simp only [gF_pF, gF_pA, gF_pL, gA_pF, gA_pA, gA_pL, gL_pF, gL_pA, gL_pL, reduceIte, Nat.reduceEqDiff, and_false, false_and, and_true, true_and, and_self]
    refine a_iconst (pc := 33) (-1) dX11_entry_33 (by decide) ?_
    refine AW_val3 42 (bI (decide (gA g 78 i = -1))) (fun hJ => ?_) ?_
    · refine a_icmp_ne (pc := 34) 41 dX11_entry_34 (by decide) (fun cc => ?_) (fun cc => ?_)
      · refine a_iconst (pc := 41) (nI 0) dX11_entry_41 (by decide) ?_
        exact AW_top (bI_ndec _ cc).symm hJ
      · refine a_iconst (pc := 37) (nI 1) dX11_entry_37 (by decide) ?_
        refine a_goto (pc := 38) 42 dX11_entry_38 (by decide) ?_
        exact AW_top (bI_dec _ cc).symm hJ
    refine a_istore_n (pc := 42) (ls' := [_, _, _, _]) dX11_entry_42 (Nat.le_of_ble_eq_true rfl) rfl ?_
    refine a_iload_n (pc := 43) dX11_entry_43 rfl ?_
    refine a_if_ne (pc := 44) 56 dX11_entry_44 (by decide) (fun c0 => ?_) (fun c0 => ?_)
    · refine a_iload_n (pc := 56) dX11_entry_56 rfl ?_
      refine a_iconst (pc := 57) (nI 1) dX11_entry_57 (by decide) ?_
      refine a_icmp_ne (pc := 58) 70 dX11_entry_58 (by decide) (fun c1 => ?_) (fun c1 => ?_)
      · refine a_iload_n (pc := 70) dX11_entry_70 rfl ?_
        refine a_iconst (pc := 71) (nI 2) dX11_entry_71 (by decide) ?_
        refine a_icmp_ne (pc := 72) 84 dX11_entry_72 (by decide) (fun c2 => ?_) (fun c2 => ?_)
        · refine a_iload_n (pc := 84) dX11_entry_84 rfl ?_
          refine a_iconst (pc := 85) (nI 3) dX11_entry_85 (by decide) ?_
          refine a_icmp_ne (pc := 86) 106 dX11_entry_86 (by decide) (fun c3 => ?_) (fun c3 => ?_)
          · refine a_bipush (pc := 106) (-9) dX11_entry_106 (by decide) ?_
            refine ret _ _ 108 _ _ dX11_entry_108 rfl ?_
            exact ⟨rfl, rfl, by rw [entR, if_neg c0, if_neg c1, if_neg c2, if_neg c3]⟩
          · refine a_iload_n (pc := 89) dX11_entry_89 rfl ?_
            refine a_if_eqB (pc := 90) 97 dX11_entry_90 (by decide) (fun c4 => ?_) (fun c4 => ?_)
            · refine a_aload_n (pc := 97) dX11_entry_97 rfl ?_
              refine a_iconst (pc := 98) (nI 0) dX11_entry_98 (by decide) ?_
              refine a_iload_n (pc := 99) dX11_entry_99 rfl ?_
              refine a_V2i (pc := 100) 10 dX11_entry_100 lcX11_writeEpoch lX11_133 rfl rfl rfl (fit_of hR (by omega) rfl) (c_writeEpoch (d0 := d0) 0 i (by decide) (by omega)) rfl rfl (ex_i ?_)
              refine a_goto (pc := 103) 108 dX11_entry_103 (by decide) ?_
              refine ret _ _ 108 _ _ dX11_entry_108 rfl ?_
              refine ⟨rfl, rfl, ?_⟩
              rw [entR, if_neg c0, if_neg c1, if_neg c2, if_pos c3, if_neg (of_decide_eq_false c4)]
              simp [gA_pF]
            · refine a_iconst (pc := 93) (-1) dX11_entry_93 (by decide) ?_
              refine a_goto (pc := 94) 108 dX11_entry_94 (by decide) ?_
              refine ret _ _ 108 _ _ dX11_entry_108 rfl ?_
              exact ⟨rfl, rfl, by rw [entR, if_neg c0, if_neg c1, if_neg c2, if_pos c3, if_pos (of_decide_eq_true c4)]⟩
        · refine a_aload_n (pc := 75) dX11_entry_75 rfl ?_
          refine a_gr (pc := 76) dX11_entry_76 fX11_19 rfl ?_
          refine a_iload_n (pc := 79) dX11_entry_79 rfl ?_
          refine a_ial (pc := 80) _ dX11_entry_80 rfl rfl (by omega) ?_
          refine a_goto (pc := 81) 108 dX11_entry_81 (by decide) ?_
          refine ret _ _ 108 _ _ dX11_entry_108 rfl ?_
          exact ⟨rfl, rfl, by rw [entR, if_neg c0, if_neg c1, if_pos c2]; rfl⟩
      · refine a_aload_n (pc := 61) dX11_entry_61 rfl ?_
        refine a_gr (pc := 62) dX11_entry_62 fX11_16 rfl ?_
        refine a_iload_n (pc := 65) dX11_entry_65 rfl ?_
        refine a_ial (pc := 66) _ dX11_entry_66 rfl rfl (by omega) ?_
        refine a_goto (pc := 67) 108 dX11_entry_67 (by decide) ?_
        refine ret _ _ 108 _ _ dX11_entry_108 rfl ?_
        exact ⟨rfl, rfl, by rw [entR, if_neg c0, if_pos c1]; rfl⟩
    · refine a_aload_n (pc := 47) dX11_entry_47 rfl ?_
      refine a_gr (pc := 48) dX11_entry_48 fX11_13 rfl ?_
      refine a_iload_n (pc := 51) dX11_entry_51 rfl ?_
      refine a_ial (pc := 52) _ dX11_entry_52 rfl rfl (by omega) ?_
      refine a_goto (pc := 53) 108 dX11_entry_53 (by decide) ?_
      refine ret _ _ 108 _ _ dX11_entry_108 rfl ?_
      exact ⟨rfl, rfl, by rw [entR, if_pos c0]; rfl⟩
  · exact absurd (h.symm.trans cc) (by decide)
def addG (g : GH) (w k l : Int32) (v : Int64) (n : Nat) : GH := pF (pL (pA (pA (pA g 93 (upd (gA g 93) n w)) 94 (upd (gA g 94) n k)) 95 (upd (gA g 95) n l)) 96 (vp_updL (gL g 96) n v)) 76 22 (nI (n + 1))
set_option maxRecDepth 100000 in
theorem c_add1 {d0 kd kp rp : Nat} {g : GH} (w k l : Int32) (v : Int64) (hn : gF g 76 22 = nI 8) : ACi mX11_add (d0 + 1) (SS kd kp rp) g [.ref 76, .int w, .int k, .int l, .long v] (fun r S' g' => S' = SS kd kp rp ∧ g' = rfu g 6 ∧ r = -nI 6) := by
  refine ACi.of lcX11_add rfl rfl (fun X Q ad hR ret => ?_)
  refine AW_ls (ls' := [_, _, _, _, _, _]) rfl ?_
  refine a_aload_n (pc := 0) dX11_add_0 rfl ?_
  refine a_gi (pc := 1) dX11_add_1 fX11_225 rfl ?_
  rw [hn]
  refine a_bipush (pc := 4) (nI 8) dX11_add_4 (by decide) ?_
  refine a_icmp_neN (pc := 6) 16 dX11_add_6 (by decide) (by omega) (by omega) (fun cc => ?_) (fun cc => ?_)
  · exact absurd rfl cc
  · refine a_aload_n (pc := 9) dX11_add_9 rfl ?_
    refine a_bipush (pc := 10) (-6) dX11_add_10 (by decide) ?_
    refine a_V1i (pc := 12) 10 dX11_add_12 lcX11_refuse lX11_114 rfl rfl rfl (fit_of hR (by omega) rfl) (c_refuse (d := d0) 6 (by decide)) rfl rfl (ex_i ?_)
    refine ret _ _ 15 _ _ dX11_add_15 rfl ?_
    exact ⟨rfl, rfl, rfl⟩
set_option maxRecDepth 100000 in
theorem c_add2 {d0 kd kp rp : Nat} {g : GH} (w k l : Int32) (v : Int64) (n : Nat) (hn : gF g 76 22 = nI n) (hn8 : n < 8) : ACi mX11_add (d0 + 1) (SS kd kp rp) g [.ref 76, .int w, .int k, .int l, .long v] (fun r S' g' => S' = SS kd kp rp ∧ g' = addG g w k l v n ∧ r = nI (n + 1)) := by
  refine ACi.of lcX11_add rfl rfl (fun X Q ad hR ret => ?_)
  refine AW_ls (ls' := [_, _, _, _, _, _]) rfl ?_
  refine a_aload_n (pc := 0) dX11_add_0 rfl ?_
  refine a_gi (pc := 1) dX11_add_1 fX11_225 rfl ?_
  rw [hn]
  refine a_bipush (pc := 4) (nI 8) dX11_add_4 (by decide) ?_
  refine a_icmp_neN (pc := 6) 16 dX11_add_6 (by decide) (by omega) (by omega) (fun cc => ?_) (fun cc => ?_)
  · refine a_aload_n (pc := 16) dX11_add_16 rfl ?_
    refine a_gr (pc := 17) dX11_add_17 fX11_64 rfl ?_
    refine a_aload_n (pc := 20) dX11_add_20 rfl ?_
    refine a_gi (pc := 21) dX11_add_21 fX11_225 rfl ?_
    rw [hn]
    refine a_iload_n (pc := 24) dX11_add_24 rfl ?_
    refine a_ast (pc := 25) _ dX11_add_25 rfl rfl (by omega) ?_
    refine a_aload_n (pc := 26) dX11_add_26 rfl ?_
    refine a_gr (pc := 27) dX11_add_27 fX11_67 rfl ?_
    refine a_aload_n (pc := 30) dX11_add_30 rfl ?_
    refine a_gi (pc := 31) dX11_add_31 fX11_225 rfl ?_
    simp only [gF_pF, gF_pA, gF_pL, gA_pF, gA_pA, gA_pL, gL_pF, gL_pA, gL_pL, reduceIte, Nat.reduceEqDiff, and_false, false_and, and_true, true_and, and_self, hn]
    refine a_iload_n (pc := 34) dX11_add_34 rfl ?_
    refine a_ast (pc := 35) _ dX11_add_35 rfl rfl (by omega) ?_
    refine a_aload_n (pc := 36) dX11_add_36 rfl ?_
    refine a_gr (pc := 37) dX11_add_37 fX11_70 rfl ?_
    refine a_aload_n (pc := 40) dX11_add_40 rfl ?_
    refine a_gi (pc := 41) dX11_add_41 fX11_225 rfl ?_
    simp only [gF_pF, gF_pA, gF_pL, gA_pF, gA_pA, gA_pL, gL_pF, gL_pA, gL_pL, reduceIte, Nat.reduceEqDiff, and_false, false_and, and_true, true_and, and_self, hn]
    refine a_iload_n (pc := 44) dX11_add_44 rfl ?_
    refine a_ast (pc := 45) _ dX11_add_45 rfl rfl (by omega) ?_
    refine a_aload_n (pc := 46) dX11_add_46 rfl ?_
    refine a_gr (pc := 47) dX11_add_47 fX11_73 rfl ?_
    refine a_aload_n (pc := 50) dX11_add_50 rfl ?_
    refine a_gi (pc := 51) dX11_add_51 fX11_225 rfl ?_
    simp only [gF_pF, gF_pA, gF_pL, gA_pF, gA_pA, gA_pL, gL_pF, gL_pA, gL_pL, reduceIte, Nat.reduceEqDiff, and_false, false_and, and_true, true_and, and_self, hn]
    refine a_lload (pc := 54) dX11_add_54 rfl ?_
    refine a_lst (pc := 56) _ dX11_add_56 rfl rfl (by omega) ?_
    refine a_aload_n (pc := 57) dX11_add_57 rfl ?_
    refine a_dup (pc := 58) dX11_add_58 rfl ?_
    refine a_gi (pc := 59) dX11_add_59 fX11_225 rfl ?_
    simp only [gF_pF, gF_pA, gF_pL, gA_pF, gA_pA, gA_pL, gL_pF, gL_pA, gL_pL, reduceIte, Nat.reduceEqDiff, and_false, false_and, and_true, true_and, and_self, hn]
    refine a_iconst (pc := 62) (nI 1) dX11_add_62 (by decide) ?_
    refine a_iadd (pc := 63) dX11_add_63 ?_
    try rw [nI_add]
    refine a_pi (pc := 64) dX11_add_64 fX11_225 rfl ?_
    refine a_aload_n (pc := 67) dX11_add_67 rfl ?_
    refine a_gi (pc := 68) dX11_add_68 fX11_225 rfl ?_
    simp only [gF_pF, gF_pA, gF_pL, gA_pF, gA_pA, gA_pL, gL_pF, gL_pA, gL_pL, reduceIte, Nat.reduceEqDiff, and_false, false_and, and_true, true_and, and_self]
    refine ret _ _ 71 _ _ dX11_add_71 rfl ?_
    exact ⟨rfl, rfl, rfl⟩
  · exact absurd cc (by omega)
set_option maxRecDepth 100000 in
theorem c_maddPut1 {d0 kd kp rp : Nat} {g : GH} (k : Int32) (v : Int64) (h : insQ k (nI 0) (nI 2) = false) : ACi mX11_addPut (d0 + 2) (SS kd kp rp) g [.ref 76, .int k, .long v] (fun r S' g' => S' = SS kd kp rp ∧ g' = rfu (th0 g) 1 ∧ r = -nI 1) := by
  refine ACi.of lcX11_addPut rfl rfl (fun X Q ad hR ret => ?_)
  refine AW_ls (ls' := [_, _, _, _]) rfl ?_
  refine a_aload_n (pc := 0) dX11_addPut_0 rfl ?_
  refine a_iconst (pc := 1) (nI 0) dX11_addPut_1 (by decide) ?_
  refine a_pi (pc := 2) dX11_addPut_2 fX11_104 rfl ?_
  refine a_iload_n (pc := 5) dX11_addPut_5 rfl ?_
  refine a_iconst (pc := 6) (nI 0) dX11_addPut_6 (by decide) ?_
  refine a_iconst (pc := 7) (nI 2) dX11_addPut_7 (by decide) ?_
  refine a_S3i (pc := 8) dX11_addPut_8 lcX11_in lX11_110 (fit_of hR (by omega) rfl) (c_in (d := d0) k (nI 0) (nI 2)) rfl rfl (ex_i ?_)
  refine a_if_eqB (pc := 11) 26 dX11_addPut_11 (by decide) (fun cc => ?_) (fun cc => ?_)
  · refine a_aload_n (pc := 26) dX11_addPut_26 rfl ?_
    refine a_iconst (pc := 27) (-1) dX11_addPut_27 (by decide) ?_
    refine a_V1i (pc := 28) 10 dX11_addPut_28 lcX11_refuse lX11_114 rfl rfl rfl (fit_of hR (by omega) rfl) (c_refuse (d := d0) 1 (by decide)) rfl rfl (ex_i ?_)
    refine ret _ _ 31 _ _ dX11_addPut_31 rfl ?_
    exact ⟨rfl, rfl, rfl⟩
  · exact absurd (cc.symm.trans h) (by decide)
set_option maxRecDepth 100000 in
theorem c_maddPut2 {d0 kd kp rp : Nat} {g : GH} (k : Int32) (v : Int64) (h : insQ k (nI 0) (nI 2) = true) (hn : gF g 76 22 = nI 8) : ACi mX11_addPut (d0 + 2) (SS kd kp rp) g [.ref 76, .int k, .long v] (fun r S' g' => S' = SS kd kp rp ∧ g' = rfu (th0 g) 6 ∧ r = -nI 6) := by
  refine ACi.of lcX11_addPut rfl rfl (fun X Q ad hR ret => ?_)
  refine AW_ls (ls' := [_, _, _, _]) rfl ?_
  refine a_aload_n (pc := 0) dX11_addPut_0 rfl ?_
  refine a_iconst (pc := 1) (nI 0) dX11_addPut_1 (by decide) ?_
  refine a_pi (pc := 2) dX11_addPut_2 fX11_104 rfl ?_
  refine a_iload_n (pc := 5) dX11_addPut_5 rfl ?_
  refine a_iconst (pc := 6) (nI 0) dX11_addPut_6 (by decide) ?_
  refine a_iconst (pc := 7) (nI 2) dX11_addPut_7 (by decide) ?_
  refine a_S3i (pc := 8) dX11_addPut_8 lcX11_in lX11_110 (fit_of hR (by omega) rfl) (c_in (d := d0) k (nI 0) (nI 2)) rfl rfl (ex_i ?_)
  refine a_if_eqB (pc := 11) 26 dX11_addPut_11 (by decide) (fun cc => ?_) (fun cc => ?_)
  · exact absurd (h.symm.trans cc) (by decide)
  · refine a_aload_n (pc := 14) dX11_addPut_14 rfl ?_
    refine a_iconst (pc := 15) (nI 0) dX11_addPut_15 (by decide) ?_
    refine a_iload_n (pc := 16) dX11_addPut_16 rfl ?_
    refine a_bipush (pc := 17) (-9) dX11_addPut_17 (by decide) ?_
    refine a_lload_n (pc := 19) dX11_addPut_19 rfl ?_
    refine a_V4i (pc := 20) 10 dX11_addPut_20 lcX11_add lX11_228 rfl rfl rfl (fit_of hR (by omega) rfl) (c_add1 (d0 := d0) _ _ _ _ hn) rfl rfl (ex_i ?_)
    refine a_goto (pc := 23) 31 dX11_addPut_23 (by decide) ?_
    refine ret _ _ 31 _ _ dX11_addPut_31 rfl ?_
    exact ⟨rfl, rfl, rfl⟩
set_option maxRecDepth 100000 in
theorem c_maddPut3 {d0 kd kp rp : Nat} {g : GH} (k : Int32) (v : Int64) (n : Nat) (h : insQ k (nI 0) (nI 2) = true) (hn : gF g 76 22 = nI n) (hn8 : n < 8) : ACi mX11_addPut (d0 + 2) (SS kd kp rp) g [.ref 76, .int k, .long v] (fun r S' g' => S' = SS kd kp rp ∧ g' = addG (th0 g) (nI 0) k (-9) v n ∧ r = nI (n + 1)) := by
  refine ACi.of lcX11_addPut rfl rfl (fun X Q ad hR ret => ?_)
  refine AW_ls (ls' := [_, _, _, _]) rfl ?_
  refine a_aload_n (pc := 0) dX11_addPut_0 rfl ?_
  refine a_iconst (pc := 1) (nI 0) dX11_addPut_1 (by decide) ?_
  refine a_pi (pc := 2) dX11_addPut_2 fX11_104 rfl ?_
  refine a_iload_n (pc := 5) dX11_addPut_5 rfl ?_
  refine a_iconst (pc := 6) (nI 0) dX11_addPut_6 (by decide) ?_
  refine a_iconst (pc := 7) (nI 2) dX11_addPut_7 (by decide) ?_
  refine a_S3i (pc := 8) dX11_addPut_8 lcX11_in lX11_110 (fit_of hR (by omega) rfl) (c_in (d := d0) k (nI 0) (nI 2)) rfl rfl (ex_i ?_)
  refine a_if_eqB (pc := 11) 26 dX11_addPut_11 (by decide) (fun cc => ?_) (fun cc => ?_)
  · exact absurd (h.symm.trans cc) (by decide)
  · refine a_aload_n (pc := 14) dX11_addPut_14 rfl ?_
    refine a_iconst (pc := 15) (nI 0) dX11_addPut_15 (by decide) ?_
    refine a_iload_n (pc := 16) dX11_addPut_16 rfl ?_
    refine a_bipush (pc := 17) (-9) dX11_addPut_17 (by decide) ?_
    refine a_lload_n (pc := 19) dX11_addPut_19 rfl ?_
    refine a_V4i (pc := 20) 10 dX11_addPut_20 lcX11_add lX11_228 rfl rfl rfl (fit_of hR (by omega) rfl) (c_add2 (d0 := d0) _ _ _ _ n hn hn8) rfl rfl (ex_i ?_)
    refine a_goto (pc := 23) 31 dX11_addPut_23 (by decide) ?_
    refine ret _ _ 31 _ _ dX11_addPut_31 rfl ?_
    exact ⟨rfl, rfl, rfl⟩
set_option maxRecDepth 100000 in
theorem c_maddMove1 {d0 kd kp rp : Nat} {g : GH} (k l : Int32) (h : twoK k l = false) : ACi mX11_addMove (d0 + 2) (SS kd kp rp) g [.ref 76, .int k, .int l] (fun r S' g' => S' = SS kd kp rp ∧ g' = rfu (th0 g) 1 ∧ r = -nI 1) := by
  refine ACi.of lcX11_addMove rfl rfl (fun X Q ad hR ret => ?_)
  refine AW_ls (ls' := [_, _, _]) rfl ?_
  refine a_aload_n (pc := 0) dX11_addMove_0 rfl ?_
  refine a_iconst (pc := 1) (nI 0) dX11_addMove_1 (by decide) ?_
  refine a_pi (pc := 2) dX11_addMove_2 fX11_104 rfl ?_
  refine a_iload_n (pc := 5) dX11_addMove_5 rfl ?_
  refine a_iconst (pc := 6) (nI 0) dX11_addMove_6 (by decide) ?_
  refine a_iconst (pc := 7) (nI 2) dX11_addMove_7 (by decide) ?_
  have no : AW mX11_addMove X Q ad 0 0 (conc (SS kd kp rp) (pF g 76 0 (nI 0))) 39 [some (.ref 76), some (.int k), some (.int l)] [] := by
    refine a_aload_n (pc := 39) dX11_addMove_39 rfl ?_
    refine a_iconst (pc := 40) (-1) dX11_addMove_40 (by decide) ?_
    refine a_V1i (pc := 41) 10 dX11_addMove_41 lcX11_refuse lX11_114 rfl rfl rfl (fit_of hR (by omega) rfl) (c_refuse (d := d0) 1 (by decide)) rfl rfl (ex_i ?_)
    refine ret _ _ 44 _ _ dX11_addMove_44 rfl ?_
    exact ⟨rfl, rfl, rfl⟩
  refine a_S3i (pc := 8) dX11_addMove_8 lcX11_in lX11_110 (fit_of hR (by omega) rfl) (c_in (d := d0) k (nI 0) (nI 2)) rfl rfl (ex_i ?_)
  refine a_if_eqB (pc := 11) 39 dX11_addMove_11 (by decide) (fun c1 => ?_) (fun c1 => ?_)
  · exact no
  · refine a_iload_n (pc := 14) dX11_addMove_14 rfl ?_
    refine a_iconst (pc := 15) (nI 0) dX11_addMove_15 (by decide) ?_
    refine a_iconst (pc := 16) (nI 2) dX11_addMove_16 (by decide) ?_
    refine a_S3i (pc := 17) dX11_addMove_17 lcX11_in lX11_110 (fit_of hR (by omega) rfl) (c_in (d := d0) l (nI 0) (nI 2)) rfl rfl (ex_i ?_)
    refine a_if_eqB (pc := 20) 39 dX11_addMove_20 (by decide) (fun c2 => ?_) (fun c2 => ?_)
    · exact no
    · refine a_iload_n (pc := 23) dX11_addMove_23 rfl ?_
      refine a_iload_n (pc := 24) dX11_addMove_24 rfl ?_
      refine a_icmp_eq (pc := 25) 39 dX11_addMove_25 (by decide) (fun c3 => ?_) (fun c3 => ?_)
      · exact no
      · exfalso
        have h2 : insQ k (nI 0) (nI 2) = true := c1
        have h3 : insQ l (nI 0) (nI 2) = true := c2
        simp [twoK, h2, h3, c3] at h
theorem twoK_ok {k l : Int32} (h : twoK k l = true) : insQ k (nI 0) (nI 2) = true ∧ insQ l (nI 0) (nI 2) = true ∧ ¬ k = l := by
  unfold twoK at h
  simpa only [Bool.and_eq_true, Bool.not_eq_true', decide_eq_false_iff_not] using h
set_option maxRecDepth 100000 in
theorem c_maddMove2 {d0 kd kp rp : Nat} {g : GH} (k l : Int32) (h : twoK k l = true) (hn : gF g 76 22 = nI 8) : ACi mX11_addMove (d0 + 2) (SS kd kp rp) g [.ref 76, .int k, .int l] (fun r S' g' => S' = SS kd kp rp ∧ g' = rfu (th0 g) 6 ∧ r = -nI 6) := by
  obtain ⟨h1, h2, h3⟩ := twoK_ok h
  refine ACi.of lcX11_addMove rfl rfl (fun X Q ad hR ret => ?_)
  refine AW_ls (ls' := [_, _, _]) rfl ?_
  refine a_aload_n (pc := 0) dX11_addMove_0 rfl ?_
  refine a_iconst (pc := 1) (nI 0) dX11_addMove_1 (by decide) ?_
  refine a_pi (pc := 2) dX11_addMove_2 fX11_104 rfl ?_
  refine a_iload_n (pc := 5) dX11_addMove_5 rfl ?_
  refine a_iconst (pc := 6) (nI 0) dX11_addMove_6 (by decide) ?_
  refine a_iconst (pc := 7) (nI 2) dX11_addMove_7 (by decide) ?_
  refine a_S3i (pc := 8) dX11_addMove_8 lcX11_in lX11_110 (fit_of hR (by omega) rfl) (c_in (d := d0) k (nI 0) (nI 2)) rfl rfl (ex_i ?_)
  refine a_if_eqB (pc := 11) 39 dX11_addMove_11 (by decide) (fun c1 => ?_) (fun c1 => ?_)
  · exact absurd (h1.symm.trans c1) (by decide)
  · refine a_iload_n (pc := 14) dX11_addMove_14 rfl ?_
    refine a_iconst (pc := 15) (nI 0) dX11_addMove_15 (by decide) ?_
    refine a_iconst (pc := 16) (nI 2) dX11_addMove_16 (by decide) ?_
    refine a_S3i (pc := 17) dX11_addMove_17 lcX11_in lX11_110 (fit_of hR (by omega) rfl) (c_in (d := d0) l (nI 0) (nI 2)) rfl rfl (ex_i ?_)
    refine a_if_eqB (pc := 20) 39 dX11_addMove_20 (by decide) (fun c2 => ?_) (fun c2 => ?_)
    · exact absurd (h2.symm.trans c2) (by decide)
    · refine a_iload_n (pc := 23) dX11_addMove_23 rfl ?_
      refine a_iload_n (pc := 24) dX11_addMove_24 rfl ?_
      refine a_icmp_eq (pc := 25) 39 dX11_addMove_25 (by decide) (fun c3 => ?_) (fun c3 => ?_)
      · exact absurd c3 h3
      · refine a_aload_n (pc := 28) dX11_addMove_28 rfl ?_
        refine a_iconst (pc := 29) (nI 1) dX11_addMove_29 (by decide) ?_
        refine a_iload_n (pc := 30) dX11_addMove_30 rfl ?_
        refine a_iload_n (pc := 31) dX11_addMove_31 rfl ?_
        refine a_lconst (pc := 32) 0 dX11_addMove_32 (by decide) ?_
        refine a_V4i (pc := 33) 10 dX11_addMove_33 lcX11_add lX11_228 rfl rfl rfl (fit_of hR (by omega) rfl) (c_add1 (d0 := d0) _ _ _ _ hn) rfl rfl (ex_i ?_)
        refine a_goto (pc := 36) 44 dX11_addMove_36 (by decide) ?_
        refine ret _ _ 44 _ _ dX11_addMove_44 rfl ?_
        exact ⟨rfl, rfl, rfl⟩
set_option maxRecDepth 100000 in
theorem c_maddMove3 {d0 kd kp rp : Nat} {g : GH} (k l : Int32) (n : Nat) (h : twoK k l = true) (hn : gF g 76 22 = nI n) (hn8 : n < 8) : ACi mX11_addMove (d0 + 2) (SS kd kp rp) g [.ref 76, .int k, .int l] (fun r S' g' => S' = SS kd kp rp ∧ g' = addG (th0 g) (nI 1) k l 0 n ∧ r = nI (n + 1)) := by
  obtain ⟨h1, h2, h3⟩ := twoK_ok h
  refine ACi.of lcX11_addMove rfl rfl (fun X Q ad hR ret => ?_)
  refine AW_ls (ls' := [_, _, _]) rfl ?_
  refine a_aload_n (pc := 0) dX11_addMove_0 rfl ?_
  refine a_iconst (pc := 1) (nI 0) dX11_addMove_1 (by decide) ?_
  refine a_pi (pc := 2) dX11_addMove_2 fX11_104 rfl ?_
  refine a_iload_n (pc := 5) dX11_addMove_5 rfl ?_
  refine a_iconst (pc := 6) (nI 0) dX11_addMove_6 (by decide) ?_
  refine a_iconst (pc := 7) (nI 2) dX11_addMove_7 (by decide) ?_
  refine a_S3i (pc := 8) dX11_addMove_8 lcX11_in lX11_110 (fit_of hR (by omega) rfl) (c_in (d := d0) k (nI 0) (nI 2)) rfl rfl (ex_i ?_)
  refine a_if_eqB (pc := 11) 39 dX11_addMove_11 (by decide) (fun c1 => ?_) (fun c1 => ?_)
  · exact absurd (h1.symm.trans c1) (by decide)
  · refine a_iload_n (pc := 14) dX11_addMove_14 rfl ?_
    refine a_iconst (pc := 15) (nI 0) dX11_addMove_15 (by decide) ?_
    refine a_iconst (pc := 16) (nI 2) dX11_addMove_16 (by decide) ?_
    refine a_S3i (pc := 17) dX11_addMove_17 lcX11_in lX11_110 (fit_of hR (by omega) rfl) (c_in (d := d0) l (nI 0) (nI 2)) rfl rfl (ex_i ?_)
    refine a_if_eqB (pc := 20) 39 dX11_addMove_20 (by decide) (fun c2 => ?_) (fun c2 => ?_)
    · exact absurd (h2.symm.trans c2) (by decide)
    · refine a_iload_n (pc := 23) dX11_addMove_23 rfl ?_
      refine a_iload_n (pc := 24) dX11_addMove_24 rfl ?_
      refine a_icmp_eq (pc := 25) 39 dX11_addMove_25 (by decide) (fun c3 => ?_) (fun c3 => ?_)
      · exact absurd c3 h3
      · refine a_aload_n (pc := 28) dX11_addMove_28 rfl ?_
        refine a_iconst (pc := 29) (nI 1) dX11_addMove_29 (by decide) ?_
        refine a_iload_n (pc := 30) dX11_addMove_30 rfl ?_
        refine a_iload_n (pc := 31) dX11_addMove_31 rfl ?_
        refine a_lconst (pc := 32) 0 dX11_addMove_32 (by decide) ?_
        refine a_V4i (pc := 33) 10 dX11_addMove_33 lcX11_add lX11_228 rfl rfl rfl (fit_of hR (by omega) rfl) (c_add2 (d0 := d0) _ _ _ _ n hn hn8) rfl rfl (ex_i ?_)
        refine a_goto (pc := 36) 44 dX11_addMove_36 (by decide) ?_
        refine ret _ _ 44 _ _ dX11_addMove_44 rfl ?_
        exact ⟨rfl, rfl, rfl⟩
set_option maxRecDepth 100000 in
theorem c_maddSure2 {d0 kd kp rp : Nat} {g : GH} (hn : gF g 76 22 = nI 8) : ACi mX11_addSure (d0 + 2) (SS kd kp rp) g [.ref 76] (fun r S' g' => S' = SS kd kp rp ∧ g' = rfu (th0 g) 6 ∧ r = -nI 6) := by
  refine ACi.of lcX11_addSure rfl rfl (fun X Q ad hR ret => ?_)
  refine AW_ls (ls' := [_]) rfl ?_
  refine a_aload_n (pc := 0) dX11_addSure_0 rfl ?_
  refine a_iconst (pc := 1) (nI 0) dX11_addSure_1 (by decide) ?_
  refine a_pi (pc := 2) dX11_addSure_2 fX11_104 rfl ?_
  refine a_aload_n (pc := 5) dX11_addSure_5 rfl ?_
  refine a_iconst (pc := 6) (nI 2) dX11_addSure_6 (by decide) ?_
  refine a_bipush (pc := 7) (-9) dX11_addSure_7 (by decide) ?_
  refine a_bipush (pc := 9) (-9) dX11_addSure_9 (by decide) ?_
  refine a_lconst (pc := 11) 0 dX11_addSure_11 (by decide) ?_
  refine a_V4i (pc := 12) 10 dX11_addSure_12 lcX11_add lX11_228 rfl rfl rfl (fit_of hR (by omega) rfl) (c_add1 (d0 := d0) _ _ _ _ hn) rfl rfl (ex_i ?_)
  refine ret _ _ 15 _ _ dX11_addSure_15 rfl ?_
  exact ⟨rfl, rfl, rfl⟩
set_option maxRecDepth 100000 in
theorem c_maddSure3 {d0 kd kp rp : Nat} {g : GH} (n : Nat) (hn : gF g 76 22 = nI n) (hn8 : n < 8) : ACi mX11_addSure (d0 + 2) (SS kd kp rp) g [.ref 76] (fun r S' g' => S' = SS kd kp rp ∧ g' = addG (th0 g) (nI 2) (-9) (-9) 0 n ∧ r = nI (n + 1)) := by
  refine ACi.of lcX11_addSure rfl rfl (fun X Q ad hR ret => ?_)
  refine AW_ls (ls' := [_]) rfl ?_
  refine a_aload_n (pc := 0) dX11_addSure_0 rfl ?_
  refine a_iconst (pc := 1) (nI 0) dX11_addSure_1 (by decide) ?_
  refine a_pi (pc := 2) dX11_addSure_2 fX11_104 rfl ?_
  refine a_aload_n (pc := 5) dX11_addSure_5 rfl ?_
  refine a_iconst (pc := 6) (nI 2) dX11_addSure_6 (by decide) ?_
  refine a_bipush (pc := 7) (-9) dX11_addSure_7 (by decide) ?_
  refine a_bipush (pc := 9) (-9) dX11_addSure_9 (by decide) ?_
  refine a_lconst (pc := 11) 0 dX11_addSure_11 (by decide) ?_
  refine a_V4i (pc := 12) 10 dX11_addSure_12 lcX11_add lX11_228 rfl rfl rfl (fit_of hR (by omega) rfl) (c_add2 (d0 := d0) _ _ _ _ n hn hn8) rfl rfl (ex_i ?_)
  refine ret _ _ 15 _ _ dX11_addSure_15 rfl ?_
  exact ⟨rfl, rfl, rfl⟩
set_option maxRecDepth 100000 in
theorem c_mclear {d0 kd kp rp : Nat} {g : GH} : ACi mX11_clear d0 (SS kd kp rp) g [.ref 76] (fun r S' g' => S' = SS kd kp rp ∧ g' = pF (th0 g) 76 22 (nI 0) ∧ r = gF g 76 22) := by
  refine ACi.of lcX11_clear rfl rfl (fun X Q ad hR ret => ?_)
  refine AW_ls (ls' := [_, _]) rfl ?_
  refine a_aload_n (pc := 0) dX11_clear_0 rfl ?_
  refine a_iconst (pc := 1) (nI 0) dX11_clear_1 (by decide) ?_
  refine a_pi (pc := 2) dX11_clear_2 fX11_104 rfl ?_
  refine a_aload_n (pc := 5) dX11_clear_5 rfl ?_
  refine a_gi (pc := 6) dX11_clear_6 fX11_225 rfl ?_
  refine a_istore_n (pc := 9) (ls' := [_, _]) dX11_clear_9 (Nat.le_of_ble_eq_true rfl) rfl ?_
  refine a_aload_n (pc := 10) dX11_clear_10 rfl ?_
  refine a_iconst (pc := 11) (nI 0) dX11_clear_11 (by decide) ?_
  refine a_pi (pc := 12) dX11_clear_12 fX11_225 rfl ?_
  refine a_iload_n (pc := 15) dX11_clear_15 rfl ?_
  refine ret _ _ 16 _ _ dX11_clear_16 rfl ?_
  exact ⟨rfl, rfl, rfl⟩
set_option maxRecDepth 100000 in
theorem c_mgone1 {d0 kd kp rp : Nat} {g : GH} (w : Int32) (h : insQ w (nI 0) (nI 6) = false) : ACi mX11_gone (d0 + 1) (SS kd kp rp) g [.ref 76, .int w] (fun r S' g' => S' = SS kd kp rp ∧ g' = th0 g ∧ r = -9) := by
  refine ACi.of lcX11_gone rfl rfl (fun X Q ad hR ret => ?_)
  refine AW_ls (ls' := [_, _]) rfl ?_
  refine a_aload_n (pc := 0) dX11_gone_0 rfl ?_
  refine a_iconst (pc := 1) (nI 0) dX11_gone_1 (by decide) ?_
  refine a_pi (pc := 2) dX11_gone_2 fX11_104 rfl ?_
  refine a_iload_n (pc := 5) dX11_gone_5 rfl ?_
  refine a_iconst (pc := 6) (nI 0) dX11_gone_6 (by decide) ?_
  refine a_bipush (pc := 7) (nI 6) dX11_gone_7 (by decide) ?_
  refine a_S3i (pc := 9) dX11_gone_9 lcX11_in lX11_110 (fit_of hR (by omega) rfl) (c_in (d := d0) w (nI 0) (nI 6)) rfl rfl (ex_i ?_)
  refine a_if_eqB (pc := 12) 24 dX11_gone_12 (by decide) (fun cc => ?_) (fun cc => ?_)
  · refine a_bipush (pc := 24) (-9) dX11_gone_24 (by decide) ?_
    refine ret _ _ 26 _ _ dX11_gone_26 rfl ?_
    exact ⟨rfl, rfl, rfl⟩
  · exact absurd (cc.symm.trans h) (by decide)
set_option maxRecDepth 100000 in
theorem c_mgone2 {d0 kd kp rp : Nat} {g : GH} (w : Nat) (hw : w < 7) : ACi mX11_gone (d0 + 1) (SS kd kp rp) g [.ref 76, .int (nI w)] (fun r S' g' => S' = SS kd kp rp ∧ g' = th0 g ∧ r = gA g 99 w) := by
  have h : insQ (nI w) (nI 0) (nI 6) = true := (insQ_ok (by decide)).mpr ⟨w, by omega, rfl⟩
  refine ACi.of lcX11_gone rfl rfl (fun X Q ad hR ret => ?_)
  refine AW_ls (ls' := [_, _]) rfl ?_
  refine a_aload_n (pc := 0) dX11_gone_0 rfl ?_
  refine a_iconst (pc := 1) (nI 0) dX11_gone_1 (by decide) ?_
  refine a_pi (pc := 2) dX11_gone_2 fX11_104 rfl ?_
  refine a_iload_n (pc := 5) dX11_gone_5 rfl ?_
  refine a_iconst (pc := 6) (nI 0) dX11_gone_6 (by decide) ?_
  refine a_bipush (pc := 7) (nI 6) dX11_gone_7 (by decide) ?_
  refine a_S3i (pc := 9) dX11_gone_9 lcX11_in lX11_110 (fit_of hR (by omega) rfl) (c_in (d := d0) (nI w) (nI 0) (nI 6)) rfl rfl (ex_i ?_)
  refine a_if_eqB (pc := 12) 24 dX11_gone_12 (by decide) (fun cc => ?_) (fun cc => ?_)
  · exact absurd (h.symm.trans cc) (by decide)
  · refine a_aload_n (pc := 15) dX11_gone_15 rfl ?_
    refine a_gr (pc := 16) dX11_gone_16 fX11_83 rfl ?_
    refine a_iload_n (pc := 19) dX11_gone_19 rfl ?_
    refine a_ial (pc := 20) _ dX11_gone_20 rfl rfl (by omega) ?_
    refine a_goto (pc := 21) 26 dX11_gone_21 (by decide) ?_
    refine ret _ _ 26 _ _ dX11_gone_26 rfl ?_
    exact ⟨rfl, rfl, rfl⟩
set_option maxRecDepth 100000 in
theorem c_mbad1 {d0 kd kp rp : Nat} {g : GH} (i w : Int32) (n : Nat) (hn : gA g 99 2 = nI n) (hn31 : n < 2147483648) (h : insQ i (nI 0) (nI (min n 50) - nI 1) = false) : ACi mX11_bad (d0 + 1) (SS kd kp rp) g [.ref 76, .int i, .int w] (fun r S' g' => S' = SS kd kp rp ∧ g' = rfu (th0 g) 1 ∧ r = -nI 1) := by
  refine ACi.of lcX11_bad rfl rfl (fun X Q ad hR ret => ?_)
  refine AW_ls (ls' := [_, _, _]) rfl ?_
  refine a_aload_n (pc := 0) dX11_bad_0 rfl ?_
  refine a_iconst (pc := 1) (nI 0) dX11_bad_1 (by decide) ?_
  refine a_pi (pc := 2) dX11_bad_2 fX11_104 rfl ?_
  refine a_iload_n (pc := 5) dX11_bad_5 rfl ?_
  refine a_iconst (pc := 6) (nI 0) dX11_bad_6 (by decide) ?_
  refine a_aload_n (pc := 7) dX11_bad_7 rfl ?_
  refine a_gr (pc := 8) dX11_bad_8 fX11_83 rfl ?_
  refine a_iconst (pc := 11) (nI 2) dX11_bad_11 (by decide) ?_
  refine a_ial (pc := 12) _ dX11_bad_12 rfl rfl (by omega) ?_
  simp only [gF_pF, gF_pA, gF_pL, gA_pF, gA_pA, gA_pL, gL_pF, gL_pA, gL_pL, reduceIte, Nat.reduceEqDiff, and_false, false_and, and_true, true_and, and_self, hn]
  refine a_bipush (pc := 13) (nI 50) dX11_bad_13 (by decide) ?_
  refine AW_val3 29 (nI (min n 50)) (fun hJ => ?_) ?_
  · refine a_icmp_geN (pc := 15) 27 dX11_bad_15 (by decide) (by omega) (by omega) (fun c1 => ?_) (fun c1 => ?_)
    · refine a_bipush (pc := 27) (nI 50) dX11_bad_27 (by decide) ?_
      exact AW_top (by rw [Nat.min_eq_right c1]) hJ
    · refine a_aload_n (pc := 18) dX11_bad_18 rfl ?_
      refine a_gr (pc := 19) dX11_bad_19 fX11_83 rfl ?_
      refine a_iconst (pc := 22) (nI 2) dX11_bad_22 (by decide) ?_
      refine a_ial (pc := 23) _ dX11_bad_23 rfl rfl (by omega) ?_
      simp only [gF_pF, gF_pA, gF_pL, gA_pF, gA_pA, gA_pL, gL_pF, gL_pA, gL_pL, reduceIte, Nat.reduceEqDiff, and_false, false_and, and_true, true_and, and_self, hn]
      refine a_goto (pc := 24) 29 dX11_bad_24 (by decide) ?_
      exact AW_top (by rw [Nat.min_eq_left (by omega)]) hJ
  refine a_iconst (pc := 29) (nI 1) dX11_bad_29 (by decide) ?_
  refine a_isub (pc := 30) dX11_bad_30 ?_
  refine a_S3i (pc := 31) dX11_bad_31 lcX11_in lX11_110 (fit_of hR (by omega) rfl) (c_in (d := d0) i (nI 0) (nI (min n 50) - nI 1)) rfl rfl (ex_i ?_)
  refine a_if_neB (pc := 34) 43 dX11_bad_34 (by decide) (fun cc => ?_) (fun cc => ?_)
  · exact absurd (cc.symm.trans h) (by decide)
  · refine a_aload_n (pc := 37) dX11_bad_37 rfl ?_
    refine a_iconst (pc := 38) (-1) dX11_bad_38 (by decide) ?_
    refine a_V1i (pc := 39) 10 dX11_bad_39 lcX11_refuse lX11_114 rfl rfl rfl (fit_of hR (by omega) rfl) (c_refuse (d := d0) 1 (by decide)) rfl rfl (ex_i ?_)
    refine ret _ _ 42 _ _ dX11_bad_42 rfl ?_
    exact ⟨rfl, rfl, rfl⟩
set_option maxRecDepth 100000 in
theorem c_mbad2 {d0 kd kp rp : Nat} {g : GH} (i n : Nat) (w : Int32) (hn : gA g 99 2 = nI n) (hn31 : n < 2147483648) (hi : i < min n 50) (h9 : insQ w (nI 0) (nI 9) = false) : ACi mX11_bad (d0 + 1) (SS kd kp rp) g [.ref 76, .int (nI i), .int w] (fun r S' g' => S' = SS kd kp rp ∧ g' = th0 g ∧ r = -9) := by
  have h := (entI_ok (i := nI i) (n := min n 50) (by omega)).mpr ⟨i, hi, rfl⟩
  refine ACi.of lcX11_bad rfl rfl (fun X Q ad hR ret => ?_)
  refine AW_ls (ls' := [_, _, _]) rfl ?_
  refine a_aload_n (pc := 0) dX11_bad_0 rfl ?_
  refine a_iconst (pc := 1) (nI 0) dX11_bad_1 (by decide) ?_
  refine a_pi (pc := 2) dX11_bad_2 fX11_104 rfl ?_
  refine a_iload_n (pc := 5) dX11_bad_5 rfl ?_
  refine a_iconst (pc := 6) (nI 0) dX11_bad_6 (by decide) ?_
  refine a_aload_n (pc := 7) dX11_bad_7 rfl ?_
  refine a_gr (pc := 8) dX11_bad_8 fX11_83 rfl ?_
  refine a_iconst (pc := 11) (nI 2) dX11_bad_11 (by decide) ?_
  refine a_ial (pc := 12) _ dX11_bad_12 rfl rfl (by omega) ?_
  simp only [gF_pF, gF_pA, gF_pL, gA_pF, gA_pA, gA_pL, gL_pF, gL_pA, gL_pL, reduceIte, Nat.reduceEqDiff, and_false, false_and, and_true, true_and, and_self, hn]
  refine a_bipush (pc := 13) (nI 50) dX11_bad_13 (by decide) ?_
  refine AW_val3 29 (nI (min n 50)) (fun hJ => ?_) ?_
  · refine a_icmp_geN (pc := 15) 27 dX11_bad_15 (by decide) (by omega) (by omega) (fun c1 => ?_) (fun c1 => ?_)
    · refine a_bipush (pc := 27) (nI 50) dX11_bad_27 (by decide) ?_
      exact AW_top (by rw [Nat.min_eq_right c1]) hJ
    · refine a_aload_n (pc := 18) dX11_bad_18 rfl ?_
      refine a_gr (pc := 19) dX11_bad_19 fX11_83 rfl ?_
      refine a_iconst (pc := 22) (nI 2) dX11_bad_22 (by decide) ?_
      refine a_ial (pc := 23) _ dX11_bad_23 rfl rfl (by omega) ?_
      simp only [gF_pF, gF_pA, gF_pL, gA_pF, gA_pA, gA_pL, gL_pF, gL_pA, gL_pL, reduceIte, Nat.reduceEqDiff, and_false, false_and, and_true, true_and, and_self, hn]
      refine a_goto (pc := 24) 29 dX11_bad_24 (by decide) ?_
      exact AW_top (by rw [Nat.min_eq_left (by omega)]) hJ
  refine a_iconst (pc := 29) (nI 1) dX11_bad_29 (by decide) ?_
  refine a_isub (pc := 30) dX11_bad_30 ?_
  refine a_S3i (pc := 31) dX11_bad_31 lcX11_in lX11_110 (fit_of hR (by omega) rfl) (c_in (d := d0) (nI i) (nI 0) (nI (min n 50) - nI 1)) rfl rfl (ex_i ?_)
  refine a_if_neB (pc := 34) 43 dX11_bad_34 (by decide) (fun cc => ?_) (fun cc => ?_)
  · refine a_iload_n (pc := 43) dX11_bad_43 rfl ?_
    refine a_iconst (pc := 44) (nI 0) dX11_bad_44 (by decide) ?_
    refine a_bipush (pc := 45) (nI 9) dX11_bad_45 (by decide) ?_
    refine a_S3i (pc := 47) dX11_bad_47 lcX11_in lX11_110 (fit_of hR (by omega) rfl) (c_in (d := d0) w (nI 0) (nI 9)) rfl rfl (ex_i ?_)
    refine a_if_eqB (pc := 50) 67 dX11_bad_50 (by decide) (fun c2 => ?_) (fun c2 => ?_)
    · refine a_bipush (pc := 67) (-9) dX11_bad_67 (by decide) ?_
      refine ret _ _ 69 _ _ dX11_bad_69 rfl ?_
      exact ⟨rfl, rfl, rfl⟩
    · exact absurd (c2.symm.trans h9) (by decide)
  · exact absurd (h.symm.trans cc) (by decide)
set_option maxRecDepth 100000 in
theorem c_mbad3 {d0 kd kp rp : Nat} {g : GH} (i n w : Nat) (hn : gA g 99 2 = nI n) (hn31 : n < 2147483648) (hi : i < min n 50) (hw : w < 10) : ACi mX11_bad (d0 + 1) (SS kd kp rp) g [.ref 76, .int (nI i), .int (nI w)] (fun r S' g' => S' = SS kd kp rp ∧ g' = th0 g ∧ r = gA g 101 (10 * i + w)) := by
  have h := (entI_ok (i := nI i) (n := min n 50) (by omega)).mpr ⟨i, hi, rfl⟩
  have h9 : insQ (nI w) (nI 0) (nI 9) = true := (insQ_ok (by decide)).mpr ⟨w, by omega, rfl⟩
  refine ACi.of lcX11_bad rfl rfl (fun X Q ad hR ret => ?_)
  refine AW_ls (ls' := [_, _, _]) rfl ?_
  refine a_aload_n (pc := 0) dX11_bad_0 rfl ?_
  refine a_iconst (pc := 1) (nI 0) dX11_bad_1 (by decide) ?_
  refine a_pi (pc := 2) dX11_bad_2 fX11_104 rfl ?_
  refine a_iload_n (pc := 5) dX11_bad_5 rfl ?_
  refine a_iconst (pc := 6) (nI 0) dX11_bad_6 (by decide) ?_
  refine a_aload_n (pc := 7) dX11_bad_7 rfl ?_
  refine a_gr (pc := 8) dX11_bad_8 fX11_83 rfl ?_
  refine a_iconst (pc := 11) (nI 2) dX11_bad_11 (by decide) ?_
  refine a_ial (pc := 12) _ dX11_bad_12 rfl rfl (by omega) ?_
  simp only [gF_pF, gF_pA, gF_pL, gA_pF, gA_pA, gA_pL, gL_pF, gL_pA, gL_pL, reduceIte, Nat.reduceEqDiff, and_false, false_and, and_true, true_and, and_self, hn]
  refine a_bipush (pc := 13) (nI 50) dX11_bad_13 (by decide) ?_
  refine AW_val3 29 (nI (min n 50)) (fun hJ => ?_) ?_
  · refine a_icmp_geN (pc := 15) 27 dX11_bad_15 (by decide) (by omega) (by omega) (fun c1 => ?_) (fun c1 => ?_)
    · refine a_bipush (pc := 27) (nI 50) dX11_bad_27 (by decide) ?_
      exact AW_top (by rw [Nat.min_eq_right c1]) hJ
    · refine a_aload_n (pc := 18) dX11_bad_18 rfl ?_
      refine a_gr (pc := 19) dX11_bad_19 fX11_83 rfl ?_
      refine a_iconst (pc := 22) (nI 2) dX11_bad_22 (by decide) ?_
      refine a_ial (pc := 23) _ dX11_bad_23 rfl rfl (by omega) ?_
      simp only [gF_pF, gF_pA, gF_pL, gA_pF, gA_pA, gA_pL, gL_pF, gL_pA, gL_pL, reduceIte, Nat.reduceEqDiff, and_false, false_and, and_true, true_and, and_self, hn]
      refine a_goto (pc := 24) 29 dX11_bad_24 (by decide) ?_
      exact AW_top (by rw [Nat.min_eq_left (by omega)]) hJ
  refine a_iconst (pc := 29) (nI 1) dX11_bad_29 (by decide) ?_
  refine a_isub (pc := 30) dX11_bad_30 ?_
  refine a_S3i (pc := 31) dX11_bad_31 lcX11_in lX11_110 (fit_of hR (by omega) rfl) (c_in (d := d0) (nI i) (nI 0) (nI (min n 50) - nI 1)) rfl rfl (ex_i ?_)
  refine a_if_neB (pc := 34) 43 dX11_bad_34 (by decide) (fun cc => ?_) (fun cc => ?_)
  · refine a_iload_n (pc := 43) dX11_bad_43 rfl ?_
    refine a_iconst (pc := 44) (nI 0) dX11_bad_44 (by decide) ?_
    refine a_bipush (pc := 45) (nI 9) dX11_bad_45 (by decide) ?_
    refine a_S3i (pc := 47) dX11_bad_47 lcX11_in lX11_110 (fit_of hR (by omega) rfl) (c_in (d := d0) (nI w) (nI 0) (nI 9)) rfl rfl (ex_i ?_)
    refine a_if_eqB (pc := 50) 67 dX11_bad_50 (by decide) (fun c2 => ?_) (fun c2 => ?_)
    · exact absurd (h9.symm.trans c2) (by decide)
    · refine a_aload_n (pc := 53) dX11_bad_53 rfl ?_
      refine a_gr (pc := 54) dX11_bad_54 fX11_89 rfl ?_
      refine a_bipush (pc := 57) (nI 10) dX11_bad_57 (by decide) ?_
      refine a_iload_n (pc := 59) dX11_bad_59 rfl ?_
      refine a_imul (pc := 60) dX11_bad_60 ?_
      try rw [pk_mul]
      refine a_iload_n (pc := 61) dX11_bad_61 rfl ?_
      refine a_iadd (pc := 62) dX11_bad_62 ?_
      try rw [nI_add]
      refine a_ial (pc := 63) _ dX11_bad_63 rfl rfl (by omega) ?_
      refine a_goto (pc := 64) 69 dX11_bad_64 (by decide) ?_
      refine ret _ _ 69 _ _ dX11_bad_69 rfl ?_
      exact ⟨rfl, rfl, rfl⟩
  · exact absurd (h.symm.trans cc) (by decide)
