/-! SHADOW -/
theorem odd_ne (n : Int32) : n &&& nI 1 = nI 1 ↔ ¬ n &&& nI 1 = 0 := by
  have h : n &&& nI 1 = nI 1 ∨ n &&& nI 1 = 0 := by
    have e : (n &&& nI 1).toBitVec = n.toBitVec &&& 1#32 := rfl
    rw [BitVec.and_one_eq_setWidth_ofBool_getLsbD] at e
    cases hb : n.toBitVec.getLsbD 0 with
    | false =>
      right
      apply Int32.toBitVec_inj.mp
      rw [e, hb]
      rfl
    | true =>
      left
      apply Int32.toBitVec_inj.mp
      rw [e, hb]
      rfl
  have z : ¬ nI 1 = 0 := by decide
  constructor
  · intro e
    rw [e]
    exact z
  · intro e
    exact h.elim id (fun q => absurd q e)
set_option maxRecDepth 100000 in
theorem c_isOdd {d0 : Nat} {S : sH} {g : GH} (n : Int32) : ACi mX8_isOdd d0 S g [.int n] (fun r S' g' => S' = S ∧ g' = g ∧ r = bI (decide (n &&& nI 1 = nI 1))) := by
  refine ACz.of lcX8_isOdd rfl rfl (fun X Q ad hR ret => ?_)
  refine AW_ls (ls' := [_]) rfl ?_
  refine a_iload_n (pc := 0) dX8_isOdd_0 rfl ?_
  refine a_iconst (pc := 1) (nI 1) dX8_isOdd_1 (by decide) ?_
  refine a_iand (pc := 2) dX8_isOdd_2 ?_
  refine a_if_eq (pc := 3) 10 dX8_isOdd_3 (by decide) (fun c1 => ?_) (fun c1 => ?_)
  · refine a_iconst (pc := 10) (nI 0) dX8_isOdd_10 (by decide) ?_
    refine ret _ _ 11 _ _ dX8_isOdd_11 rfl (by first | exact Or.inl rfl | exact Or.inr rfl | exact bI_01 _) ?_
    exact ⟨rfl, rfl, (bI_ndec _ (fun z => (odd_ne n).mp z c1)).symm⟩
  · refine a_iconst (pc := 6) (nI 1) dX8_isOdd_6 (by decide) ?_
    refine a_goto (pc := 7) 11 dX8_isOdd_7 (by decide) ?_
    refine ret _ _ 11 _ _ dX8_isOdd_11 rfl (by first | exact Or.inl rfl | exact Or.inr rfl | exact bI_01 _) ?_
    exact ⟨rfl, rfl, (bI_dec _ ((odd_ne n).mpr c1)).symm⟩
set_option maxRecDepth 100000 in
theorem c_seal {d0 : Nat} {S : sH} {g : GH} (n : Int32) : ACi mX8_seal d0 S g [.int n] (fun r S' g' => S' = S ∧ g' = g ∧ r = nI 31 * n + nI 7) := by
  refine ACi.of lcX8_seal rfl rfl (fun X Q ad hR ret => ?_)
  refine AW_ls (ls' := [_]) rfl ?_
  refine a_bipush (pc := 0) (nI 31) dX8_seal_0 (by decide) ?_
  refine a_iload_n (pc := 2) dX8_seal_2 rfl ?_
  refine a_imul (pc := 3) dX8_seal_3 ?_
  try rw [pk_mul]
  refine a_bipush (pc := 4) (nI 7) dX8_seal_4 (by decide) ?_
  refine a_iadd (pc := 6) dX8_seal_6 ?_
  try rw [nI_add]
  refine ret _ _ 7 _ _ dX8_seal_7 rfl ?_
  exact ⟨rfl, rfl, rfl⟩
def hoW (n : Int32) : Nat := if n &&& nI 1 = nI 1 then 0 else 4
theorem hoW_plc (n : Int32) (k : Nat) : hoW n + k = plc k n := by
  unfold hoW plc
  split <;> omega
set_option maxRecDepth 100000 in
theorem c_homeWith {d0 : Nat} {S : sH} {g : GH} (n : Int32) : ACi mX8_homeWith (d0 + 1) S g [.int n] (fun r S' g' => S' = S ∧ g' = g ∧ r = nI (hoW n)) := by
  refine ACi.of lcX8_homeWith rfl rfl (fun X Q ad hR ret => ?_)
  refine AW_ls (ls' := [_]) rfl ?_
  refine a_iload_n (pc := 0) dX8_homeWith_0 rfl ?_
  refine a_S1i (pc := 1) dX8_homeWith_1 lcX8_isOdd lX8_43 (fit_of hR (by omega) rfl) (c_isOdd (d0 := d0) n) rfl rfl (ex_i ?_)
  refine a_if_eqB (pc := 4) 11 dX8_homeWith_4 (by decide) (fun c1 => ?_) (fun c1 => ?_)
  · refine a_iconst (pc := 11) (nI 4) dX8_homeWith_11 (by decide) ?_
    refine ret _ _ 12 _ _ dX8_homeWith_12 rfl ?_
    exact ⟨rfl, rfl, by rw [hoW, if_neg (of_decide_eq_false c1)]⟩
  · refine a_iconst (pc := 7) (nI 0) dX8_homeWith_7 (by decide) ?_
    refine a_goto (pc := 8) 12 dX8_homeWith_8 (by decide) ?_
    refine ret _ _ 12 _ _ dX8_homeWith_12 rfl ?_
    exact ⟨rfl, rfl, by rw [hoW, if_pos (of_decide_eq_true c1)]⟩
theorem verQ_nil (F : Nat → Int32) : verQ (F, []) = if rootF 3 (F 6) (F 7) ≤ rootF 7 (F 14) (F 15) then rootF 7 (F 14) (F 15) else rootF 3 (F 6) (F 7) := rfl
set_option maxHeartbeats 1000000 in
set_option maxRecDepth 100000 in
theorem c_kver_3 {d0 kd kp rp : Nat} {g : GH} : ACi mX8_version (d0 + 1) (SS kd kp rp) g [.ref 73, .ref 3] (fun r S' g' => S' = SS kd kp rp ∧ g' = g ∧ r = verQ (gA g 3, [])) := by
  rw [verQ_nil]
  refine ACi.of lcX8_version rfl rfl (fun X Q ad hR ret => ?_)
  refine AW_ls (ls' := [_, _, _, _, _, _]) rfl ?_
  refine a_aload_n (pc := 0) dX8_version_0 rfl ?_
  refine a_bipush (pc := 1) (nI 6) dX8_version_1 (by decide) ?_
  refine a_ial (pc := 3) _ dX8_version_3 rfl rfl (by omega) ?_
  refine a_istore_n (pc := 4) (ls' := [_, _, _, _, _, _]) dX8_version_4 (Nat.le_of_ble_eq_true rfl) rfl ?_
  refine a_aload_n (pc := 5) dX8_version_5 rfl ?_
  refine a_bipush (pc := 6) (nI 14) dX8_version_6 (by decide) ?_
  refine a_ial (pc := 8) _ dX8_version_8 rfl rfl (by omega) ?_
  refine a_istore_n (pc := 9) (ls' := [_, _, _, _, _, _]) dX8_version_9 (Nat.le_of_ble_eq_true rfl) rfl ?_
  refine a_iload_n (pc := 10) dX8_version_10 rfl ?_
  generalize hx6 : gA g 3 6 = x6 at ret ⊢
  generalize hx14 : gA g 3 14 = x14 at ret ⊢
  refine AW_val2 37 (bI (decide (0 < x6 ∧ (x6 &&& nI 1 = nI 1) ∧ gA g 3 7 = nI 31 * x6 + nI 7))) (fun hJ => ?_) ?_
  · refine a_if_le (pc := 11) 36 dX8_version_11 (by decide) (fun c1 => ?_) (fun c1 => ?_)
    · refine a_iconst (pc := 36) (nI 0) dX8_version_36 (by decide) ?_
      exact AW_top (bI_ndec _ (fun z => absurd z.1 (Int32.not_lt.mpr c1))).symm hJ
    · refine a_iload_n (pc := 14) dX8_version_14 rfl ?_
      refine a_S1i (pc := 15) dX8_version_15 lcX8_isOdd lX8_43 (fit_of hR (by omega) rfl) (c_isOdd (d0 := d0) x6) rfl rfl (ex_i ?_)
      refine a_if_eqB (pc := 18) 36 dX8_version_18 (by decide) (fun c2 => ?_) (fun c2 => ?_)
      · refine a_iconst (pc := 36) (nI 0) dX8_version_36 (by decide) ?_
        exact AW_top (bI_ndec _ (fun z => absurd z.2.1 (of_decide_eq_false c2))).symm hJ
      · refine a_aload_n (pc := 21) dX8_version_21 rfl ?_
        refine a_bipush (pc := 22) (nI 7) dX8_version_22 (by decide) ?_
        refine a_ial (pc := 24) _ dX8_version_24 rfl rfl (by omega) ?_
        refine a_iload_n (pc := 25) dX8_version_25 rfl ?_
        refine a_S1i (pc := 26) dX8_version_26 lcX8_seal lX8_47 (fit_of hR (by omega) rfl) (c_seal (d0 := d0) x6) rfl rfl (ex_i ?_)
        refine a_icmp_ne (pc := 29) 36 dX8_version_29 (by decide) (fun c3 => ?_) (fun c3 => ?_)
        · refine a_iconst (pc := 36) (nI 0) dX8_version_36 (by decide) ?_
          exact AW_top (bI_ndec _ (fun z => absurd z.2.2 c3)).symm hJ
        · refine a_iconst (pc := 32) (nI 1) dX8_version_32 (by decide) ?_
          refine a_goto (pc := 33) 37 dX8_version_33 (by decide) ?_
          exact AW_top (bI_dec _ ⟨Int32.not_le.mp c1, of_decide_eq_true c2, c3⟩).symm hJ
  refine a_istore (pc := 37) (ls' := [_, _, _, _, _, _]) dX8_version_37 (Nat.le_of_ble_eq_true rfl) rfl ?_
  refine a_iload_n (pc := 39) dX8_version_39 rfl ?_
  refine AW_val2 66 (bI (decide (0 < x14 ∧ ¬ (x14 &&& nI 1 = nI 1) ∧ gA g 3 15 = nI 31 * x14 + nI 7))) (fun hJ => ?_) ?_
  · refine a_if_le (pc := 40) 65 dX8_version_40 (by decide) (fun c1 => ?_) (fun c1 => ?_)
    · refine a_iconst (pc := 65) (nI 0) dX8_version_65 (by decide) ?_
      exact AW_top (bI_ndec _ (fun z => absurd z.1 (Int32.not_lt.mpr c1))).symm hJ
    · refine a_iload_n (pc := 43) dX8_version_43 rfl ?_
      refine a_S1i (pc := 44) dX8_version_44 lcX8_isOdd lX8_43 (fit_of hR (by omega) rfl) (c_isOdd (d0 := d0) x14) rfl rfl (ex_i ?_)
      refine a_if_neB (pc := 47) 65 dX8_version_47 (by decide) (fun c2 => ?_) (fun c2 => ?_)
      · refine a_iconst (pc := 65) (nI 0) dX8_version_65 (by decide) ?_
        exact AW_top (bI_ndec _ (fun z => absurd (of_decide_eq_true c2) z.2.1)).symm hJ
      · refine a_aload_n (pc := 50) dX8_version_50 rfl ?_
        refine a_bipush (pc := 51) (nI 15) dX8_version_51 (by decide) ?_
        refine a_ial (pc := 53) _ dX8_version_53 rfl rfl (by omega) ?_
        refine a_iload_n (pc := 54) dX8_version_54 rfl ?_
        refine a_S1i (pc := 55) dX8_version_55 lcX8_seal lX8_47 (fit_of hR (by omega) rfl) (c_seal (d0 := d0) x14) rfl rfl (ex_i ?_)
        refine a_icmp_ne (pc := 58) 65 dX8_version_58 (by decide) (fun c3 => ?_) (fun c3 => ?_)
        · refine a_iconst (pc := 65) (nI 0) dX8_version_65 (by decide) ?_
          exact AW_top (bI_ndec _ (fun z => absurd z.2.2 c3)).symm hJ
        · refine a_iconst (pc := 61) (nI 1) dX8_version_61 (by decide) ?_
          refine a_goto (pc := 62) 66 dX8_version_62 (by decide) ?_
          exact AW_top (bI_dec _ ⟨Int32.not_le.mp c1, of_decide_eq_false c2, c3⟩).symm hJ
  refine a_istore (pc := 66) (ls' := [_, _, _, _, _, _]) dX8_version_66 (Nat.le_of_ble_eq_true rfl) rfl ?_
  refine a_iload (pc := 68) dX8_version_68 rfl ?_
  refine AW_val2 78 (rootF 3 x6 (gA g 3 7)) (fun hJ => ?_) ?_
  · refine a_if_eqB (pc := 70) 77 dX8_version_70 (by decide) (fun c1 => ?_) (fun c1 => ?_)
    · have c1 := of_decide_eq_false c1
      refine a_iconst (pc := 77) (nI 0) dX8_version_77 (by decide) ?_
      exact AW_top (by rw [rootF, if_neg (fun z => c1 ⟨z.1, z.2.1.mpr rfl, z.2.2⟩)]) hJ
    · have c1 := of_decide_eq_true c1
      refine a_iload_n (pc := 73) dX8_version_73 rfl ?_
      refine a_goto (pc := 74) 78 dX8_version_74 (by decide) ?_
      exact AW_top (by rw [rootF, if_pos ⟨c1.1, ⟨fun _ => rfl, fun _ => c1.2.1⟩, c1.2.2⟩]) hJ
  refine a_iload (pc := 78) dX8_version_78 rfl ?_
  refine AW_val2 88 (rootF 7 x14 (gA g 3 15)) (fun hJ => ?_) ?_
  · refine a_if_eqB (pc := 80) 87 dX8_version_80 (by decide) (fun c1 => ?_) (fun c1 => ?_)
    · have c1 := of_decide_eq_false c1
      refine a_iconst (pc := 87) (nI 0) dX8_version_87 (by decide) ?_
      exact AW_top (by rw [rootF, if_neg (fun z => c1 ⟨z.1, fun y => absurd (z.2.1.mp y) (by decide), z.2.2⟩)]) hJ
    · have c1 := of_decide_eq_true c1
      refine a_iload_n (pc := 83) dX8_version_83 rfl ?_
      refine a_goto (pc := 84) 88 dX8_version_84 (by decide) ?_
      exact AW_top (by rw [rootF, if_pos ⟨c1.1, ⟨fun y => absurd y c1.2.1, fun y => absurd y (by decide)⟩, c1.2.2⟩]) hJ
  refine a_mmax (pc := 88) dX8_version_88 lX8_50 hR (by omega) rfl ?_
  refine ret _ _ 91 _ _ dX8_version_91 rfl ?_
  exact ⟨rfl, rfl, rfl⟩
set_option maxHeartbeats 1000000 in
set_option maxRecDepth 100000 in
theorem c_kver_29 {d0 kd kp rp : Nat} {g : GH} : ACi mX8_version (d0 + 1) (SS kd kp rp) g [.ref 73, .ref 29] (fun r S' g' => S' = SS kd kp rp ∧ g' = g ∧ r = verQ (gA g 29, [])) := by
  rw [verQ_nil]
  refine ACi.of lcX8_version rfl rfl (fun X Q ad hR ret => ?_)
  refine AW_ls (ls' := [_, _, _, _, _, _]) rfl ?_
  refine a_aload_n (pc := 0) dX8_version_0 rfl ?_
  refine a_bipush (pc := 1) (nI 6) dX8_version_1 (by decide) ?_
  refine a_ial (pc := 3) _ dX8_version_3 rfl rfl (by omega) ?_
  refine a_istore_n (pc := 4) (ls' := [_, _, _, _, _, _]) dX8_version_4 (Nat.le_of_ble_eq_true rfl) rfl ?_
  refine a_aload_n (pc := 5) dX8_version_5 rfl ?_
  refine a_bipush (pc := 6) (nI 14) dX8_version_6 (by decide) ?_
  refine a_ial (pc := 8) _ dX8_version_8 rfl rfl (by omega) ?_
  refine a_istore_n (pc := 9) (ls' := [_, _, _, _, _, _]) dX8_version_9 (Nat.le_of_ble_eq_true rfl) rfl ?_
  refine a_iload_n (pc := 10) dX8_version_10 rfl ?_
  generalize hx6 : gA g 29 6 = x6 at ret ⊢
  generalize hx14 : gA g 29 14 = x14 at ret ⊢
  refine AW_val2 37 (bI (decide (0 < x6 ∧ (x6 &&& nI 1 = nI 1) ∧ gA g 29 7 = nI 31 * x6 + nI 7))) (fun hJ => ?_) ?_
  · refine a_if_le (pc := 11) 36 dX8_version_11 (by decide) (fun c1 => ?_) (fun c1 => ?_)
    · refine a_iconst (pc := 36) (nI 0) dX8_version_36 (by decide) ?_
      exact AW_top (bI_ndec _ (fun z => absurd z.1 (Int32.not_lt.mpr c1))).symm hJ
    · refine a_iload_n (pc := 14) dX8_version_14 rfl ?_
      refine a_S1i (pc := 15) dX8_version_15 lcX8_isOdd lX8_43 (fit_of hR (by omega) rfl) (c_isOdd (d0 := d0) x6) rfl rfl (ex_i ?_)
      refine a_if_eqB (pc := 18) 36 dX8_version_18 (by decide) (fun c2 => ?_) (fun c2 => ?_)
      · refine a_iconst (pc := 36) (nI 0) dX8_version_36 (by decide) ?_
        exact AW_top (bI_ndec _ (fun z => absurd z.2.1 (of_decide_eq_false c2))).symm hJ
      · refine a_aload_n (pc := 21) dX8_version_21 rfl ?_
        refine a_bipush (pc := 22) (nI 7) dX8_version_22 (by decide) ?_
        refine a_ial (pc := 24) _ dX8_version_24 rfl rfl (by omega) ?_
        refine a_iload_n (pc := 25) dX8_version_25 rfl ?_
        refine a_S1i (pc := 26) dX8_version_26 lcX8_seal lX8_47 (fit_of hR (by omega) rfl) (c_seal (d0 := d0) x6) rfl rfl (ex_i ?_)
        refine a_icmp_ne (pc := 29) 36 dX8_version_29 (by decide) (fun c3 => ?_) (fun c3 => ?_)
        · refine a_iconst (pc := 36) (nI 0) dX8_version_36 (by decide) ?_
          exact AW_top (bI_ndec _ (fun z => absurd z.2.2 c3)).symm hJ
        · refine a_iconst (pc := 32) (nI 1) dX8_version_32 (by decide) ?_
          refine a_goto (pc := 33) 37 dX8_version_33 (by decide) ?_
          exact AW_top (bI_dec _ ⟨Int32.not_le.mp c1, of_decide_eq_true c2, c3⟩).symm hJ
  refine a_istore (pc := 37) (ls' := [_, _, _, _, _, _]) dX8_version_37 (Nat.le_of_ble_eq_true rfl) rfl ?_
  refine a_iload_n (pc := 39) dX8_version_39 rfl ?_
  refine AW_val2 66 (bI (decide (0 < x14 ∧ ¬ (x14 &&& nI 1 = nI 1) ∧ gA g 29 15 = nI 31 * x14 + nI 7))) (fun hJ => ?_) ?_
  · refine a_if_le (pc := 40) 65 dX8_version_40 (by decide) (fun c1 => ?_) (fun c1 => ?_)
    · refine a_iconst (pc := 65) (nI 0) dX8_version_65 (by decide) ?_
      exact AW_top (bI_ndec _ (fun z => absurd z.1 (Int32.not_lt.mpr c1))).symm hJ
    · refine a_iload_n (pc := 43) dX8_version_43 rfl ?_
      refine a_S1i (pc := 44) dX8_version_44 lcX8_isOdd lX8_43 (fit_of hR (by omega) rfl) (c_isOdd (d0 := d0) x14) rfl rfl (ex_i ?_)
      refine a_if_neB (pc := 47) 65 dX8_version_47 (by decide) (fun c2 => ?_) (fun c2 => ?_)
      · refine a_iconst (pc := 65) (nI 0) dX8_version_65 (by decide) ?_
        exact AW_top (bI_ndec _ (fun z => absurd (of_decide_eq_true c2) z.2.1)).symm hJ
      · refine a_aload_n (pc := 50) dX8_version_50 rfl ?_
        refine a_bipush (pc := 51) (nI 15) dX8_version_51 (by decide) ?_
        refine a_ial (pc := 53) _ dX8_version_53 rfl rfl (by omega) ?_
        refine a_iload_n (pc := 54) dX8_version_54 rfl ?_
        refine a_S1i (pc := 55) dX8_version_55 lcX8_seal lX8_47 (fit_of hR (by omega) rfl) (c_seal (d0 := d0) x14) rfl rfl (ex_i ?_)
        refine a_icmp_ne (pc := 58) 65 dX8_version_58 (by decide) (fun c3 => ?_) (fun c3 => ?_)
        · refine a_iconst (pc := 65) (nI 0) dX8_version_65 (by decide) ?_
          exact AW_top (bI_ndec _ (fun z => absurd z.2.2 c3)).symm hJ
        · refine a_iconst (pc := 61) (nI 1) dX8_version_61 (by decide) ?_
          refine a_goto (pc := 62) 66 dX8_version_62 (by decide) ?_
          exact AW_top (bI_dec _ ⟨Int32.not_le.mp c1, of_decide_eq_false c2, c3⟩).symm hJ
  refine a_istore (pc := 66) (ls' := [_, _, _, _, _, _]) dX8_version_66 (Nat.le_of_ble_eq_true rfl) rfl ?_
  refine a_iload (pc := 68) dX8_version_68 rfl ?_
  refine AW_val2 78 (rootF 3 x6 (gA g 29 7)) (fun hJ => ?_) ?_
  · refine a_if_eqB (pc := 70) 77 dX8_version_70 (by decide) (fun c1 => ?_) (fun c1 => ?_)
    · have c1 := of_decide_eq_false c1
      refine a_iconst (pc := 77) (nI 0) dX8_version_77 (by decide) ?_
      exact AW_top (by rw [rootF, if_neg (fun z => c1 ⟨z.1, z.2.1.mpr rfl, z.2.2⟩)]) hJ
    · have c1 := of_decide_eq_true c1
      refine a_iload_n (pc := 73) dX8_version_73 rfl ?_
      refine a_goto (pc := 74) 78 dX8_version_74 (by decide) ?_
      exact AW_top (by rw [rootF, if_pos ⟨c1.1, ⟨fun _ => rfl, fun _ => c1.2.1⟩, c1.2.2⟩]) hJ
  refine a_iload (pc := 78) dX8_version_78 rfl ?_
  refine AW_val2 88 (rootF 7 x14 (gA g 29 15)) (fun hJ => ?_) ?_
  · refine a_if_eqB (pc := 80) 87 dX8_version_80 (by decide) (fun c1 => ?_) (fun c1 => ?_)
    · have c1 := of_decide_eq_false c1
      refine a_iconst (pc := 87) (nI 0) dX8_version_87 (by decide) ?_
      exact AW_top (by rw [rootF, if_neg (fun z => c1 ⟨z.1, fun y => absurd (z.2.1.mp y) (by decide), z.2.2⟩)]) hJ
    · have c1 := of_decide_eq_true c1
      refine a_iload_n (pc := 83) dX8_version_83 rfl ?_
      refine a_goto (pc := 84) 88 dX8_version_84 (by decide) ?_
      exact AW_top (by rw [rootF, if_pos ⟨c1.1, ⟨fun y => absurd y c1.2.1, fun y => absurd y (by decide)⟩, c1.2.2⟩]) hJ
  refine a_mmax (pc := 88) dX8_version_88 lX8_50 hR (by omega) rfl ?_
  refine ret _ _ 91 _ _ dX8_version_91 rfl ?_
  exact ⟨rfl, rfl, rfl⟩
set_option maxHeartbeats 1000000 in
set_option maxRecDepth 100000 in
theorem c_kver_35 {d0 kd kp rp : Nat} {g : GH} : ACi mX8_version (d0 + 1) (SS kd kp rp) g [.ref 73, .ref 35] (fun r S' g' => S' = SS kd kp rp ∧ g' = g ∧ r = verQ (gA g 35, [])) := by
  rw [verQ_nil]
  refine ACi.of lcX8_version rfl rfl (fun X Q ad hR ret => ?_)
  refine AW_ls (ls' := [_, _, _, _, _, _]) rfl ?_
  refine a_aload_n (pc := 0) dX8_version_0 rfl ?_
  refine a_bipush (pc := 1) (nI 6) dX8_version_1 (by decide) ?_
  refine a_ial (pc := 3) _ dX8_version_3 rfl rfl (by omega) ?_
  refine a_istore_n (pc := 4) (ls' := [_, _, _, _, _, _]) dX8_version_4 (Nat.le_of_ble_eq_true rfl) rfl ?_
  refine a_aload_n (pc := 5) dX8_version_5 rfl ?_
  refine a_bipush (pc := 6) (nI 14) dX8_version_6 (by decide) ?_
  refine a_ial (pc := 8) _ dX8_version_8 rfl rfl (by omega) ?_
  refine a_istore_n (pc := 9) (ls' := [_, _, _, _, _, _]) dX8_version_9 (Nat.le_of_ble_eq_true rfl) rfl ?_
  refine a_iload_n (pc := 10) dX8_version_10 rfl ?_
  generalize hx6 : gA g 35 6 = x6 at ret ⊢
  generalize hx14 : gA g 35 14 = x14 at ret ⊢
  refine AW_val2 37 (bI (decide (0 < x6 ∧ (x6 &&& nI 1 = nI 1) ∧ gA g 35 7 = nI 31 * x6 + nI 7))) (fun hJ => ?_) ?_
  · refine a_if_le (pc := 11) 36 dX8_version_11 (by decide) (fun c1 => ?_) (fun c1 => ?_)
    · refine a_iconst (pc := 36) (nI 0) dX8_version_36 (by decide) ?_
      exact AW_top (bI_ndec _ (fun z => absurd z.1 (Int32.not_lt.mpr c1))).symm hJ
    · refine a_iload_n (pc := 14) dX8_version_14 rfl ?_
      refine a_S1i (pc := 15) dX8_version_15 lcX8_isOdd lX8_43 (fit_of hR (by omega) rfl) (c_isOdd (d0 := d0) x6) rfl rfl (ex_i ?_)
      refine a_if_eqB (pc := 18) 36 dX8_version_18 (by decide) (fun c2 => ?_) (fun c2 => ?_)
      · refine a_iconst (pc := 36) (nI 0) dX8_version_36 (by decide) ?_
        exact AW_top (bI_ndec _ (fun z => absurd z.2.1 (of_decide_eq_false c2))).symm hJ
      · refine a_aload_n (pc := 21) dX8_version_21 rfl ?_
        refine a_bipush (pc := 22) (nI 7) dX8_version_22 (by decide) ?_
        refine a_ial (pc := 24) _ dX8_version_24 rfl rfl (by omega) ?_
        refine a_iload_n (pc := 25) dX8_version_25 rfl ?_
        refine a_S1i (pc := 26) dX8_version_26 lcX8_seal lX8_47 (fit_of hR (by omega) rfl) (c_seal (d0 := d0) x6) rfl rfl (ex_i ?_)
        refine a_icmp_ne (pc := 29) 36 dX8_version_29 (by decide) (fun c3 => ?_) (fun c3 => ?_)
        · refine a_iconst (pc := 36) (nI 0) dX8_version_36 (by decide) ?_
          exact AW_top (bI_ndec _ (fun z => absurd z.2.2 c3)).symm hJ
        · refine a_iconst (pc := 32) (nI 1) dX8_version_32 (by decide) ?_
          refine a_goto (pc := 33) 37 dX8_version_33 (by decide) ?_
          exact AW_top (bI_dec _ ⟨Int32.not_le.mp c1, of_decide_eq_true c2, c3⟩).symm hJ
  refine a_istore (pc := 37) (ls' := [_, _, _, _, _, _]) dX8_version_37 (Nat.le_of_ble_eq_true rfl) rfl ?_
  refine a_iload_n (pc := 39) dX8_version_39 rfl ?_
  refine AW_val2 66 (bI (decide (0 < x14 ∧ ¬ (x14 &&& nI 1 = nI 1) ∧ gA g 35 15 = nI 31 * x14 + nI 7))) (fun hJ => ?_) ?_
  · refine a_if_le (pc := 40) 65 dX8_version_40 (by decide) (fun c1 => ?_) (fun c1 => ?_)
    · refine a_iconst (pc := 65) (nI 0) dX8_version_65 (by decide) ?_
      exact AW_top (bI_ndec _ (fun z => absurd z.1 (Int32.not_lt.mpr c1))).symm hJ
    · refine a_iload_n (pc := 43) dX8_version_43 rfl ?_
      refine a_S1i (pc := 44) dX8_version_44 lcX8_isOdd lX8_43 (fit_of hR (by omega) rfl) (c_isOdd (d0 := d0) x14) rfl rfl (ex_i ?_)
      refine a_if_neB (pc := 47) 65 dX8_version_47 (by decide) (fun c2 => ?_) (fun c2 => ?_)
      · refine a_iconst (pc := 65) (nI 0) dX8_version_65 (by decide) ?_
        exact AW_top (bI_ndec _ (fun z => absurd (of_decide_eq_true c2) z.2.1)).symm hJ
      · refine a_aload_n (pc := 50) dX8_version_50 rfl ?_
        refine a_bipush (pc := 51) (nI 15) dX8_version_51 (by decide) ?_
        refine a_ial (pc := 53) _ dX8_version_53 rfl rfl (by omega) ?_
        refine a_iload_n (pc := 54) dX8_version_54 rfl ?_
        refine a_S1i (pc := 55) dX8_version_55 lcX8_seal lX8_47 (fit_of hR (by omega) rfl) (c_seal (d0 := d0) x14) rfl rfl (ex_i ?_)
        refine a_icmp_ne (pc := 58) 65 dX8_version_58 (by decide) (fun c3 => ?_) (fun c3 => ?_)
        · refine a_iconst (pc := 65) (nI 0) dX8_version_65 (by decide) ?_
          exact AW_top (bI_ndec _ (fun z => absurd z.2.2 c3)).symm hJ
        · refine a_iconst (pc := 61) (nI 1) dX8_version_61 (by decide) ?_
          refine a_goto (pc := 62) 66 dX8_version_62 (by decide) ?_
          exact AW_top (bI_dec _ ⟨Int32.not_le.mp c1, of_decide_eq_false c2, c3⟩).symm hJ
  refine a_istore (pc := 66) (ls' := [_, _, _, _, _, _]) dX8_version_66 (Nat.le_of_ble_eq_true rfl) rfl ?_
  refine a_iload (pc := 68) dX8_version_68 rfl ?_
  refine AW_val2 78 (rootF 3 x6 (gA g 35 7)) (fun hJ => ?_) ?_
  · refine a_if_eqB (pc := 70) 77 dX8_version_70 (by decide) (fun c1 => ?_) (fun c1 => ?_)
    · have c1 := of_decide_eq_false c1
      refine a_iconst (pc := 77) (nI 0) dX8_version_77 (by decide) ?_
      exact AW_top (by rw [rootF, if_neg (fun z => c1 ⟨z.1, z.2.1.mpr rfl, z.2.2⟩)]) hJ
    · have c1 := of_decide_eq_true c1
      refine a_iload_n (pc := 73) dX8_version_73 rfl ?_
      refine a_goto (pc := 74) 78 dX8_version_74 (by decide) ?_
      exact AW_top (by rw [rootF, if_pos ⟨c1.1, ⟨fun _ => rfl, fun _ => c1.2.1⟩, c1.2.2⟩]) hJ
  refine a_iload (pc := 78) dX8_version_78 rfl ?_
  refine AW_val2 88 (rootF 7 x14 (gA g 35 15)) (fun hJ => ?_) ?_
  · refine a_if_eqB (pc := 80) 87 dX8_version_80 (by decide) (fun c1 => ?_) (fun c1 => ?_)
    · have c1 := of_decide_eq_false c1
      refine a_iconst (pc := 87) (nI 0) dX8_version_87 (by decide) ?_
      exact AW_top (by rw [rootF, if_neg (fun z => c1 ⟨z.1, fun y => absurd (z.2.1.mp y) (by decide), z.2.2⟩)]) hJ
    · have c1 := of_decide_eq_true c1
      refine a_iload_n (pc := 83) dX8_version_83 rfl ?_
      refine a_goto (pc := 84) 88 dX8_version_84 (by decide) ?_
      exact AW_top (by rw [rootF, if_pos ⟨c1.1, ⟨fun y => absurd y c1.2.1, fun y => absurd y (by decide)⟩, c1.2.2⟩]) hJ
  refine a_mmax (pc := 88) dX8_version_88 lX8_50 hR (by omega) rfl ?_
  refine ret _ _ 91 _ _ dX8_version_91 rfl ?_
  exact ⟨rfl, rfl, rfl⟩
set_option maxHeartbeats 1000000 in
set_option maxRecDepth 100000 in
theorem c_kver_61 {d0 kd kp rp : Nat} {g : GH} : ACi mX8_version (d0 + 1) (SS kd kp rp) g [.ref 73, .ref 61] (fun r S' g' => S' = SS kd kp rp ∧ g' = g ∧ r = verQ (gA g 61, [])) := by
  rw [verQ_nil]
  refine ACi.of lcX8_version rfl rfl (fun X Q ad hR ret => ?_)
  refine AW_ls (ls' := [_, _, _, _, _, _]) rfl ?_
  refine a_aload_n (pc := 0) dX8_version_0 rfl ?_
  refine a_bipush (pc := 1) (nI 6) dX8_version_1 (by decide) ?_
  refine a_ial (pc := 3) _ dX8_version_3 rfl rfl (by omega) ?_
  refine a_istore_n (pc := 4) (ls' := [_, _, _, _, _, _]) dX8_version_4 (Nat.le_of_ble_eq_true rfl) rfl ?_
  refine a_aload_n (pc := 5) dX8_version_5 rfl ?_
  refine a_bipush (pc := 6) (nI 14) dX8_version_6 (by decide) ?_
  refine a_ial (pc := 8) _ dX8_version_8 rfl rfl (by omega) ?_
  refine a_istore_n (pc := 9) (ls' := [_, _, _, _, _, _]) dX8_version_9 (Nat.le_of_ble_eq_true rfl) rfl ?_
  refine a_iload_n (pc := 10) dX8_version_10 rfl ?_
  generalize hx6 : gA g 61 6 = x6 at ret ⊢
  generalize hx14 : gA g 61 14 = x14 at ret ⊢
  refine AW_val2 37 (bI (decide (0 < x6 ∧ (x6 &&& nI 1 = nI 1) ∧ gA g 61 7 = nI 31 * x6 + nI 7))) (fun hJ => ?_) ?_
  · refine a_if_le (pc := 11) 36 dX8_version_11 (by decide) (fun c1 => ?_) (fun c1 => ?_)
    · refine a_iconst (pc := 36) (nI 0) dX8_version_36 (by decide) ?_
      exact AW_top (bI_ndec _ (fun z => absurd z.1 (Int32.not_lt.mpr c1))).symm hJ
    · refine a_iload_n (pc := 14) dX8_version_14 rfl ?_
      refine a_S1i (pc := 15) dX8_version_15 lcX8_isOdd lX8_43 (fit_of hR (by omega) rfl) (c_isOdd (d0 := d0) x6) rfl rfl (ex_i ?_)
      refine a_if_eqB (pc := 18) 36 dX8_version_18 (by decide) (fun c2 => ?_) (fun c2 => ?_)
      · refine a_iconst (pc := 36) (nI 0) dX8_version_36 (by decide) ?_
        exact AW_top (bI_ndec _ (fun z => absurd z.2.1 (of_decide_eq_false c2))).symm hJ
      · refine a_aload_n (pc := 21) dX8_version_21 rfl ?_
        refine a_bipush (pc := 22) (nI 7) dX8_version_22 (by decide) ?_
        refine a_ial (pc := 24) _ dX8_version_24 rfl rfl (by omega) ?_
        refine a_iload_n (pc := 25) dX8_version_25 rfl ?_
        refine a_S1i (pc := 26) dX8_version_26 lcX8_seal lX8_47 (fit_of hR (by omega) rfl) (c_seal (d0 := d0) x6) rfl rfl (ex_i ?_)
        refine a_icmp_ne (pc := 29) 36 dX8_version_29 (by decide) (fun c3 => ?_) (fun c3 => ?_)
        · refine a_iconst (pc := 36) (nI 0) dX8_version_36 (by decide) ?_
          exact AW_top (bI_ndec _ (fun z => absurd z.2.2 c3)).symm hJ
        · refine a_iconst (pc := 32) (nI 1) dX8_version_32 (by decide) ?_
          refine a_goto (pc := 33) 37 dX8_version_33 (by decide) ?_
          exact AW_top (bI_dec _ ⟨Int32.not_le.mp c1, of_decide_eq_true c2, c3⟩).symm hJ
  refine a_istore (pc := 37) (ls' := [_, _, _, _, _, _]) dX8_version_37 (Nat.le_of_ble_eq_true rfl) rfl ?_
  refine a_iload_n (pc := 39) dX8_version_39 rfl ?_
  refine AW_val2 66 (bI (decide (0 < x14 ∧ ¬ (x14 &&& nI 1 = nI 1) ∧ gA g 61 15 = nI 31 * x14 + nI 7))) (fun hJ => ?_) ?_
  · refine a_if_le (pc := 40) 65 dX8_version_40 (by decide) (fun c1 => ?_) (fun c1 => ?_)
    · refine a_iconst (pc := 65) (nI 0) dX8_version_65 (by decide) ?_
      exact AW_top (bI_ndec _ (fun z => absurd z.1 (Int32.not_lt.mpr c1))).symm hJ
    · refine a_iload_n (pc := 43) dX8_version_43 rfl ?_
      refine a_S1i (pc := 44) dX8_version_44 lcX8_isOdd lX8_43 (fit_of hR (by omega) rfl) (c_isOdd (d0 := d0) x14) rfl rfl (ex_i ?_)
      refine a_if_neB (pc := 47) 65 dX8_version_47 (by decide) (fun c2 => ?_) (fun c2 => ?_)
      · refine a_iconst (pc := 65) (nI 0) dX8_version_65 (by decide) ?_
        exact AW_top (bI_ndec _ (fun z => absurd (of_decide_eq_true c2) z.2.1)).symm hJ
      · refine a_aload_n (pc := 50) dX8_version_50 rfl ?_
        refine a_bipush (pc := 51) (nI 15) dX8_version_51 (by decide) ?_
        refine a_ial (pc := 53) _ dX8_version_53 rfl rfl (by omega) ?_
        refine a_iload_n (pc := 54) dX8_version_54 rfl ?_
        refine a_S1i (pc := 55) dX8_version_55 lcX8_seal lX8_47 (fit_of hR (by omega) rfl) (c_seal (d0 := d0) x14) rfl rfl (ex_i ?_)
        refine a_icmp_ne (pc := 58) 65 dX8_version_58 (by decide) (fun c3 => ?_) (fun c3 => ?_)
        · refine a_iconst (pc := 65) (nI 0) dX8_version_65 (by decide) ?_
          exact AW_top (bI_ndec _ (fun z => absurd z.2.2 c3)).symm hJ
        · refine a_iconst (pc := 61) (nI 1) dX8_version_61 (by decide) ?_
          refine a_goto (pc := 62) 66 dX8_version_62 (by decide) ?_
          exact AW_top (bI_dec _ ⟨Int32.not_le.mp c1, of_decide_eq_false c2, c3⟩).symm hJ
  refine a_istore (pc := 66) (ls' := [_, _, _, _, _, _]) dX8_version_66 (Nat.le_of_ble_eq_true rfl) rfl ?_
  refine a_iload (pc := 68) dX8_version_68 rfl ?_
  refine AW_val2 78 (rootF 3 x6 (gA g 61 7)) (fun hJ => ?_) ?_
  · refine a_if_eqB (pc := 70) 77 dX8_version_70 (by decide) (fun c1 => ?_) (fun c1 => ?_)
    · have c1 := of_decide_eq_false c1
      refine a_iconst (pc := 77) (nI 0) dX8_version_77 (by decide) ?_
      exact AW_top (by rw [rootF, if_neg (fun z => c1 ⟨z.1, z.2.1.mpr rfl, z.2.2⟩)]) hJ
    · have c1 := of_decide_eq_true c1
      refine a_iload_n (pc := 73) dX8_version_73 rfl ?_
      refine a_goto (pc := 74) 78 dX8_version_74 (by decide) ?_
      exact AW_top (by rw [rootF, if_pos ⟨c1.1, ⟨fun _ => rfl, fun _ => c1.2.1⟩, c1.2.2⟩]) hJ
  refine a_iload (pc := 78) dX8_version_78 rfl ?_
  refine AW_val2 88 (rootF 7 x14 (gA g 61 15)) (fun hJ => ?_) ?_
  · refine a_if_eqB (pc := 80) 87 dX8_version_80 (by decide) (fun c1 => ?_) (fun c1 => ?_)
    · have c1 := of_decide_eq_false c1
      refine a_iconst (pc := 87) (nI 0) dX8_version_87 (by decide) ?_
      exact AW_top (by rw [rootF, if_neg (fun z => c1 ⟨z.1, fun y => absurd (z.2.1.mp y) (by decide), z.2.2⟩)]) hJ
    · have c1 := of_decide_eq_true c1
      refine a_iload_n (pc := 83) dX8_version_83 rfl ?_
      refine a_goto (pc := 84) 88 dX8_version_84 (by decide) ?_
      exact AW_top (by rw [rootF, if_pos ⟨c1.1, ⟨fun y => absurd y c1.2.1, fun y => absurd y (by decide)⟩, c1.2.2⟩]) hJ
  refine a_mmax (pc := 88) dX8_version_88 lX8_50 hR (by omega) rfl ?_
  refine ret _ _ 91 _ _ dX8_version_91 rfl ?_
  exact ⟨rfl, rfl, rfl⟩
/-- where the KEYS are: nothing for NOWHERE -/
def hoO (st : Nat) (F : Nat → Int32) : Option Nat := if st = 2 then (if verQ (F, []) = 0 then none else some (hoW (verQ (F, [])))) else some 0
def hoI (o : Option Nat) : Int32 := match o with
  | none => -1
  | some h => nI h
theorem hoO_lt {st : Nat} {F : Nat → Int32} {h : Nat} (e : hoO st F = some h) : h ≤ 4 := by
  unfold hoO at e
  split at e
  · split at e
    · cases e
    · cases e
      unfold hoW
      split <;> omega
  · cases e
    omega
def vaO (F : Nat → Int32) (k : Nat) (o : Option Nat) : Int64 := match o with
  | none => 0
  | some h => jn64 (F (2 * (h + k))) (F (2 * (h + k) + 1))
theorem vaO_key (F : Nat → Int32) (st k : Nat) : vaO F k (hoO st F) = keyQ (F, []) st k := by
  have r : ∀ s p, rdA F (qS []) (qO []) (qT []) 0 s p 0 = F (32 * 0 + 2 * s + p) := fun _ _ => rfl
  unfold keyQ keyA hoO
  dsimp only [List.length_nil]
  by_cases h2 : st = 2
  · rw [if_pos h2, if_pos h2]
    show vaO F k (if verQ (F, []) = 0 then none else some (hoW (verQ (F, [])))) = keyV F (qS []) (qO []) (qT []) 0 k 0 (verQ (F, []))
    generalize verQ (F, []) = v
    unfold keyV
    by_cases hv : v = 0
    · rw [if_pos hv, if_pos hv]
      rfl
    · rw [if_neg hv, if_neg hv, r, r, ← hoW_plc, Nat.mul_zero, Nat.zero_add]
      rfl
  · rw [if_neg h2, if_neg h2]
    unfold keyV
    rw [if_neg (by decide), r, r]
    have : plc k (nI 1) = k := by
      unfold plc
      rw [if_pos (by decide)]
    rw [this, Nat.mul_zero, Nat.zero_add]
    show jn64 (F (2 * (0 + k))) (F (2 * (0 + k) + 1)) = _
    rw [Nat.zero_add]
    rfl
set_option maxRecDepth 100000 in
theorem c_home2_3 {d0 kd kp rp : Nat} {g : GH} : ACi mX8_homeOfKeys (d0 + 2) (SS kd kp rp) g [.ref 73, .ref 3] (fun r S' g' => S' = SS kd kp rp ∧ g' = g ∧ r = hoI (hoO 2 (gA g 3))) := by
  refine ACi.of lcX8_homeOfKeys rfl rfl (fun X Q ad hR ret => ?_)
  refine AW_ls (ls' := [_, _, _]) rfl ?_
  refine a_aload_n (pc := 0) dX8_homeOfKeys_0 rfl ?_
  refine a_aload_n (pc := 1) dX8_homeOfKeys_1 rfl ?_
  refine a_V1i (pc := 2) 7 dX8_homeOfKeys_2 lcX8_version lX8_9 rfl rfl rfl (fit_of hR (by omega) rfl) (c_kver_3 (d0 := d0)) rfl rfl (ex_i ?_)
  unfold hoO at ret
  rw [if_pos rfl] at ret
  generalize verQ (gA g 3, []) = v at ret ⊢
  refine a_istore_n (pc := 5) (ls' := [_, _, _]) dX8_homeOfKeys_5 (Nat.le_of_ble_eq_true rfl) rfl ?_
  refine a_iload_n (pc := 6) dX8_homeOfKeys_6 rfl ?_
  refine a_if_ne (pc := 7) 14 dX8_homeOfKeys_7 (by decide) (fun c1 => ?_) (fun c1 => ?_)
  · refine a_iload_n (pc := 14) dX8_homeOfKeys_14 rfl ?_
    refine a_S1i (pc := 15) dX8_homeOfKeys_15 lcX8_homeWith lX8_15 (fit_of hR (by omega) rfl) (c_homeWith (d0 := d0) v) rfl rfl (ex_i ?_)
    refine ret _ _ 18 _ _ dX8_homeOfKeys_18 rfl ?_
    rw [if_neg c1]
    exact ⟨rfl, rfl, rfl⟩
  · refine a_iconst (pc := 10) (-1) dX8_homeOfKeys_10 (by decide) ?_
    refine a_goto (pc := 11) 18 dX8_homeOfKeys_11 (by decide) ?_
    refine ret _ _ 18 _ _ dX8_homeOfKeys_18 rfl ?_
    rw [if_pos c1]
    exact ⟨rfl, rfl, rfl⟩
set_option maxRecDepth 100000 in
theorem c_home0_3 {d0 kd kp rp : Nat} {g : GH} : ACi mX4_homeOfKeys d0 (SS kd kp rp) g [.ref 71, .ref 3] (fun r S' g' => S' = SS kd kp rp ∧ g' = g ∧ r = hoI (hoO 0 (gA g 3))) := by
  refine ACi.of lcX4_homeOfKeys rfl rfl (fun X Q ad hR ret => ?_)
  refine AW_ls (ls' := [_, _]) rfl ?_
  refine a_iconst (pc := 0) (nI 0) dX4_homeOfKeys_0 (by decide) ?_
  refine ret _ _ 1 _ _ dX4_homeOfKeys_1 rfl ?_
  exact ⟨rfl, rfl, rfl⟩
set_option maxRecDepth 100000 in
theorem c_home1_3 {d0 kd kp rp : Nat} {g : GH} : ACi mX2_homeOfKeys d0 (SS kd kp rp) g [.ref 72, .ref 3] (fun r S' g' => S' = SS kd kp rp ∧ g' = g ∧ r = hoI (hoO 1 (gA g 3))) := by
  refine ACi.of lcX2_homeOfKeys rfl rfl (fun X Q ad hR ret => ?_)
  refine AW_ls (ls' := [_, _]) rfl ?_
  refine a_iconst (pc := 0) (nI 0) dX2_homeOfKeys_0 (by decide) ?_
  refine ret _ _ 1 _ _ dX2_homeOfKeys_1 rfl ?_
  exact ⟨rfl, rfl, rfl⟩
set_option maxRecDepth 100000 in
theorem c_home2_29 {d0 kd kp rp : Nat} {g : GH} : ACi mX8_homeOfKeys (d0 + 2) (SS kd kp rp) g [.ref 73, .ref 29] (fun r S' g' => S' = SS kd kp rp ∧ g' = g ∧ r = hoI (hoO 2 (gA g 29))) := by
  refine ACi.of lcX8_homeOfKeys rfl rfl (fun X Q ad hR ret => ?_)
  refine AW_ls (ls' := [_, _, _]) rfl ?_
  refine a_aload_n (pc := 0) dX8_homeOfKeys_0 rfl ?_
  refine a_aload_n (pc := 1) dX8_homeOfKeys_1 rfl ?_
  refine a_V1i (pc := 2) 7 dX8_homeOfKeys_2 lcX8_version lX8_9 rfl rfl rfl (fit_of hR (by omega) rfl) (c_kver_29 (d0 := d0)) rfl rfl (ex_i ?_)
  unfold hoO at ret
  rw [if_pos rfl] at ret
  generalize verQ (gA g 29, []) = v at ret ⊢
  refine a_istore_n (pc := 5) (ls' := [_, _, _]) dX8_homeOfKeys_5 (Nat.le_of_ble_eq_true rfl) rfl ?_
  refine a_iload_n (pc := 6) dX8_homeOfKeys_6 rfl ?_
  refine a_if_ne (pc := 7) 14 dX8_homeOfKeys_7 (by decide) (fun c1 => ?_) (fun c1 => ?_)
  · refine a_iload_n (pc := 14) dX8_homeOfKeys_14 rfl ?_
    refine a_S1i (pc := 15) dX8_homeOfKeys_15 lcX8_homeWith lX8_15 (fit_of hR (by omega) rfl) (c_homeWith (d0 := d0) v) rfl rfl (ex_i ?_)
    refine ret _ _ 18 _ _ dX8_homeOfKeys_18 rfl ?_
    rw [if_neg c1]
    exact ⟨rfl, rfl, rfl⟩
  · refine a_iconst (pc := 10) (-1) dX8_homeOfKeys_10 (by decide) ?_
    refine a_goto (pc := 11) 18 dX8_homeOfKeys_11 (by decide) ?_
    refine ret _ _ 18 _ _ dX8_homeOfKeys_18 rfl ?_
    rw [if_pos c1]
    exact ⟨rfl, rfl, rfl⟩
set_option maxRecDepth 100000 in
theorem c_home0_29 {d0 kd kp rp : Nat} {g : GH} : ACi mX4_homeOfKeys d0 (SS kd kp rp) g [.ref 71, .ref 29] (fun r S' g' => S' = SS kd kp rp ∧ g' = g ∧ r = hoI (hoO 0 (gA g 29))) := by
  refine ACi.of lcX4_homeOfKeys rfl rfl (fun X Q ad hR ret => ?_)
  refine AW_ls (ls' := [_, _]) rfl ?_
  refine a_iconst (pc := 0) (nI 0) dX4_homeOfKeys_0 (by decide) ?_
  refine ret _ _ 1 _ _ dX4_homeOfKeys_1 rfl ?_
  exact ⟨rfl, rfl, rfl⟩
set_option maxRecDepth 100000 in
theorem c_home1_29 {d0 kd kp rp : Nat} {g : GH} : ACi mX2_homeOfKeys d0 (SS kd kp rp) g [.ref 72, .ref 29] (fun r S' g' => S' = SS kd kp rp ∧ g' = g ∧ r = hoI (hoO 1 (gA g 29))) := by
  refine ACi.of lcX2_homeOfKeys rfl rfl (fun X Q ad hR ret => ?_)
  refine AW_ls (ls' := [_, _]) rfl ?_
  refine a_iconst (pc := 0) (nI 0) dX2_homeOfKeys_0 (by decide) ?_
  refine ret _ _ 1 _ _ dX2_homeOfKeys_1 rfl ?_
  exact ⟨rfl, rfl, rfl⟩
set_option maxRecDepth 100000 in
theorem c_home2_35 {d0 kd kp rp : Nat} {g : GH} : ACi mX8_homeOfKeys (d0 + 2) (SS kd kp rp) g [.ref 73, .ref 35] (fun r S' g' => S' = SS kd kp rp ∧ g' = g ∧ r = hoI (hoO 2 (gA g 35))) := by
  refine ACi.of lcX8_homeOfKeys rfl rfl (fun X Q ad hR ret => ?_)
  refine AW_ls (ls' := [_, _, _]) rfl ?_
  refine a_aload_n (pc := 0) dX8_homeOfKeys_0 rfl ?_
  refine a_aload_n (pc := 1) dX8_homeOfKeys_1 rfl ?_
  refine a_V1i (pc := 2) 7 dX8_homeOfKeys_2 lcX8_version lX8_9 rfl rfl rfl (fit_of hR (by omega) rfl) (c_kver_35 (d0 := d0)) rfl rfl (ex_i ?_)
  unfold hoO at ret
  rw [if_pos rfl] at ret
  generalize verQ (gA g 35, []) = v at ret ⊢
  refine a_istore_n (pc := 5) (ls' := [_, _, _]) dX8_homeOfKeys_5 (Nat.le_of_ble_eq_true rfl) rfl ?_
  refine a_iload_n (pc := 6) dX8_homeOfKeys_6 rfl ?_
  refine a_if_ne (pc := 7) 14 dX8_homeOfKeys_7 (by decide) (fun c1 => ?_) (fun c1 => ?_)
  · refine a_iload_n (pc := 14) dX8_homeOfKeys_14 rfl ?_
    refine a_S1i (pc := 15) dX8_homeOfKeys_15 lcX8_homeWith lX8_15 (fit_of hR (by omega) rfl) (c_homeWith (d0 := d0) v) rfl rfl (ex_i ?_)
    refine ret _ _ 18 _ _ dX8_homeOfKeys_18 rfl ?_
    rw [if_neg c1]
    exact ⟨rfl, rfl, rfl⟩
  · refine a_iconst (pc := 10) (-1) dX8_homeOfKeys_10 (by decide) ?_
    refine a_goto (pc := 11) 18 dX8_homeOfKeys_11 (by decide) ?_
    refine ret _ _ 18 _ _ dX8_homeOfKeys_18 rfl ?_
    rw [if_pos c1]
    exact ⟨rfl, rfl, rfl⟩
set_option maxRecDepth 100000 in
theorem c_home0_35 {d0 kd kp rp : Nat} {g : GH} : ACi mX4_homeOfKeys d0 (SS kd kp rp) g [.ref 71, .ref 35] (fun r S' g' => S' = SS kd kp rp ∧ g' = g ∧ r = hoI (hoO 0 (gA g 35))) := by
  refine ACi.of lcX4_homeOfKeys rfl rfl (fun X Q ad hR ret => ?_)
  refine AW_ls (ls' := [_, _]) rfl ?_
  refine a_iconst (pc := 0) (nI 0) dX4_homeOfKeys_0 (by decide) ?_
  refine ret _ _ 1 _ _ dX4_homeOfKeys_1 rfl ?_
  exact ⟨rfl, rfl, rfl⟩
set_option maxRecDepth 100000 in
theorem c_home1_35 {d0 kd kp rp : Nat} {g : GH} : ACi mX2_homeOfKeys d0 (SS kd kp rp) g [.ref 72, .ref 35] (fun r S' g' => S' = SS kd kp rp ∧ g' = g ∧ r = hoI (hoO 1 (gA g 35))) := by
  refine ACi.of lcX2_homeOfKeys rfl rfl (fun X Q ad hR ret => ?_)
  refine AW_ls (ls' := [_, _]) rfl ?_
  refine a_iconst (pc := 0) (nI 0) dX2_homeOfKeys_0 (by decide) ?_
  refine ret _ _ 1 _ _ dX2_homeOfKeys_1 rfl ?_
  exact ⟨rfl, rfl, rfl⟩
set_option maxRecDepth 100000 in
theorem c_home2_61 {d0 kd kp rp : Nat} {g : GH} : ACi mX8_homeOfKeys (d0 + 2) (SS kd kp rp) g [.ref 73, .ref 61] (fun r S' g' => S' = SS kd kp rp ∧ g' = g ∧ r = hoI (hoO 2 (gA g 61))) := by
  refine ACi.of lcX8_homeOfKeys rfl rfl (fun X Q ad hR ret => ?_)
  refine AW_ls (ls' := [_, _, _]) rfl ?_
  refine a_aload_n (pc := 0) dX8_homeOfKeys_0 rfl ?_
  refine a_aload_n (pc := 1) dX8_homeOfKeys_1 rfl ?_
  refine a_V1i (pc := 2) 7 dX8_homeOfKeys_2 lcX8_version lX8_9 rfl rfl rfl (fit_of hR (by omega) rfl) (c_kver_61 (d0 := d0)) rfl rfl (ex_i ?_)
  unfold hoO at ret
  rw [if_pos rfl] at ret
  generalize verQ (gA g 61, []) = v at ret ⊢
  refine a_istore_n (pc := 5) (ls' := [_, _, _]) dX8_homeOfKeys_5 (Nat.le_of_ble_eq_true rfl) rfl ?_
  refine a_iload_n (pc := 6) dX8_homeOfKeys_6 rfl ?_
  refine a_if_ne (pc := 7) 14 dX8_homeOfKeys_7 (by decide) (fun c1 => ?_) (fun c1 => ?_)
  · refine a_iload_n (pc := 14) dX8_homeOfKeys_14 rfl ?_
    refine a_S1i (pc := 15) dX8_homeOfKeys_15 lcX8_homeWith lX8_15 (fit_of hR (by omega) rfl) (c_homeWith (d0 := d0) v) rfl rfl (ex_i ?_)
    refine ret _ _ 18 _ _ dX8_homeOfKeys_18 rfl ?_
    rw [if_neg c1]
    exact ⟨rfl, rfl, rfl⟩
  · refine a_iconst (pc := 10) (-1) dX8_homeOfKeys_10 (by decide) ?_
    refine a_goto (pc := 11) 18 dX8_homeOfKeys_11 (by decide) ?_
    refine ret _ _ 18 _ _ dX8_homeOfKeys_18 rfl ?_
    rw [if_pos c1]
    exact ⟨rfl, rfl, rfl⟩
set_option maxRecDepth 100000 in
theorem c_home0_61 {d0 kd kp rp : Nat} {g : GH} : ACi mX4_homeOfKeys d0 (SS kd kp rp) g [.ref 71, .ref 61] (fun r S' g' => S' = SS kd kp rp ∧ g' = g ∧ r = hoI (hoO 0 (gA g 61))) := by
  refine ACi.of lcX4_homeOfKeys rfl rfl (fun X Q ad hR ret => ?_)
  refine AW_ls (ls' := [_, _]) rfl ?_
  refine a_iconst (pc := 0) (nI 0) dX4_homeOfKeys_0 (by decide) ?_
  refine ret _ _ 1 _ _ dX4_homeOfKeys_1 rfl ?_
  exact ⟨rfl, rfl, rfl⟩
set_option maxRecDepth 100000 in
theorem c_home1_61 {d0 kd kp rp : Nat} {g : GH} : ACi mX2_homeOfKeys d0 (SS kd kp rp) g [.ref 72, .ref 61] (fun r S' g' => S' = SS kd kp rp ∧ g' = g ∧ r = hoI (hoO 1 (gA g 61))) := by
  refine ACi.of lcX2_homeOfKeys rfl rfl (fun X Q ad hR ret => ?_)
  refine AW_ls (ls' := [_, _]) rfl ?_
  refine a_iconst (pc := 0) (nI 0) dX2_homeOfKeys_0 (by decide) ?_
  refine ret _ _ 1 _ _ dX2_homeOfKeys_1 rfl ?_
  exact ⟨rfl, rfl, rfl⟩
set_option maxRecDepth 100000 in
theorem c_valueAt_3 {d0 kd kp rp : Nat} {g : GH} (o : Option Nat) (k : Nat) (ho : ∀ h, o = some h → h ≤ 4) (hk : k < 3) : ACl mX1_valueAt d0 (SS kd kp rp) g [.ref 3, .int (hoI o), .int (nI k)] (fun r S' g' => S' = SS kd kp rp ∧ g' = g ∧ r = vaO (gA g 3) k o) := by
  cases o with
  | none =>
    refine ACl.of lcX1_valueAt rfl rfl (fun X Q ad hR ret => ?_)
    refine AW_ls (ls' := [_, _, _, _]) rfl ?_
    refine a_iload_n (pc := 0) dX1_valueAt_0 rfl ?_
    refine a_iconst (pc := 1) (-1) dX1_valueAt_1 (by decide) ?_
    refine a_icmp_ne (pc := 2) 7 dX1_valueAt_2 (by decide) (fun c1 => ?_) (fun c1 => ?_)
    · exact absurd rfl c1
    · refine a_lconst (pc := 5) 0 dX1_valueAt_5 (by decide) ?_
      refine ret _ _ 6 _ _ dX1_valueAt_6 rfl ?_
      exact ⟨rfl, rfl, rfl⟩
  | some h =>
    have := ho h rfl
    refine ACl.of lcX1_valueAt rfl rfl (fun X Q ad hR ret => ?_)
    refine AW_ls (ls' := [_, _, _, _]) rfl ?_
    refine a_iload_n (pc := 0) dX1_valueAt_0 rfl ?_
    refine a_iconst (pc := 1) (-1) dX1_valueAt_1 (by decide) ?_
    refine a_icmp_ne (pc := 2) 7 dX1_valueAt_2 (by decide) (fun c1 => ?_) (fun c1 => ?_)
    · rw [show hoI (some h) = nI h from rfl]
      refine a_iconst (pc := 7) (nI 2) dX1_valueAt_7 (by decide) ?_
      refine a_iload_n (pc := 8) dX1_valueAt_8 rfl ?_
      refine a_iload_n (pc := 9) dX1_valueAt_9 rfl ?_
      refine a_iadd (pc := 10) dX1_valueAt_10 ?_
      try rw [nI_add]
      refine a_imul (pc := 11) dX1_valueAt_11 ?_
      try rw [pk_mul]
      refine a_istore_n (pc := 12) (ls' := [_, _, _, _]) dX1_valueAt_12 (Nat.le_of_ble_eq_true rfl) rfl ?_
      refine a_aload_n (pc := 13) dX1_valueAt_13 rfl ?_
      refine a_iload_n (pc := 14) dX1_valueAt_14 rfl ?_
      refine a_ial (pc := 15) _ dX1_valueAt_15 rfl rfl (by omega) ?_
      refine a_i2l (pc := 16) dX1_valueAt_16 ?_
      refine a_bipush (pc := 17) (nI 32) dX1_valueAt_17 (by decide) ?_
      refine a_lshl (pc := 19) dX1_valueAt_19 ?_
      refine a_aload_n (pc := 20) dX1_valueAt_20 rfl ?_
      refine a_iload_n (pc := 21) dX1_valueAt_21 rfl ?_
      refine a_iconst (pc := 22) (nI 1) dX1_valueAt_22 (by decide) ?_
      refine a_iadd (pc := 23) dX1_valueAt_23 ?_
      try rw [nI_add]
      refine a_ial (pc := 24) _ dX1_valueAt_24 rfl rfl (by omega) ?_
      refine a_i2l (pc := 25) dX1_valueAt_25 ?_
      refine a_ldc2 (pc := 26) 4294967295 dX1_valueAt_26 (gW_in 622 (by decide +kernel) rfl) ?_
      refine a_land (pc := 29) dX1_valueAt_29 ?_
      refine a_lor (pc := 30) dX1_valueAt_30 ?_
      refine ret _ _ 31 _ _ dX1_valueAt_31 rfl ?_
      exact ⟨rfl, rfl, rfl⟩
    · exact absurd c1 (nI_m1 (by omega))
set_option maxRecDepth 100000 in
theorem c_valueOf_3 {d0 kd kp rp : Nat} {g : GH} (st k : Nat) (hst : st < 3) (hk : k < 3) : ACl mX1_valueOf (d0 + 3) (SS kd kp rp) g [.ref (71 + st), .ref 3, .int (nI k)] (fun r S' g' => S' = SS kd kp rp ∧ g' = g ∧ r = keyQ (gA g 3, []) st k) := by
  match st, hst with
  | 0, _ =>
    refine ACl.of lcX1_valueOf rfl rfl (fun X Q ad hR ret => ?_)
    refine AW_ls (ls' := [_, _, _]) rfl ?_
    refine a_aload_n (pc := 0) dX1_valueOf_0 rfl ?_
    refine a_aload_n (pc := 1) dX1_valueOf_1 rfl ?_
    refine a_aload_n (pc := 2) dX1_valueOf_2 rfl ?_
    refine a_U1i (pc := 3) 3 dX1_valueOf_3 rfl lcX4_homeOfKeys lX1_19_X4 rfl (fit_of hR (by omega) rfl) (c_home0_3 (d0 := d0)) rfl rfl (ex_i ?_)
    refine a_iload_n (pc := 6) dX1_valueOf_6 rfl ?_
    refine a_S3l (pc := 7) dX1_valueOf_7 lcX1_valueAt lX1_23 (fit_of hR (by omega) rfl) (c_valueAt_3 (d0 := d0) (hoO 0 (gA g 3)) k (fun h e => hoO_lt e) hk) rfl rfl (ex_l ?_)
    refine ret _ _ 10 _ _ dX1_valueOf_10 rfl ?_
    exact ⟨rfl, rfl, vaO_key _ _ _⟩
  | 1, _ =>
    refine ACl.of lcX1_valueOf rfl rfl (fun X Q ad hR ret => ?_)
    refine AW_ls (ls' := [_, _, _]) rfl ?_
    refine a_aload_n (pc := 0) dX1_valueOf_0 rfl ?_
    refine a_aload_n (pc := 1) dX1_valueOf_1 rfl ?_
    refine a_aload_n (pc := 2) dX1_valueOf_2 rfl ?_
    refine a_U1i (pc := 3) 1 dX1_valueOf_3 rfl lcX2_homeOfKeys lX1_19_X2 rfl (fit_of hR (by omega) rfl) (c_home1_3 (d0 := d0)) rfl rfl (ex_i ?_)
    refine a_iload_n (pc := 6) dX1_valueOf_6 rfl ?_
    refine a_S3l (pc := 7) dX1_valueOf_7 lcX1_valueAt lX1_23 (fit_of hR (by omega) rfl) (c_valueAt_3 (d0 := d0) (hoO 1 (gA g 3)) k (fun h e => hoO_lt e) hk) rfl rfl (ex_l ?_)
    refine ret _ _ 10 _ _ dX1_valueOf_10 rfl ?_
    exact ⟨rfl, rfl, vaO_key _ _ _⟩
  | 2, _ =>
    refine ACl.of lcX1_valueOf rfl rfl (fun X Q ad hR ret => ?_)
    refine AW_ls (ls' := [_, _, _]) rfl ?_
    refine a_aload_n (pc := 0) dX1_valueOf_0 rfl ?_
    refine a_aload_n (pc := 1) dX1_valueOf_1 rfl ?_
    refine a_aload_n (pc := 2) dX1_valueOf_2 rfl ?_
    refine a_U1i (pc := 3) 7 dX1_valueOf_3 rfl lcX8_homeOfKeys lX1_19_X8 rfl (fit_of hR (by omega) rfl) (c_home2_3 (d0 := d0)) rfl rfl (ex_i ?_)
    refine a_iload_n (pc := 6) dX1_valueOf_6 rfl ?_
    refine a_S3l (pc := 7) dX1_valueOf_7 lcX1_valueAt lX1_23 (fit_of hR (by omega) rfl) (c_valueAt_3 (d0 := d0) (hoO 2 (gA g 3)) k (fun h e => hoO_lt e) hk) rfl rfl (ex_l ?_)
    refine ret _ _ 10 _ _ dX1_valueOf_10 rfl ?_
    exact ⟨rfl, rfl, vaO_key _ _ _⟩
set_option maxRecDepth 100000 in
theorem c_valueAt_29 {d0 kd kp rp : Nat} {g : GH} (o : Option Nat) (k : Nat) (ho : ∀ h, o = some h → h ≤ 4) (hk : k < 3) : ACl mX1_valueAt d0 (SS kd kp rp) g [.ref 29, .int (hoI o), .int (nI k)] (fun r S' g' => S' = SS kd kp rp ∧ g' = g ∧ r = vaO (gA g 29) k o) := by
  cases o with
  | none =>
    refine ACl.of lcX1_valueAt rfl rfl (fun X Q ad hR ret => ?_)
    refine AW_ls (ls' := [_, _, _, _]) rfl ?_
    refine a_iload_n (pc := 0) dX1_valueAt_0 rfl ?_
    refine a_iconst (pc := 1) (-1) dX1_valueAt_1 (by decide) ?_
    refine a_icmp_ne (pc := 2) 7 dX1_valueAt_2 (by decide) (fun c1 => ?_) (fun c1 => ?_)
    · exact absurd rfl c1
    · refine a_lconst (pc := 5) 0 dX1_valueAt_5 (by decide) ?_
      refine ret _ _ 6 _ _ dX1_valueAt_6 rfl ?_
      exact ⟨rfl, rfl, rfl⟩
  | some h =>
    have := ho h rfl
    refine ACl.of lcX1_valueAt rfl rfl (fun X Q ad hR ret => ?_)
    refine AW_ls (ls' := [_, _, _, _]) rfl ?_
    refine a_iload_n (pc := 0) dX1_valueAt_0 rfl ?_
    refine a_iconst (pc := 1) (-1) dX1_valueAt_1 (by decide) ?_
    refine a_icmp_ne (pc := 2) 7 dX1_valueAt_2 (by decide) (fun c1 => ?_) (fun c1 => ?_)
    · rw [show hoI (some h) = nI h from rfl]
      refine a_iconst (pc := 7) (nI 2) dX1_valueAt_7 (by decide) ?_
      refine a_iload_n (pc := 8) dX1_valueAt_8 rfl ?_
      refine a_iload_n (pc := 9) dX1_valueAt_9 rfl ?_
      refine a_iadd (pc := 10) dX1_valueAt_10 ?_
      try rw [nI_add]
      refine a_imul (pc := 11) dX1_valueAt_11 ?_
      try rw [pk_mul]
      refine a_istore_n (pc := 12) (ls' := [_, _, _, _]) dX1_valueAt_12 (Nat.le_of_ble_eq_true rfl) rfl ?_
      refine a_aload_n (pc := 13) dX1_valueAt_13 rfl ?_
      refine a_iload_n (pc := 14) dX1_valueAt_14 rfl ?_
      refine a_ial (pc := 15) _ dX1_valueAt_15 rfl rfl (by omega) ?_
      refine a_i2l (pc := 16) dX1_valueAt_16 ?_
      refine a_bipush (pc := 17) (nI 32) dX1_valueAt_17 (by decide) ?_
      refine a_lshl (pc := 19) dX1_valueAt_19 ?_
      refine a_aload_n (pc := 20) dX1_valueAt_20 rfl ?_
      refine a_iload_n (pc := 21) dX1_valueAt_21 rfl ?_
      refine a_iconst (pc := 22) (nI 1) dX1_valueAt_22 (by decide) ?_
      refine a_iadd (pc := 23) dX1_valueAt_23 ?_
      try rw [nI_add]
      refine a_ial (pc := 24) _ dX1_valueAt_24 rfl rfl (by omega) ?_
      refine a_i2l (pc := 25) dX1_valueAt_25 ?_
      refine a_ldc2 (pc := 26) 4294967295 dX1_valueAt_26 (gW_in 622 (by decide +kernel) rfl) ?_
      refine a_land (pc := 29) dX1_valueAt_29 ?_
      refine a_lor (pc := 30) dX1_valueAt_30 ?_
      refine ret _ _ 31 _ _ dX1_valueAt_31 rfl ?_
      exact ⟨rfl, rfl, rfl⟩
    · exact absurd c1 (nI_m1 (by omega))
set_option maxRecDepth 100000 in
theorem c_valueOf_29 {d0 kd kp rp : Nat} {g : GH} (st k : Nat) (hst : st < 3) (hk : k < 3) : ACl mX1_valueOf (d0 + 3) (SS kd kp rp) g [.ref (71 + st), .ref 29, .int (nI k)] (fun r S' g' => S' = SS kd kp rp ∧ g' = g ∧ r = keyQ (gA g 29, []) st k) := by
  match st, hst with
  | 0, _ =>
    refine ACl.of lcX1_valueOf rfl rfl (fun X Q ad hR ret => ?_)
    refine AW_ls (ls' := [_, _, _]) rfl ?_
    refine a_aload_n (pc := 0) dX1_valueOf_0 rfl ?_
    refine a_aload_n (pc := 1) dX1_valueOf_1 rfl ?_
    refine a_aload_n (pc := 2) dX1_valueOf_2 rfl ?_
    refine a_U1i (pc := 3) 3 dX1_valueOf_3 rfl lcX4_homeOfKeys lX1_19_X4 rfl (fit_of hR (by omega) rfl) (c_home0_29 (d0 := d0)) rfl rfl (ex_i ?_)
    refine a_iload_n (pc := 6) dX1_valueOf_6 rfl ?_
    refine a_S3l (pc := 7) dX1_valueOf_7 lcX1_valueAt lX1_23 (fit_of hR (by omega) rfl) (c_valueAt_29 (d0 := d0) (hoO 0 (gA g 29)) k (fun h e => hoO_lt e) hk) rfl rfl (ex_l ?_)
    refine ret _ _ 10 _ _ dX1_valueOf_10 rfl ?_
    exact ⟨rfl, rfl, vaO_key _ _ _⟩
  | 1, _ =>
    refine ACl.of lcX1_valueOf rfl rfl (fun X Q ad hR ret => ?_)
    refine AW_ls (ls' := [_, _, _]) rfl ?_
    refine a_aload_n (pc := 0) dX1_valueOf_0 rfl ?_
    refine a_aload_n (pc := 1) dX1_valueOf_1 rfl ?_
    refine a_aload_n (pc := 2) dX1_valueOf_2 rfl ?_
    refine a_U1i (pc := 3) 1 dX1_valueOf_3 rfl lcX2_homeOfKeys lX1_19_X2 rfl (fit_of hR (by omega) rfl) (c_home1_29 (d0 := d0)) rfl rfl (ex_i ?_)
    refine a_iload_n (pc := 6) dX1_valueOf_6 rfl ?_
    refine a_S3l (pc := 7) dX1_valueOf_7 lcX1_valueAt lX1_23 (fit_of hR (by omega) rfl) (c_valueAt_29 (d0 := d0) (hoO 1 (gA g 29)) k (fun h e => hoO_lt e) hk) rfl rfl (ex_l ?_)
    refine ret _ _ 10 _ _ dX1_valueOf_10 rfl ?_
    exact ⟨rfl, rfl, vaO_key _ _ _⟩
  | 2, _ =>
    refine ACl.of lcX1_valueOf rfl rfl (fun X Q ad hR ret => ?_)
    refine AW_ls (ls' := [_, _, _]) rfl ?_
    refine a_aload_n (pc := 0) dX1_valueOf_0 rfl ?_
    refine a_aload_n (pc := 1) dX1_valueOf_1 rfl ?_
    refine a_aload_n (pc := 2) dX1_valueOf_2 rfl ?_
    refine a_U1i (pc := 3) 7 dX1_valueOf_3 rfl lcX8_homeOfKeys lX1_19_X8 rfl (fit_of hR (by omega) rfl) (c_home2_29 (d0 := d0)) rfl rfl (ex_i ?_)
    refine a_iload_n (pc := 6) dX1_valueOf_6 rfl ?_
    refine a_S3l (pc := 7) dX1_valueOf_7 lcX1_valueAt lX1_23 (fit_of hR (by omega) rfl) (c_valueAt_29 (d0 := d0) (hoO 2 (gA g 29)) k (fun h e => hoO_lt e) hk) rfl rfl (ex_l ?_)
    refine ret _ _ 10 _ _ dX1_valueOf_10 rfl ?_
    exact ⟨rfl, rfl, vaO_key _ _ _⟩
