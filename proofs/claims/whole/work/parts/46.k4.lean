/-! the max and min of the JDK -/
section A46
variable {M : Mi} {X : Cx} {Q : State → Prop} {ad : Nat → Nat} {h : sH} {pc : Nat} {ls : List (Option Value)} {st : List Value}
def LkM (own : String) (idx : Nat) (b : Bool) : Prop := Cond.methodLink own idx (if b then Lib.Math.max.name else Lib.Math.min.name) ∈ gW
theorem mm_s : Cond.static Lib.Math.max.name ∈ gW ∧ Cond.code Lib.Math.max.name Lib.Math.max.code 2 (some .int) ∈ gW ∧ Cond.static Lib.Math.min.name ∈ gW ∧ Cond.code Lib.Math.min.name Lib.Math.min.code 2 (some .int) ∈ gW ∧ Cond.initialized "java/lang/Math" ∈ gW := ⟨gW_in 448 (by decide +kernel) rfl, gW_in 449 (by decide +kernel) rfl, gW_in 451 (by decide +kernel) rfl, gW_in 452 (by decide +kernel) rfl, gW_in 66 (by decide +kernel) rfl⟩
theorem lX9_61 : LkM RX9 61 true := gW_in 447 (by decide +kernel) rfl
theorem lX9_67 : LkM RX9 67 false := gW_in 450 (by decide +kernel) rfl
theorem lX8_50 : LkM RX8 50 true := gW_in 610 (by decide +kernel) rfl
theorem lX3_177 : LkM RX3 177 true := gW_in 783 (by decide +kernel) rfl
theorem a_mmax {idx e : Nat} {x y : Int32} (d : decode (mcc M) pc = .ok (.invokestatic idx, 3)) (L : LkM (mown M) idx true) (hR : xR X = rmD e) (he : 0 < e) (hw : Nat.ble (st.map Value.category).sum 8 = true) (kk : AW M X Q ad 0 0 h (pc + 3) ls (.int (if x ≤ y then y else x) :: st)) : AW M X Q ad 0 0 h pc ls (.int y :: .int x :: st) := by
  intro C H locs lc r
  have G := C.2.2.2.2.1
  have hs := rest_cat (ad := ad) st (Nat.le_of_ble_eq_true hw)
  refine va_mmax (cc := mcc M) C.1 C.2.1 (C.2.2.1.trans r.2.2.2.1.symm) C.2.2.2.1 (G _ L) (G _ mm_s.1) (G _ mm_s.2.2.2.2) (G _ mm_s.2.1) (by rw [hR]; exact he) (by rw [hR]; show _ ≤ 64 * e; omega) (by rw [hR]; exact Nat.le_refl _) (by rw [hR]; exact Nat.le_refl _) d ?_
  have ee : (if x < y then y else x) = (if x ≤ y then y else x) := by
    by_cases z : x ≤ y
    · rw [if_pos z]
      by_cases z2 : x < y
      · rw [if_pos z2]
      · rw [if_neg z2]
        exact Int32.le_antisymm z (Int32.not_lt.mp z2)
    · rw [if_neg z, if_neg (fun q => z (Int32.le_of_lt q))]
  rw [ee]
  exact kk C H locs lc r
theorem a_mmin {idx e : Nat} {x y : Int32} (d : decode (mcc M) pc = .ok (.invokestatic idx, 3)) (L : LkM (mown M) idx false) (hR : xR X = rmD e) (he : 0 < e) (hw : Nat.ble (st.map Value.category).sum 8 = true) (kk : AW M X Q ad 0 0 h (pc + 3) ls (.int (if y < x then y else x) :: st)) : AW M X Q ad 0 0 h pc ls (.int y :: .int x :: st) := by
  intro C H locs lc r
  have G := C.2.2.2.2.1
  have hs := rest_cat (ad := ad) st (Nat.le_of_ble_eq_true hw)
  exact va_mmin (cc := mcc M) C.1 C.2.1 (C.2.2.1.trans r.2.2.2.1.symm) C.2.2.2.1 (G _ L) (G _ mm_s.2.2.1) (G _ mm_s.2.2.2.2) (G _ mm_s.2.2.2.1) (by rw [hR]; exact he) (by rw [hR]; show _ ≤ 64 * e; omega) (by rw [hR]; exact Nat.le_refl _) (by rw [hR]; exact Nat.le_refl _) d (kk C H locs lc r)
theorem a_mmaxN {idx e x y : Nat} (d : decode (mcc M) pc = .ok (.invokestatic idx, 3)) (L : LkM (mown M) idx true) (hR : xR X = rmD e) (he : 0 < e) (hw : Nat.ble (st.map Value.category).sum 8 = true) (hx : x < 2147483648) (hy : y < 2147483648) (kk : AW M X Q ad 0 0 h (pc + 3) ls (.int (nI (max x y)) :: st)) : AW M X Q ad 0 0 h pc ls (.int (nI y) :: .int (nI x) :: st) := by
  refine a_mmax d L hR he hw (AW_top ?_ kk)
  by_cases z : x ≤ y
  · rw [if_pos ((nI_leI hx hy).mpr z), Nat.max_eq_right z]
  · rw [if_neg (fun q => z ((nI_leI hx hy).mp q)), Nat.max_eq_left (by omega)]
theorem a_mminN {idx e x y : Nat} (d : decode (mcc M) pc = .ok (.invokestatic idx, 3)) (L : LkM (mown M) idx false) (hR : xR X = rmD e) (he : 0 < e) (hw : Nat.ble (st.map Value.category).sum 8 = true) (hx : x < 2147483648) (hy : y < 2147483648) (kk : AW M X Q ad 0 0 h (pc + 3) ls (.int (nI (min x y)) :: st)) : AW M X Q ad 0 0 h pc ls (.int (nI y) :: .int (nI x) :: st) := by
  refine a_mmin d L hR he hw (AW_top ?_ kk)
  by_cases z : y < x
  · rw [if_pos ((nI_ltI hy hx).mpr z), Nat.min_eq_right (by omega)]
  · rw [if_neg (fun q => z ((nI_ltI hy hx).mp q)), Nat.min_eq_left (by omega)]
end A46
set_option maxRecDepth 100000 in
theorem c_khigh {d0 : Nat} {S : sH} {g : GH} (v : Int64) : ACi mX10_high d0 S g [.long v] (fun r S' g' => S' = S ∧ g' = g ∧ r = hi32 v) := by
  refine ACi.of lcX10_high rfl rfl (fun X Q ad hR ret => ?_)
  refine AW_ls (ls' := [_, _]) rfl ?_
  refine a_lload_n (pc := 0) dX10_high_0 rfl ?_
  refine a_bipush (pc := 1) (nI 32) dX10_high_1 (by decide) ?_
  refine a_lshr (pc := 3) dX10_high_3 ?_
  refine a_l2i (pc := 4) dX10_high_4 ?_
  refine ret _ _ 5 _ _ dX10_high_5 rfl ?_
  exact ⟨rfl, rfl, rfl⟩
set_option maxRecDepth 100000 in
theorem c_klow {d0 : Nat} {S : sH} {g : GH} (v : Int64) : ACi mX10_low d0 S g [.long v] (fun r S' g' => S' = S ∧ g' = g ∧ r = v.toInt32) := by
  refine ACi.of lcX10_low rfl rfl (fun X Q ad hR ret => ?_)
  refine AW_ls (ls' := [_, _]) rfl ?_
  refine a_lload_n (pc := 0) dX10_low_0 rfl ?_
  refine a_l2i (pc := 1) dX10_low_1 ?_
  refine ret _ _ 2 _ _ dX10_low_2 rfl ?_
  exact ⟨rfl, rfl, rfl⟩
set_option maxRecDepth 100000 in
theorem c_isKey {d0 : Nat} {S : sH} {g : GH} (x : Int32) : ACi mX10_isKey d0 S g [.int x] (fun r S' g' => S' = S ∧ g' = g ∧ r = bI (insQ x (nI 0) (nI 2))) := by
  have h15 : ∀ x : Int32, insQ x (nI 0) (nI 2) = true ↔ 0 ≤ x ∧ x ≤ nI 2 := fun x => by
    unfold insQ
    rw [Bool.and_eq_true, decide_eq_true_iff, decide_eq_true_iff]
    rfl
  refine ACz.of lcX10_isKey rfl rfl (fun X Q ad hR ret => ?_)
  refine AW_ls (ls' := [_]) rfl ?_
  refine a_iload_n (pc := 0) dX10_isKey_0 rfl ?_
  refine a_if_lt (pc := 1) 13 dX10_isKey_1 (by decide) (fun c1 => ?_) (fun c1 => ?_)
  · refine a_iconst (pc := 13) (nI 0) dX10_isKey_13 (by decide) ?_
    refine ret _ _ 14 _ _ dX10_isKey_14 rfl (by first | exact Or.inl rfl | exact Or.inr rfl | exact bI_01 _) ?_
    refine ⟨rfl, rfl, ?_⟩
    have : insQ x (nI 0) (nI 2) = false := Bool.eq_false_iff.mpr (fun z => absurd c1 (Int32.not_lt.mpr ((h15 x).mp z).1))
    rw [this]
    rfl
  · refine a_iload_n (pc := 4) dX10_isKey_4 rfl ?_
    refine a_iconst (pc := 5) (nI 3) dX10_isKey_5 (by decide) ?_
    refine a_icmp_ge (pc := 6) 13 dX10_isKey_6 (by decide) (fun c2 => ?_) (fun c2 => ?_)
    · refine a_iconst (pc := 13) (nI 0) dX10_isKey_13 (by decide) ?_
      refine ret _ _ 14 _ _ dX10_isKey_14 rfl (by first | exact Or.inl rfl | exact Or.inr rfl | exact bI_01 _) ?_
      refine ⟨rfl, rfl, ?_⟩
      have : insQ x (nI 0) (nI 2) = false := Bool.eq_false_iff.mpr (fun z => by
        have z2 := ((h15 x).mp z).2
        rw [Int32.le_iff_toInt_le] at c2 z2
        have e1 : (nI 3).toInt = 3 := rfl
        have e2 : (nI 2).toInt = 2 := rfl
        omega)
      rw [this]
      rfl
    · refine a_iconst (pc := 9) (nI 1) dX10_isKey_9 (by decide) ?_
      refine a_goto (pc := 10) 14 dX10_isKey_10 (by decide) ?_
      refine ret _ _ 14 _ _ dX10_isKey_14 rfl (by first | exact Or.inl rfl | exact Or.inr rfl | exact bI_01 _) ?_
      refine ⟨rfl, rfl, ?_⟩
      have : insQ x (nI 0) (nI 2) = true := (h15 x).mpr ⟨Int32.not_lt.mp c1, by
        have c2 := Int32.not_le.mp c2
        rw [Int32.lt_iff_toInt_lt] at c2
        rw [Int32.le_iff_toInt_le]
        have e1 : (nI 3).toInt = 3 := rfl
        have e2 : (nI 2).toInt = 2 := rfl
        omega⟩
      rw [this]
      rfl
set_option maxRecDepth 100000 in
theorem c_ksum {d0 : Nat} {S : sH} {g : GH} (n k kh kl l lh ll : Int32) : ACi mX2_sum d0 S g [.int n, .int k, .int kh, .int kl, .int l, .int lh, .int ll] (fun r S' g' => S' = S ∧ g' = g ∧ r = sum7 n k kh kl l lh ll) := by
  refine ACi.of lcX2_sum rfl rfl (fun X Q ad hR ret => ?_)
  refine AW_ls (ls' := [_, _, _, _, _, _, _, _]) rfl ?_
  refine a_iload_n (pc := 0) dX2_sum_0 rfl ?_
  refine a_istore (pc := 1) (ls' := [_, _, _, _, _, _, _, _]) dX2_sum_1 (Nat.le_of_ble_eq_true rfl) rfl ?_
  refine a_bipush (pc := 3) (nI 31) dX2_sum_3 (by decide) ?_
  refine a_iload (pc := 5) dX2_sum_5 rfl ?_
  refine a_imul (pc := 7) dX2_sum_7 ?_
  try rw [pk_mul]
  refine a_iload_n (pc := 8) dX2_sum_8 rfl ?_
  refine a_iadd (pc := 9) dX2_sum_9 ?_
  try rw [nI_add]
  refine a_istore (pc := 10) (ls' := [_, _, _, _, _, _, _, _]) dX2_sum_10 (Nat.le_of_ble_eq_true rfl) rfl ?_
  refine a_bipush (pc := 12) (nI 31) dX2_sum_12 (by decide) ?_
  refine a_iload (pc := 14) dX2_sum_14 rfl ?_
  refine a_imul (pc := 16) dX2_sum_16 ?_
  try rw [pk_mul]
  refine a_iload_n (pc := 17) dX2_sum_17 rfl ?_
  refine a_iadd (pc := 18) dX2_sum_18 ?_
  try rw [nI_add]
  refine a_istore (pc := 19) (ls' := [_, _, _, _, _, _, _, _]) dX2_sum_19 (Nat.le_of_ble_eq_true rfl) rfl ?_
  refine a_bipush (pc := 21) (nI 31) dX2_sum_21 (by decide) ?_
  refine a_iload (pc := 23) dX2_sum_23 rfl ?_
  refine a_imul (pc := 25) dX2_sum_25 ?_
  try rw [pk_mul]
  refine a_iload_n (pc := 26) dX2_sum_26 rfl ?_
  refine a_iadd (pc := 27) dX2_sum_27 ?_
  try rw [nI_add]
  refine a_istore (pc := 28) (ls' := [_, _, _, _, _, _, _, _]) dX2_sum_28 (Nat.le_of_ble_eq_true rfl) rfl ?_
  refine a_bipush (pc := 30) (nI 31) dX2_sum_30 (by decide) ?_
  refine a_iload (pc := 32) dX2_sum_32 rfl ?_
  refine a_imul (pc := 34) dX2_sum_34 ?_
  try rw [pk_mul]
  refine a_iload (pc := 35) dX2_sum_35 rfl ?_
  refine a_iadd (pc := 37) dX2_sum_37 ?_
  try rw [nI_add]
  refine a_istore (pc := 38) (ls' := [_, _, _, _, _, _, _, _]) dX2_sum_38 (Nat.le_of_ble_eq_true rfl) rfl ?_
  refine a_bipush (pc := 40) (nI 31) dX2_sum_40 (by decide) ?_
  refine a_iload (pc := 42) dX2_sum_42 rfl ?_
  refine a_imul (pc := 44) dX2_sum_44 ?_
  try rw [pk_mul]
  refine a_iload (pc := 45) dX2_sum_45 rfl ?_
  refine a_iadd (pc := 47) dX2_sum_47 ?_
  try rw [nI_add]
  refine a_istore (pc := 48) (ls' := [_, _, _, _, _, _, _, _]) dX2_sum_48 (Nat.le_of_ble_eq_true rfl) rfl ?_
  refine a_bipush (pc := 50) (nI 31) dX2_sum_50 (by decide) ?_
  refine a_iload (pc := 52) dX2_sum_52 rfl ?_
  refine a_imul (pc := 54) dX2_sum_54 ?_
  try rw [pk_mul]
  refine a_iload (pc := 55) dX2_sum_55 rfl ?_
  refine a_iadd (pc := 57) dX2_sum_57 ?_
  try rw [nI_add]
  refine a_istore (pc := 58) (ls' := [_, _, _, _, _, _, _, _]) dX2_sum_58 (Nat.le_of_ble_eq_true rfl) rfl ?_
  refine a_iconst (pc := 60) (nI 2) dX2_sum_60 (by decide) ?_
  refine a_iload (pc := 61) dX2_sum_61 rfl ?_
  refine a_imul (pc := 63) dX2_sum_63 ?_
  try rw [pk_mul]
  refine a_iconst (pc := 64) (nI 1) dX2_sum_64 (by decide) ?_
  refine a_iadd (pc := 65) dX2_sum_65 ?_
  try rw [nI_add]
  refine ret _ _ 66 _ _ dX2_sum_66 rfl ?_
  exact ⟨rfl, rfl, rfl⟩
set_option maxHeartbeats 1000000 in
set_option maxRecDepth 100000 in
theorem c_pch0_17 {d0 kd kp rp : Nat} {g : GH} (k : Nat) (v : Int64) (lw : Option Nat) (hl : ∀ l, lw = some l → l < 3) (hP : PL 17 g []) : ACv mX4_planChange (d0 + 1) (SS kd kp rp) g [.ref 71, .ref 3, .int (nI k), .long v, .int (oth lw), .long 0, .ref 17] (fun S' g' => S' = SS kd kp rp ∧ PL 17 g' (ch0 k v lw) ∧ Fr [17, 18, 19, 20] g g') := by
  refine ACv.of lcX4_planChange rfl rfl (fun X Q ad hR ret => ?_)
  refine AW_ls (ls' := [_, _, _, _, _, _, _, _, _]) rfl ?_
  refine a_aload (pc := 0) dX4_planChange_0 rfl ?_
  refine a_iload_n (pc := 2) dX4_planChange_2 rfl ?_
  refine a_lload_n (pc := 3) dX4_planChange_3 rfl ?_
  refine a_S1i (pc := 4) dX4_planChange_4 lcX10_high lX4_9 (fit_of hR (by omega) rfl) (c_khigh (d0 := d0) v) rfl rfl (ex_i ?_)
  refine a_lload_n (pc := 7) dX4_planChange_7 rfl ?_
  refine a_S1i (pc := 8) dX4_planChange_8 lcX10_low lX4_13 (fit_of hR (by omega) rfl) (c_klow (d0 := d0) v) rfl rfl (ex_i ?_)
  refine a_V3v (pc := 11) 4 dX4_planChange_11 lcX5_planWrite lX4_16 rfl rfl rfl (fit_of hR (by omega) rfl) (c_planW_17 (d0 := d0) [] (nI k) (hi32 v) v.toInt32 hP (by simp)) rfl rfl (fun S' g' hS hp => ?_)
  obtain ⟨rfl, hP1, -, hf1⟩ := hp
  refine a_iload (pc := 14) dX4_planChange_14 rfl ?_
  refine a_iconst (pc := 16) (-1) dX4_planChange_16 (by decide) ?_
  cases lw with
  | none =>
    refine a_icmp_eq (pc := 17) 37 dX4_planChange_17 (by decide) (fun c1 => ?_) (fun c1 => ?_)
    · refine ret _ _ 37 _ dX4_planChange_37 rfl ?_
      exact ⟨rfl, hP1, hf1⟩
    · exact absurd rfl c1
  | some l =>
    have := hl l rfl
    refine a_icmp_eq (pc := 17) 37 dX4_planChange_17 (by decide) (fun c1 => ?_) (fun c1 => ?_)
    · exact absurd c1 (nI_m1 (by omega))
    · refine a_aload (pc := 20) dX4_planChange_20 rfl ?_
      refine a_iload (pc := 22) dX4_planChange_22 rfl ?_
      refine a_lload (pc := 24) dX4_planChange_24 rfl ?_
      refine a_S1i (pc := 26) dX4_planChange_26 lcX10_high lX4_9 (fit_of hR (by omega) rfl) (c_khigh (d0 := d0) 0) rfl rfl (ex_i ?_)
      refine a_lload (pc := 29) dX4_planChange_29 rfl ?_
      refine a_S1i (pc := 31) dX4_planChange_31 lcX10_low lX4_13 (fit_of hR (by omega) rfl) (c_klow (d0 := d0) 0) rfl rfl (ex_i ?_)
      rw [hi0, lo0]
      refine a_V3v (pc := 34) 4 dX4_planChange_34 lcX5_planWrite lX4_16 rfl rfl rfl (fit_of hR (by omega) rfl) (c_planW_17 (d0 := d0) _ (nI l) (nI 0) (nI 0) hP1 (by simp)) rfl rfl (fun S' g' hS hp => ?_)
      obtain ⟨rfl, hP2, -, hf2⟩ := hp
      refine ret _ _ 37 _ dX4_planChange_37 rfl ?_
      exact ⟨rfl, hP2, hf1.tr hf2⟩
set_option maxHeartbeats 1000000 in
set_option maxRecDepth 100000 in
theorem c_pch0_43 {d0 kd kp rp : Nat} {g : GH} (k : Nat) (v : Int64) (lw : Option Nat) (hl : ∀ l, lw = some l → l < 3) (hP : PL 43 g []) : ACv mX4_planChange (d0 + 1) (SS kd kp rp) g [.ref 71, .ref 29, .int (nI k), .long v, .int (oth lw), .long 0, .ref 43] (fun S' g' => S' = SS kd kp rp ∧ PL 43 g' (ch0 k v lw) ∧ Fr [43, 44, 45, 46] g g') := by
  refine ACv.of lcX4_planChange rfl rfl (fun X Q ad hR ret => ?_)
  refine AW_ls (ls' := [_, _, _, _, _, _, _, _, _]) rfl ?_
  refine a_aload (pc := 0) dX4_planChange_0 rfl ?_
  refine a_iload_n (pc := 2) dX4_planChange_2 rfl ?_
  refine a_lload_n (pc := 3) dX4_planChange_3 rfl ?_
  refine a_S1i (pc := 4) dX4_planChange_4 lcX10_high lX4_9 (fit_of hR (by omega) rfl) (c_khigh (d0 := d0) v) rfl rfl (ex_i ?_)
  refine a_lload_n (pc := 7) dX4_planChange_7 rfl ?_
  refine a_S1i (pc := 8) dX4_planChange_8 lcX10_low lX4_13 (fit_of hR (by omega) rfl) (c_klow (d0 := d0) v) rfl rfl (ex_i ?_)
  refine a_V3v (pc := 11) 4 dX4_planChange_11 lcX5_planWrite lX4_16 rfl rfl rfl (fit_of hR (by omega) rfl) (c_planW_43 (d0 := d0) [] (nI k) (hi32 v) v.toInt32 hP (by simp)) rfl rfl (fun S' g' hS hp => ?_)
  obtain ⟨rfl, hP1, -, hf1⟩ := hp
  refine a_iload (pc := 14) dX4_planChange_14 rfl ?_
  refine a_iconst (pc := 16) (-1) dX4_planChange_16 (by decide) ?_
  cases lw with
  | none =>
    refine a_icmp_eq (pc := 17) 37 dX4_planChange_17 (by decide) (fun c1 => ?_) (fun c1 => ?_)
    · refine ret _ _ 37 _ dX4_planChange_37 rfl ?_
      exact ⟨rfl, hP1, hf1⟩
    · exact absurd rfl c1
  | some l =>
    have := hl l rfl
    refine a_icmp_eq (pc := 17) 37 dX4_planChange_17 (by decide) (fun c1 => ?_) (fun c1 => ?_)
    · exact absurd c1 (nI_m1 (by omega))
    · refine a_aload (pc := 20) dX4_planChange_20 rfl ?_
      refine a_iload (pc := 22) dX4_planChange_22 rfl ?_
      refine a_lload (pc := 24) dX4_planChange_24 rfl ?_
      refine a_S1i (pc := 26) dX4_planChange_26 lcX10_high lX4_9 (fit_of hR (by omega) rfl) (c_khigh (d0 := d0) 0) rfl rfl (ex_i ?_)
      refine a_lload (pc := 29) dX4_planChange_29 rfl ?_
      refine a_S1i (pc := 31) dX4_planChange_31 lcX10_low lX4_13 (fit_of hR (by omega) rfl) (c_klow (d0 := d0) 0) rfl rfl (ex_i ?_)
      rw [hi0, lo0]
      refine a_V3v (pc := 34) 4 dX4_planChange_34 lcX5_planWrite lX4_16 rfl rfl rfl (fit_of hR (by omega) rfl) (c_planW_43 (d0 := d0) _ (nI l) (nI 0) (nI 0) hP1 (by simp)) rfl rfl (fun S' g' hS hp => ?_)
      obtain ⟨rfl, hP2, -, hf2⟩ := hp
      refine ret _ _ 37 _ dX4_planChange_37 rfl ?_
      exact ⟨rfl, hP2, hf1.tr hf2⟩
set_option maxRecDepth 100000 in
theorem c_unmark_17 {d0 kd kp rp : Nat} {g : GH} (L : List En) (m : Nat) (h : PL 17 g L) (hl : L.length < 10) (hm : m < 16) (h4 : gF g 17 4 = nI m) : ACv mX2_planUnmark (d0 + 1) (SS kd kp rp) g [.ref 17] (fun S' g' => S' = SS kd kp rp ∧ PL 17 g' (L ++ [(nI 3, nI 0, nI 0)] ++ fnc (spB 1 m) 7) ∧ Fr [17, 18, 19, 20] g g') := by
  refine ACv.of lcX2_planUnmark rfl rfl (fun X Q ad hR ret => ?_)
  refine AW_ls (ls' := [_]) rfl ?_
  refine a_aload_n (pc := 0) dX2_planUnmark_0 rfl ?_
  refine a_iconst (pc := 1) (nI 3) dX2_planUnmark_1 (by decide) ?_
  refine a_iconst (pc := 2) (nI 0) dX2_planUnmark_2 (by decide) ?_
  refine a_iconst (pc := 3) (nI 0) dX2_planUnmark_3 (by decide) ?_
  refine a_V3v (pc := 4) 4 dX2_planUnmark_4 lcX5_planWrite lX2_22 rfl rfl rfl (fit_of hR (by omega) rfl) (c_planW_17 (d0 := d0) L (nI 3) (nI 0) (nI 0) h (by omega)) rfl rfl (fun S' g' hS hp => ?_)
  obtain ⟨rfl, hP1, e4, hf1⟩ := hp
  refine a_aload_n (pc := 7) dX2_planUnmark_7 rfl ?_
  refine a_iconst (pc := 8) (nI 3) dX2_planUnmark_8 (by decide) ?_
  refine a_V1v (pc := 9) 4 dX2_planUnmark_9 lcX5_planFence lX2_28 rfl rfl rfl (fit_of hR (by omega) rfl) (c_planF_17 (d0 := d0) _ 1 m 3 hP1 (by simp; omega) hm (by decide) (e4.trans h4)) rfl rfl (fun S' g' hS hp => ?_)
  obtain ⟨rfl, hP2, -, hf2⟩ := hp
  refine ret _ _ 12 _ dX2_planUnmark_12 rfl ?_
  exact ⟨rfl, hP2, hf1.tr hf2⟩
set_option maxRecDepth 100000 in
theorem c_unmark_43 {d0 kd kp rp : Nat} {g : GH} (L : List En) (m : Nat) (h : PL 43 g L) (hl : L.length < 10) (hm : m < 16) (h4 : gF g 43 4 = nI m) : ACv mX2_planUnmark (d0 + 1) (SS kd kp rp) g [.ref 43] (fun S' g' => S' = SS kd kp rp ∧ PL 43 g' (L ++ [(nI 3, nI 0, nI 0)] ++ fnc (spB 1 m) 7) ∧ Fr [43, 44, 45, 46] g g') := by
  refine ACv.of lcX2_planUnmark rfl rfl (fun X Q ad hR ret => ?_)
  refine AW_ls (ls' := [_]) rfl ?_
  refine a_aload_n (pc := 0) dX2_planUnmark_0 rfl ?_
  refine a_iconst (pc := 1) (nI 3) dX2_planUnmark_1 (by decide) ?_
  refine a_iconst (pc := 2) (nI 0) dX2_planUnmark_2 (by decide) ?_
  refine a_iconst (pc := 3) (nI 0) dX2_planUnmark_3 (by decide) ?_
  refine a_V3v (pc := 4) 4 dX2_planUnmark_4 lcX5_planWrite lX2_22 rfl rfl rfl (fit_of hR (by omega) rfl) (c_planW_43 (d0 := d0) L (nI 3) (nI 0) (nI 0) h (by omega)) rfl rfl (fun S' g' hS hp => ?_)
  obtain ⟨rfl, hP1, e4, hf1⟩ := hp
  refine a_aload_n (pc := 7) dX2_planUnmark_7 rfl ?_
  refine a_iconst (pc := 8) (nI 3) dX2_planUnmark_8 (by decide) ?_
  refine a_V1v (pc := 9) 4 dX2_planUnmark_9 lcX5_planFence lX2_28 rfl rfl rfl (fit_of hR (by omega) rfl) (c_planF_43 (d0 := d0) _ 1 m 3 hP1 (by simp; omega) hm (by decide) (e4.trans h4)) rfl rfl (fun S' g' hS hp => ?_)
  obtain ⟨rfl, hP2, -, hf2⟩ := hp
  refine ret _ _ 12 _ dX2_planUnmark_12 rfl ?_
  exact ⟨rfl, hP2, hf1.tr hf2⟩
set_option maxRecDepth 100000 in
theorem c_unmark_47 {d0 kd kp rp : Nat} {g : GH} (L : List En) (m : Nat) (h : PL 47 g L) (hl : L.length < 10) (hm : m < 16) (h4 : gF g 47 4 = nI m) : ACv mX2_planUnmark (d0 + 1) (SS kd kp rp) g [.ref 47] (fun S' g' => S' = SS kd kp rp ∧ PL 47 g' (L ++ [(nI 3, nI 0, nI 0)] ++ fnc (spB 1 m) 7) ∧ Fr [47, 48, 49, 50] g g') := by
  refine ACv.of lcX2_planUnmark rfl rfl (fun X Q ad hR ret => ?_)
  refine AW_ls (ls' := [_]) rfl ?_
  refine a_aload_n (pc := 0) dX2_planUnmark_0 rfl ?_
  refine a_iconst (pc := 1) (nI 3) dX2_planUnmark_1 (by decide) ?_
  refine a_iconst (pc := 2) (nI 0) dX2_planUnmark_2 (by decide) ?_
  refine a_iconst (pc := 3) (nI 0) dX2_planUnmark_3 (by decide) ?_
  refine a_V3v (pc := 4) 4 dX2_planUnmark_4 lcX5_planWrite lX2_22 rfl rfl rfl (fit_of hR (by omega) rfl) (c_planW_47 (d0 := d0) L (nI 3) (nI 0) (nI 0) h (by omega)) rfl rfl (fun S' g' hS hp => ?_)
  obtain ⟨rfl, hP1, e4, hf1⟩ := hp
  refine a_aload_n (pc := 7) dX2_planUnmark_7 rfl ?_
  refine a_iconst (pc := 8) (nI 3) dX2_planUnmark_8 (by decide) ?_
  refine a_V1v (pc := 9) 4 dX2_planUnmark_9 lcX5_planFence lX2_28 rfl rfl rfl (fit_of hR (by omega) rfl) (c_planF_47 (d0 := d0) _ 1 m 3 hP1 (by simp; omega) hm (by decide) (e4.trans h4)) rfl rfl (fun S' g' hS hp => ?_)
  obtain ⟨rfl, hP2, -, hf2⟩ := hp
  refine ret _ _ 12 _ dX2_planUnmark_12 rfl ?_
  exact ⟨rfl, hP2, hf1.tr hf2⟩
set_option maxHeartbeats 1000000 in
set_option maxRecDepth 100000 in
theorem c_pch1_17 {d0 kd kp rp : Nat} {g : GH} (m k : Nat) (v : Int64) (lw : Option Nat) (hl : ∀ l, lw = some l → l < 3) (hm : m < 16) (hP : PL 17 g []) (h4 : gF g 17 4 = nI m) : ACv mX2_planChange (d0 + 2) (SS kd kp rp) g [.ref 72, .ref 3, .int (nI k), .long v, .int (oth lw), .long 0, .ref 17] (fun S' g' => S' = SS kd kp rp ∧ PL 17 g' (ch1 (spB 1 m) k v lw) ∧ Fr [17, 18, 19, 20] g g') := by
  have f4 := fnc_len (spB 1 m) 4
  have f5 := fnc_len (spB 1 m) 5
  have f6 := fnc_len (spB 1 m) 6
  refine ACv.of lcX2_planChange rfl rfl (fun X Q ad hR ret => ?_)
  refine AW_ls (ls' := [_, _, _, _, _, _, _, _, _, _, _]) rfl ?_
  refine a_iload (pc := 0) dX2_planChange_0 rfl ?_
  refine a_iconst (pc := 2) (-1) dX2_planChange_2 (by decide) ?_
  refine AW_val3 11 (mny lw) (fun hJ => ?_) ?_
  · cases lw with
    | none =>
      refine a_icmp_ne (pc := 3) 10 dX2_planChange_3 (by decide) (fun c1 => ?_) (fun c1 => ?_)
      · exact absurd rfl c1
      · refine a_iconst (pc := 6) (nI 1) dX2_planChange_6 (by decide) ?_
        refine a_goto (pc := 7) 11 dX2_planChange_7 (by decide) ?_
        exact hJ
    | some l =>
      have := hl l rfl
      refine a_icmp_ne (pc := 3) 10 dX2_planChange_3 (by decide) (fun c1 => ?_) (fun c1 => ?_)
      · refine a_iconst (pc := 10) (nI 2) dX2_planChange_10 (by decide) ?_
        exact hJ
      · exact absurd c1 (nI_m1 (by omega))
  refine a_istore (pc := 11) (ls' := [_, _, _, _, _, _, _, _, _, _, _]) dX2_planChange_11 (Nat.le_of_ble_eq_true rfl) rfl ?_
  refine a_iload (pc := 13) dX2_planChange_13 rfl ?_
  refine a_iload_n (pc := 15) dX2_planChange_15 rfl ?_
  refine a_lload_n (pc := 16) dX2_planChange_16 rfl ?_
  refine a_S1i (pc := 17) dX2_planChange_17 lcX10_high lX2_11 (fit_of hR (by omega) rfl) (c_khigh (d0 := d0) v) rfl rfl (ex_i ?_)
  refine a_lload_n (pc := 20) dX2_planChange_20 rfl ?_
  refine a_S1i (pc := 21) dX2_planChange_21 lcX10_low lX2_15 (fit_of hR (by omega) rfl) (c_klow (d0 := d0) v) rfl rfl (ex_i ?_)
  refine a_iload (pc := 24) dX2_planChange_24 rfl ?_
  refine a_lload (pc := 26) dX2_planChange_26 rfl ?_
  refine a_S1i (pc := 28) dX2_planChange_28 lcX10_high lX2_11 (fit_of hR (by omega) rfl) (c_khigh (d0 := d0) 0) rfl rfl (ex_i ?_)
  refine a_lload (pc := 31) dX2_planChange_31 rfl ?_
  refine a_S1i (pc := 33) dX2_planChange_33 lcX10_low lX2_15 (fit_of hR (by omega) rfl) (c_klow (d0 := d0) 0) rfl rfl (ex_i ?_)
  rw [hi0, lo0]
  refine a_S7i (pc := 36) dX2_planChange_36 lcX2_sum lX2_18 (fit_of hR (by omega) rfl) (c_ksum (d0 := d0) (mny lw) (nI k) (hi32 v) v.toInt32 (oth lw) (nI 0) (nI 0)) rfl rfl (ex_i ?_)
  refine a_istore (pc := 39) (ls' := [_, _, _, _, _, _, _, _, _, _, _]) dX2_planChange_39 (Nat.le_of_ble_eq_true rfl) rfl ?_
  refine a_aload (pc := 41) dX2_planChange_41 rfl ?_
  refine a_iconst (pc := 43) (nI 4) dX2_planChange_43 (by decide) ?_
  refine a_iload_n (pc := 44) dX2_planChange_44 rfl ?_
  refine a_lload_n (pc := 45) dX2_planChange_45 rfl ?_
  refine a_S1i (pc := 46) dX2_planChange_46 lcX10_high lX2_11 (fit_of hR (by omega) rfl) (c_khigh (d0 := d0) v) rfl rfl (ex_i ?_)
  refine a_V3v (pc := 49) 4 dX2_planChange_49 lcX5_planWrite lX2_22 rfl rfl rfl (fit_of hR (by omega) rfl) (c_planW_17 (d0 := d0) [] (nI 4) (nI k) (hi32 v) hP (by simp)) rfl rfl (fun S' g' hS hp => ?_)
  obtain ⟨rfl, hP1, q1, hf1⟩ := hp
  refine a_aload (pc := 52) dX2_planChange_52 rfl ?_
  refine a_iconst (pc := 54) (nI 5) dX2_planChange_54 (by decide) ?_
  refine a_lload_n (pc := 55) dX2_planChange_55 rfl ?_
  refine a_S1i (pc := 56) dX2_planChange_56 lcX10_low lX2_15 (fit_of hR (by omega) rfl) (c_klow (d0 := d0) v) rfl rfl (ex_i ?_)
  refine a_iload (pc := 59) dX2_planChange_59 rfl ?_
  refine a_V3v (pc := 61) 4 dX2_planChange_61 lcX5_planWrite lX2_22 rfl rfl rfl (fit_of hR (by omega) rfl) (c_planW_17 (d0 := d0) _ (nI 5) v.toInt32 (oth lw) hP1 (by simp)) rfl rfl (fun S' g' hS hp => ?_)
  obtain ⟨rfl, hP2, q2, hf2⟩ := hp
  refine a_aload (pc := 64) dX2_planChange_64 rfl ?_
  refine a_bipush (pc := 66) (nI 6) dX2_planChange_66 (by decide) ?_
  refine a_lload (pc := 68) dX2_planChange_68 rfl ?_
  refine a_S1i (pc := 70) dX2_planChange_70 lcX10_high lX2_11 (fit_of hR (by omega) rfl) (c_khigh (d0 := d0) 0) rfl rfl (ex_i ?_)
  refine a_lload (pc := 73) dX2_planChange_73 rfl ?_
  refine a_S1i (pc := 75) dX2_planChange_75 lcX10_low lX2_15 (fit_of hR (by omega) rfl) (c_klow (d0 := d0) 0) rfl rfl (ex_i ?_)
  rw [hi0, lo0]
  refine a_V3v (pc := 78) 4 dX2_planChange_78 lcX5_planWrite lX2_22 rfl rfl rfl (fit_of hR (by omega) rfl) (c_planW_17 (d0 := d0) _ (nI 6) (nI 0) (nI 0) hP2 (by simp)) rfl rfl (fun S' g' hS hp => ?_)
  obtain ⟨rfl, hP3, q3, hf3⟩ := hp
  refine a_aload (pc := 81) dX2_planChange_81 rfl ?_
  refine a_iconst (pc := 83) (nI 0) dX2_planChange_83 (by decide) ?_
  refine a_V1v (pc := 84) 4 dX2_planChange_84 lcX5_planFence lX2_28 rfl rfl rfl (fit_of hR (by omega) rfl) (c_planF_17 (d0 := d0) _ 1 m 0 hP3 (by simp) hm (by decide) (q3.trans (q2.trans (q1.trans h4)))) rfl rfl (fun S' g' hS hp => ?_)
  obtain ⟨rfl, hP4, q4, hf4⟩ := hp
  change PL 17 _ (_ ++ fnc (spB 1 m) 4) at hP4
  refine a_aload (pc := 87) dX2_planChange_87 rfl ?_
  refine a_iconst (pc := 89) (nI 3) dX2_planChange_89 (by decide) ?_
  refine a_iload (pc := 90) dX2_planChange_90 rfl ?_
  refine a_iload (pc := 92) dX2_planChange_92 rfl ?_
  refine a_V3v (pc := 94) 4 dX2_planChange_94 lcX5_planWrite lX2_22 rfl rfl rfl (fit_of hR (by omega) rfl) (c_planW_17 (d0 := d0) _ (nI 3) (mny lw) (sum7 (mny lw) (nI k) (hi32 v) v.toInt32 (oth lw) (nI 0) (nI 0)) hP4 (by simp; omega)) rfl rfl (fun S' g' hS hp => ?_)
  obtain ⟨rfl, hP5, q5, hf5⟩ := hp
  refine a_aload (pc := 97) dX2_planChange_97 rfl ?_
  refine a_iconst (pc := 99) (nI 1) dX2_planChange_99 (by decide) ?_
  refine a_V1v (pc := 100) 4 dX2_planChange_100 lcX5_planFence lX2_28 rfl rfl rfl (fit_of hR (by omega) rfl) (c_planF_17 (d0 := d0) _ 1 m 1 hP5 (by simp; omega) hm (by decide) (q5.trans (q4.trans (q3.trans (q2.trans (q1.trans h4)))))) rfl rfl (fun S' g' hS hp => ?_)
  obtain ⟨rfl, hP6, q6, hf6⟩ := hp
  change PL 17 _ (_ ++ fnc (spB 1 m) 5) at hP6
  refine a_aload (pc := 103) dX2_planChange_103 rfl ?_
  refine a_iload_n (pc := 105) dX2_planChange_105 rfl ?_
  refine a_lload_n (pc := 106) dX2_planChange_106 rfl ?_
  refine a_S1i (pc := 107) dX2_planChange_107 lcX10_high lX2_11 (fit_of hR (by omega) rfl) (c_khigh (d0 := d0) v) rfl rfl (ex_i ?_)
  refine a_lload_n (pc := 110) dX2_planChange_110 rfl ?_
  refine a_S1i (pc := 111) dX2_planChange_111 lcX10_low lX2_15 (fit_of hR (by omega) rfl) (c_klow (d0 := d0) v) rfl rfl (ex_i ?_)
  refine a_V3v (pc := 114) 4 dX2_planChange_114 lcX5_planWrite lX2_22 rfl rfl rfl (fit_of hR (by omega) rfl) (c_planW_17 (d0 := d0) _ (nI k) (hi32 v) v.toInt32 hP6 (by simp; omega)) rfl rfl (fun S' g' hS hp => ?_)
  obtain ⟨rfl, hP7, q7, hf7⟩ := hp
  have h47 := q7.trans (q6.trans (q5.trans (q4.trans (q3.trans (q2.trans (q1.trans h4))))))
  have hfa := hf1.tr (hf2.tr (hf3.tr (hf4.tr (hf5.tr (hf6.tr hf7)))))
  have tail : ∀ (g1 : GH) (L : List En), PL 17 g1 L → L.length ≤ 8 → L ++ fnc (spB 1 m) 6 ++ [(nI 3, nI 0, nI 0)] ++ fnc (spB 1 m) 7 = ch1 (spB 1 m) k v lw → gF g1 17 4 = nI m → Fr [17, 18, 19, 20] g g1 → AW mX2_planChange X Q ad 0 0 (conc (SS kd kp rp) g1) 140 [some (.ref 72), some (.ref 3), some (.int (nI k)), some (.long v), none, some (.int (oth lw)), some (.long 0), none, some (.ref 17), some (.int (mny lw)), some (.int (sum7 (mny lw) (nI k) (hi32 v) v.toInt32 (oth lw) (nI 0) (nI 0)))] [] := by
    intro g1 L hL hL8 hfin e4 hfr
    refine a_aload (pc := 140) dX2_planChange_140 rfl ?_
    refine a_iconst (pc := 142) (nI 2) dX2_planChange_142 (by decide) ?_
    refine a_V1v (pc := 143) 4 dX2_planChange_143 lcX5_planFence lX2_28 rfl rfl rfl (fit_of hR (by omega) rfl) (c_planF_17 (d0 := d0) L 1 m 2 hL (by omega) hm (by decide) e4) rfl rfl (fun S' g' hS hp => ?_)
    obtain ⟨rfl, hP8, q8, hf8⟩ := hp
    change PL 17 _ (_ ++ fnc (spB 1 m) 6) at hP8
    refine a_aload (pc := 146) dX2_planChange_146 rfl ?_
    refine a_S1v (pc := 148) dX2_planChange_148 lcX2_planUnmark lX2_32 (fit_of hR (by omega) rfl) (c_unmark_17 (d0 := d0) _ m hP8 (by simp; omega) hm (q8.trans e4)) rfl rfl (fun S' g' hS hp => ?_)
    obtain ⟨rfl, hP9, hf9⟩ := hp
    refine ret _ _ 151 _ dX2_planChange_151 rfl ?_
    rw [hfin] at hP9
    exact ⟨rfl, hP9, hfr.tr (hf8.tr hf9)⟩
  refine a_iload (pc := 117) dX2_planChange_117 rfl ?_
  refine a_iconst (pc := 119) (-1) dX2_planChange_119 (by decide) ?_
  cases lw with
  | none =>
    refine a_icmp_eq (pc := 120) 140 dX2_planChange_120 (by decide) (fun c1 => ?_) (fun c1 => ?_)
    · refine tail _ _ hP7 (by simp; omega) ?_ h47 hfa
      simp [ch1, List.append_assoc]
    · exact absurd rfl c1
  | some l =>
    have := hl l rfl
    refine a_icmp_eq (pc := 120) 140 dX2_planChange_120 (by decide) (fun c1 => ?_) (fun c1 => ?_)
    · exact absurd c1 (nI_m1 (by omega))
    · refine a_aload (pc := 123) dX2_planChange_123 rfl ?_
      refine a_iload (pc := 125) dX2_planChange_125 rfl ?_
      refine a_lload (pc := 127) dX2_planChange_127 rfl ?_
      refine a_S1i (pc := 129) dX2_planChange_129 lcX10_high lX2_11 (fit_of hR (by omega) rfl) (c_khigh (d0 := d0) 0) rfl rfl (ex_i ?_)
      refine a_lload (pc := 132) dX2_planChange_132 rfl ?_
      refine a_S1i (pc := 134) dX2_planChange_134 lcX10_low lX2_15 (fit_of hR (by omega) rfl) (c_klow (d0 := d0) 0) rfl rfl (ex_i ?_)
      rw [hi0, lo0]
      refine a_V3v (pc := 137) 4 dX2_planChange_137 lcX5_planWrite lX2_22 rfl rfl rfl (fit_of hR (by omega) rfl) (c_planW_17 (d0 := d0) _ (nI l) (nI 0) (nI 0) hP7 (by simp; omega)) rfl rfl (fun S' g' hS hp => ?_)
      obtain ⟨rfl, hP8, q8, hf8⟩ := hp
      refine tail _ _ hP8 (by simp; omega) ?_ (q8.trans h47) (hfa.tr hf8)
      simp [ch1, List.append_assoc]
set_option maxHeartbeats 1000000 in
set_option maxRecDepth 100000 in
theorem c_pch1_43 {d0 kd kp rp : Nat} {g : GH} (m k : Nat) (v : Int64) (lw : Option Nat) (hl : ∀ l, lw = some l → l < 3) (hm : m < 16) (hP : PL 43 g []) (h4 : gF g 43 4 = nI m) : ACv mX2_planChange (d0 + 2) (SS kd kp rp) g [.ref 72, .ref 29, .int (nI k), .long v, .int (oth lw), .long 0, .ref 43] (fun S' g' => S' = SS kd kp rp ∧ PL 43 g' (ch1 (spB 1 m) k v lw) ∧ Fr [43, 44, 45, 46] g g') := by
  have f4 := fnc_len (spB 1 m) 4
  have f5 := fnc_len (spB 1 m) 5
  have f6 := fnc_len (spB 1 m) 6
  refine ACv.of lcX2_planChange rfl rfl (fun X Q ad hR ret => ?_)
  refine AW_ls (ls' := [_, _, _, _, _, _, _, _, _, _, _]) rfl ?_
  refine a_iload (pc := 0) dX2_planChange_0 rfl ?_
  refine a_iconst (pc := 2) (-1) dX2_planChange_2 (by decide) ?_
  refine AW_val3 11 (mny lw) (fun hJ => ?_) ?_
  · cases lw with
    | none =>
      refine a_icmp_ne (pc := 3) 10 dX2_planChange_3 (by decide) (fun c1 => ?_) (fun c1 => ?_)
      · exact absurd rfl c1
      · refine a_iconst (pc := 6) (nI 1) dX2_planChange_6 (by decide) ?_
        refine a_goto (pc := 7) 11 dX2_planChange_7 (by decide) ?_
        exact hJ
    | some l =>
      have := hl l rfl
      refine a_icmp_ne (pc := 3) 10 dX2_planChange_3 (by decide) (fun c1 => ?_) (fun c1 => ?_)
      · refine a_iconst (pc := 10) (nI 2) dX2_planChange_10 (by decide) ?_
        exact hJ
      · exact absurd c1 (nI_m1 (by omega))
  refine a_istore (pc := 11) (ls' := [_, _, _, _, _, _, _, _, _, _, _]) dX2_planChange_11 (Nat.le_of_ble_eq_true rfl) rfl ?_
  refine a_iload (pc := 13) dX2_planChange_13 rfl ?_
  refine a_iload_n (pc := 15) dX2_planChange_15 rfl ?_
  refine a_lload_n (pc := 16) dX2_planChange_16 rfl ?_
  refine a_S1i (pc := 17) dX2_planChange_17 lcX10_high lX2_11 (fit_of hR (by omega) rfl) (c_khigh (d0 := d0) v) rfl rfl (ex_i ?_)
  refine a_lload_n (pc := 20) dX2_planChange_20 rfl ?_
  refine a_S1i (pc := 21) dX2_planChange_21 lcX10_low lX2_15 (fit_of hR (by omega) rfl) (c_klow (d0 := d0) v) rfl rfl (ex_i ?_)
  refine a_iload (pc := 24) dX2_planChange_24 rfl ?_
  refine a_lload (pc := 26) dX2_planChange_26 rfl ?_
  refine a_S1i (pc := 28) dX2_planChange_28 lcX10_high lX2_11 (fit_of hR (by omega) rfl) (c_khigh (d0 := d0) 0) rfl rfl (ex_i ?_)
  refine a_lload (pc := 31) dX2_planChange_31 rfl ?_
  refine a_S1i (pc := 33) dX2_planChange_33 lcX10_low lX2_15 (fit_of hR (by omega) rfl) (c_klow (d0 := d0) 0) rfl rfl (ex_i ?_)
  rw [hi0, lo0]
  refine a_S7i (pc := 36) dX2_planChange_36 lcX2_sum lX2_18 (fit_of hR (by omega) rfl) (c_ksum (d0 := d0) (mny lw) (nI k) (hi32 v) v.toInt32 (oth lw) (nI 0) (nI 0)) rfl rfl (ex_i ?_)
  refine a_istore (pc := 39) (ls' := [_, _, _, _, _, _, _, _, _, _, _]) dX2_planChange_39 (Nat.le_of_ble_eq_true rfl) rfl ?_
  refine a_aload (pc := 41) dX2_planChange_41 rfl ?_
  refine a_iconst (pc := 43) (nI 4) dX2_planChange_43 (by decide) ?_
  refine a_iload_n (pc := 44) dX2_planChange_44 rfl ?_
  refine a_lload_n (pc := 45) dX2_planChange_45 rfl ?_
  refine a_S1i (pc := 46) dX2_planChange_46 lcX10_high lX2_11 (fit_of hR (by omega) rfl) (c_khigh (d0 := d0) v) rfl rfl (ex_i ?_)
  refine a_V3v (pc := 49) 4 dX2_planChange_49 lcX5_planWrite lX2_22 rfl rfl rfl (fit_of hR (by omega) rfl) (c_planW_43 (d0 := d0) [] (nI 4) (nI k) (hi32 v) hP (by simp)) rfl rfl (fun S' g' hS hp => ?_)
  obtain ⟨rfl, hP1, q1, hf1⟩ := hp
  refine a_aload (pc := 52) dX2_planChange_52 rfl ?_
  refine a_iconst (pc := 54) (nI 5) dX2_planChange_54 (by decide) ?_
  refine a_lload_n (pc := 55) dX2_planChange_55 rfl ?_
  refine a_S1i (pc := 56) dX2_planChange_56 lcX10_low lX2_15 (fit_of hR (by omega) rfl) (c_klow (d0 := d0) v) rfl rfl (ex_i ?_)
  refine a_iload (pc := 59) dX2_planChange_59 rfl ?_
  refine a_V3v (pc := 61) 4 dX2_planChange_61 lcX5_planWrite lX2_22 rfl rfl rfl (fit_of hR (by omega) rfl) (c_planW_43 (d0 := d0) _ (nI 5) v.toInt32 (oth lw) hP1 (by simp)) rfl rfl (fun S' g' hS hp => ?_)
  obtain ⟨rfl, hP2, q2, hf2⟩ := hp
  refine a_aload (pc := 64) dX2_planChange_64 rfl ?_
  refine a_bipush (pc := 66) (nI 6) dX2_planChange_66 (by decide) ?_
  refine a_lload (pc := 68) dX2_planChange_68 rfl ?_
  refine a_S1i (pc := 70) dX2_planChange_70 lcX10_high lX2_11 (fit_of hR (by omega) rfl) (c_khigh (d0 := d0) 0) rfl rfl (ex_i ?_)
  refine a_lload (pc := 73) dX2_planChange_73 rfl ?_
  refine a_S1i (pc := 75) dX2_planChange_75 lcX10_low lX2_15 (fit_of hR (by omega) rfl) (c_klow (d0 := d0) 0) rfl rfl (ex_i ?_)
  rw [hi0, lo0]
  refine a_V3v (pc := 78) 4 dX2_planChange_78 lcX5_planWrite lX2_22 rfl rfl rfl (fit_of hR (by omega) rfl) (c_planW_43 (d0 := d0) _ (nI 6) (nI 0) (nI 0) hP2 (by simp)) rfl rfl (fun S' g' hS hp => ?_)
  obtain ⟨rfl, hP3, q3, hf3⟩ := hp
  refine a_aload (pc := 81) dX2_planChange_81 rfl ?_
  refine a_iconst (pc := 83) (nI 0) dX2_planChange_83 (by decide) ?_
  refine a_V1v (pc := 84) 4 dX2_planChange_84 lcX5_planFence lX2_28 rfl rfl rfl (fit_of hR (by omega) rfl) (c_planF_43 (d0 := d0) _ 1 m 0 hP3 (by simp) hm (by decide) (q3.trans (q2.trans (q1.trans h4)))) rfl rfl (fun S' g' hS hp => ?_)
  obtain ⟨rfl, hP4, q4, hf4⟩ := hp
  change PL 43 _ (_ ++ fnc (spB 1 m) 4) at hP4
  refine a_aload (pc := 87) dX2_planChange_87 rfl ?_
  refine a_iconst (pc := 89) (nI 3) dX2_planChange_89 (by decide) ?_
  refine a_iload (pc := 90) dX2_planChange_90 rfl ?_
  refine a_iload (pc := 92) dX2_planChange_92 rfl ?_
  refine a_V3v (pc := 94) 4 dX2_planChange_94 lcX5_planWrite lX2_22 rfl rfl rfl (fit_of hR (by omega) rfl) (c_planW_43 (d0 := d0) _ (nI 3) (mny lw) (sum7 (mny lw) (nI k) (hi32 v) v.toInt32 (oth lw) (nI 0) (nI 0)) hP4 (by simp; omega)) rfl rfl (fun S' g' hS hp => ?_)
  obtain ⟨rfl, hP5, q5, hf5⟩ := hp
  refine a_aload (pc := 97) dX2_planChange_97 rfl ?_
  refine a_iconst (pc := 99) (nI 1) dX2_planChange_99 (by decide) ?_
  refine a_V1v (pc := 100) 4 dX2_planChange_100 lcX5_planFence lX2_28 rfl rfl rfl (fit_of hR (by omega) rfl) (c_planF_43 (d0 := d0) _ 1 m 1 hP5 (by simp; omega) hm (by decide) (q5.trans (q4.trans (q3.trans (q2.trans (q1.trans h4)))))) rfl rfl (fun S' g' hS hp => ?_)
  obtain ⟨rfl, hP6, q6, hf6⟩ := hp
  change PL 43 _ (_ ++ fnc (spB 1 m) 5) at hP6
  refine a_aload (pc := 103) dX2_planChange_103 rfl ?_
  refine a_iload_n (pc := 105) dX2_planChange_105 rfl ?_
  refine a_lload_n (pc := 106) dX2_planChange_106 rfl ?_
  refine a_S1i (pc := 107) dX2_planChange_107 lcX10_high lX2_11 (fit_of hR (by omega) rfl) (c_khigh (d0 := d0) v) rfl rfl (ex_i ?_)
  refine a_lload_n (pc := 110) dX2_planChange_110 rfl ?_
  refine a_S1i (pc := 111) dX2_planChange_111 lcX10_low lX2_15 (fit_of hR (by omega) rfl) (c_klow (d0 := d0) v) rfl rfl (ex_i ?_)
  refine a_V3v (pc := 114) 4 dX2_planChange_114 lcX5_planWrite lX2_22 rfl rfl rfl (fit_of hR (by omega) rfl) (c_planW_43 (d0 := d0) _ (nI k) (hi32 v) v.toInt32 hP6 (by simp; omega)) rfl rfl (fun S' g' hS hp => ?_)
  obtain ⟨rfl, hP7, q7, hf7⟩ := hp
  have h47 := q7.trans (q6.trans (q5.trans (q4.trans (q3.trans (q2.trans (q1.trans h4))))))
  have hfa := hf1.tr (hf2.tr (hf3.tr (hf4.tr (hf5.tr (hf6.tr hf7)))))
  have tail : ∀ (g1 : GH) (L : List En), PL 43 g1 L → L.length ≤ 8 → L ++ fnc (spB 1 m) 6 ++ [(nI 3, nI 0, nI 0)] ++ fnc (spB 1 m) 7 = ch1 (spB 1 m) k v lw → gF g1 43 4 = nI m → Fr [43, 44, 45, 46] g g1 → AW mX2_planChange X Q ad 0 0 (conc (SS kd kp rp) g1) 140 [some (.ref 72), some (.ref 29), some (.int (nI k)), some (.long v), none, some (.int (oth lw)), some (.long 0), none, some (.ref 43), some (.int (mny lw)), some (.int (sum7 (mny lw) (nI k) (hi32 v) v.toInt32 (oth lw) (nI 0) (nI 0)))] [] := by
    intro g1 L hL hL8 hfin e4 hfr
    refine a_aload (pc := 140) dX2_planChange_140 rfl ?_
    refine a_iconst (pc := 142) (nI 2) dX2_planChange_142 (by decide) ?_
    refine a_V1v (pc := 143) 4 dX2_planChange_143 lcX5_planFence lX2_28 rfl rfl rfl (fit_of hR (by omega) rfl) (c_planF_43 (d0 := d0) L 1 m 2 hL (by omega) hm (by decide) e4) rfl rfl (fun S' g' hS hp => ?_)
    obtain ⟨rfl, hP8, q8, hf8⟩ := hp
    change PL 43 _ (_ ++ fnc (spB 1 m) 6) at hP8
    refine a_aload (pc := 146) dX2_planChange_146 rfl ?_
    refine a_S1v (pc := 148) dX2_planChange_148 lcX2_planUnmark lX2_32 (fit_of hR (by omega) rfl) (c_unmark_43 (d0 := d0) _ m hP8 (by simp; omega) hm (q8.trans e4)) rfl rfl (fun S' g' hS hp => ?_)
    obtain ⟨rfl, hP9, hf9⟩ := hp
    refine ret _ _ 151 _ dX2_planChange_151 rfl ?_
    rw [hfin] at hP9
    exact ⟨rfl, hP9, hfr.tr (hf8.tr hf9)⟩
  refine a_iload (pc := 117) dX2_planChange_117 rfl ?_
  refine a_iconst (pc := 119) (-1) dX2_planChange_119 (by decide) ?_
  cases lw with
  | none =>
    refine a_icmp_eq (pc := 120) 140 dX2_planChange_120 (by decide) (fun c1 => ?_) (fun c1 => ?_)
    · refine tail _ _ hP7 (by simp; omega) ?_ h47 hfa
      simp [ch1, List.append_assoc]
    · exact absurd rfl c1
  | some l =>
    have := hl l rfl
    refine a_icmp_eq (pc := 120) 140 dX2_planChange_120 (by decide) (fun c1 => ?_) (fun c1 => ?_)
    · exact absurd c1 (nI_m1 (by omega))
    · refine a_aload (pc := 123) dX2_planChange_123 rfl ?_
      refine a_iload (pc := 125) dX2_planChange_125 rfl ?_
      refine a_lload (pc := 127) dX2_planChange_127 rfl ?_
      refine a_S1i (pc := 129) dX2_planChange_129 lcX10_high lX2_11 (fit_of hR (by omega) rfl) (c_khigh (d0 := d0) 0) rfl rfl (ex_i ?_)
      refine a_lload (pc := 132) dX2_planChange_132 rfl ?_
      refine a_S1i (pc := 134) dX2_planChange_134 lcX10_low lX2_15 (fit_of hR (by omega) rfl) (c_klow (d0 := d0) 0) rfl rfl (ex_i ?_)
      rw [hi0, lo0]
      refine a_V3v (pc := 137) 4 dX2_planChange_137 lcX5_planWrite lX2_22 rfl rfl rfl (fit_of hR (by omega) rfl) (c_planW_43 (d0 := d0) _ (nI l) (nI 0) (nI 0) hP7 (by simp; omega)) rfl rfl (fun S' g' hS hp => ?_)
      obtain ⟨rfl, hP8, q8, hf8⟩ := hp
      refine tail _ _ hP8 (by simp; omega) ?_ (q8.trans h47) (hfa.tr hf8)
      simp [ch1, List.append_assoc]
