def rootF (s : Nat) (n m : Int32) : Int32 := if 0 < n ∧ (n &&& nI 1 = nI 1 ↔ s = 3) ∧ m = nI 31 * n + nI 7 then n else nI 0
def verA (P S O T : Nat → Int32) (d n : Nat) : Int32 := if rootF 3 (rdA P S O T d 3 0 n) (rdA P S O T d 3 1 n) ≤ rootF 7 (rdA P S O T d 7 0 n) (rdA P S O T d 7 1 n) then rootF 7 (rdA P S O T d 7 0 n) (rdA P S O T d 7 1 n) else rootF 3 (rdA P S O T d 3 0 n) (rdA P S O T d 3 1 n)
def plc (k : Nat) (v : Int32) : Nat := if v &&& nI 1 = nI 1 then k else 4 + k
def keyV (P S O T : Nat → Int32) (d k n : Nat) (v : Int32) : Int64 := if v = 0 then 0 else jn64 (rdA P S O T d (plc k v) 0 n) (rdA P S O T d (plc k v) 1 n)
def keyA (P S O T : Nat → Int32) (d store k n : Nat) : Int64 := keyV P S O T d k n (if store = 2 then verA P S O T d n else nI 1)
set_option maxRecDepth 100000 in
theorem c_root {d0 kd kp rp : Nat} {g : GH} (d s n : Nat) (hd : d < 3) (hs : s = 3 ∨ s = 7) (hn : gA g 81 d = nI n) (hn60 : n ≤ 60) : ACi mX11_root (d0 + 1) (SS kd kp rp) g [.ref 76, .int (nI d), .int (nI s)] (fun r S' g' => S' = SS kd kp rp ∧ g' = g ∧ r = rootF s (rdA (gA g 77) (gA g 78) (gA g 79) (gA g 80) d s 0 n) (rdA (gA g 77) (gA g 78) (gA g 79) (gA g 80) d s 1 n)) := by
  refine ACi.of lcX11_root rfl rfl (fun X Q ad hR ret => ?_)
  refine AW_ls (ls' := [_, _, _, _, _]) rfl ?_
  refine a_aload_n (pc := 0) dX11_root_0 rfl ?_
  refine a_iload_n (pc := 1) dX11_root_1 rfl ?_
  refine a_iload_n (pc := 2) dX11_root_2 rfl ?_
  refine a_iconst (pc := 3) (nI 0) dX11_root_3 (by decide) ?_
  refine a_V3i (pc := 4) 10 dX11_root_4 lcX11_readOf lX11_129 rfl rfl rfl (fit_of hR (by omega) rfl) (c_readOf (d0 := d0) d s 0 n hd (by omega) (by decide) hn hn60) rfl rfl (ex_i ?_)
  refine a_istore_n (pc := 7) (ls' := [_, _, _, _, _]) dX11_root_7 (Nat.le_of_ble_eq_true rfl) rfl ?_
  refine a_iload_n (pc := 8) dX11_root_8 rfl ?_
  refine a_iconst (pc := 9) (nI 1) dX11_root_9 (by decide) ?_
  refine a_iand (pc := 10) dX11_root_10 ?_
  refine a_iconst (pc := 11) (nI 1) dX11_root_11 (by decide) ?_
  generalize (rdA (gA g 77) (gA g 78) (gA g 79) (gA g 80) d s 0 n) = x at ret ⊢
  refine AW_val3 20 (bI (decide (x &&& nI 1 = nI 1))) (fun hJ => ?_) ?_
  · refine a_icmp_ne (pc := 12) 19 dX11_root_12 (by decide) (fun cc => ?_) (fun cc => ?_)
    · refine a_iconst (pc := 19) (nI 0) dX11_root_19 (by decide) ?_
      exact AW_top (bI_ndec _ cc).symm hJ
    · refine a_iconst (pc := 15) (nI 1) dX11_root_15 (by decide) ?_
      refine a_goto (pc := 16) 20 dX11_root_16 (by decide) ?_
      exact AW_top (bI_dec _ cc).symm hJ
  refine a_istore (pc := 20) (ls' := [_, _, _, _, _]) dX11_root_20 (Nat.le_of_ble_eq_true rfl) rfl ?_
  refine a_iload_n (pc := 22) dX11_root_22 rfl ?_
  refine a_if_le (pc := 23) 62 dX11_root_23 (by decide) (fun c0 => ?_) (fun c0 => ?_)
  · refine a_iconst (pc := 62) (nI 0) dX11_root_62 (by decide) ?_
    refine ret _ _ 63 _ _ dX11_root_63 rfl ?_
    exact ⟨rfl, rfl, by rw [rootF, if_neg (fun z => absurd z.1 (Int32.not_lt.mpr c0))]⟩
  refine a_iload (pc := 26) dX11_root_26 rfl ?_
  refine a_iload_n (pc := 28) dX11_root_28 rfl ?_
  refine a_iconst (pc := 29) (nI 3) dX11_root_29 (by decide) ?_
  refine AW_val3 38 (bI (decide (s = 3))) (fun hJ => ?_) ?_
  · refine a_icmp_neN (pc := 30) 37 dX11_root_30 (by decide) (by omega) (by omega) (fun cc => ?_) (fun cc => ?_)
    · refine a_iconst (pc := 37) (nI 0) dX11_root_37 (by decide) ?_
      exact AW_top (bI_ndec _ cc).symm hJ
    · refine a_iconst (pc := 33) (nI 1) dX11_root_33 (by decide) ?_
      refine a_goto (pc := 34) 38 dX11_root_34 (by decide) ?_
      exact AW_top (bI_dec _ cc).symm hJ
  refine a_icmp_ne (pc := 38) 62 dX11_root_38 (by decide) (fun c1 => ?_) (fun c1 => ?_)
  · refine a_iconst (pc := 62) (nI 0) dX11_root_62 (by decide) ?_
    refine ret _ _ 63 _ _ dX11_root_63 rfl ?_
    refine ⟨rfl, rfl, ?_⟩
    rw [rootF, if_neg]
    exact fun z => c1 (bI_inj.mpr (decide_eq_decide.mpr z.2.1))
  refine a_aload_n (pc := 41) dX11_root_41 rfl ?_
  refine a_iload_n (pc := 42) dX11_root_42 rfl ?_
  refine a_iload_n (pc := 43) dX11_root_43 rfl ?_
  refine a_iconst (pc := 44) (nI 1) dX11_root_44 (by decide) ?_
  refine a_V3i (pc := 45) 10 dX11_root_45 lcX11_readOf lX11_129 rfl rfl rfl (fit_of hR (by omega) rfl) (c_readOf (d0 := d0) d s 1 n hd (by omega) (by decide) hn hn60) rfl rfl (ex_i ?_)
  have e1 : (x &&& nI 1 = nI 1 ↔ s = 3) := decide_eq_decide.mp (bI_inj.mp c1)
  refine a_bipush (pc := 48) (nI 31) dX11_root_48 (by decide) ?_
  refine a_iload_n (pc := 50) dX11_root_50 rfl ?_
  refine a_imul (pc := 51) dX11_root_51 ?_
  try rw [pk_mul]
  refine a_bipush (pc := 52) (nI 7) dX11_root_52 (by decide) ?_
  refine a_iadd (pc := 54) dX11_root_54 ?_
  try rw [nI_add]
  refine a_icmp_ne (pc := 55) 62 dX11_root_55 (by decide) (fun c2 => ?_) (fun c2 => ?_)
  · refine a_iconst (pc := 62) (nI 0) dX11_root_62 (by decide) ?_
    refine ret _ _ 63 _ _ dX11_root_63 rfl ?_
    exact ⟨rfl, rfl, by rw [rootF, if_neg (fun z => c2 z.2.2)]⟩
  · refine a_iload_n (pc := 58) dX11_root_58 rfl ?_
    refine a_goto (pc := 59) 63 dX11_root_59 (by decide) ?_
    refine ret _ _ 63 _ _ dX11_root_63 rfl ?_
    exact ⟨rfl, rfl, by rw [rootF, if_pos ⟨Int32.not_le.mp c0, e1, c2⟩]⟩
set_option maxRecDepth 100000 in
theorem c_version {d0 kd kp rp : Nat} {g : GH} (d n : Nat) (hd : d < 3) (hn : gA g 81 d = nI n) (hn60 : n ≤ 60) : ACi mX11_version (d0 + 2) (SS kd kp rp) g [.ref 76, .int (nI d)] (fun r S' g' => S' = SS kd kp rp ∧ g' = g ∧ r = (verA (gA g 77) (gA g 78) (gA g 79) (gA g 80) d n)) := by
  refine ACi.of lcX11_version rfl rfl (fun X Q ad hR ret => ?_)
  refine AW_ls (ls' := [_, _, _, _]) rfl ?_
  refine a_aload_n (pc := 0) dX11_version_0 rfl ?_
  refine a_iload_n (pc := 1) dX11_version_1 rfl ?_
  refine a_iconst (pc := 2) (nI 3) dX11_version_2 (by decide) ?_
  refine a_V2i (pc := 3) 10 dX11_version_3 lcX11_root lX11_175 rfl rfl rfl (fit_of hR (by omega) rfl) (c_root (d0 := d0) d 3 n hd (by decide) hn hn60) rfl rfl (ex_i ?_)
  refine a_istore_n (pc := 6) (ls' := [_, _, _, _]) dX11_version_6 (Nat.le_of_ble_eq_true rfl) rfl ?_
  refine a_aload_n (pc := 7) dX11_version_7 rfl ?_
  refine a_iload_n (pc := 8) dX11_version_8 rfl ?_
  refine a_bipush (pc := 9) (nI 7) dX11_version_9 (by decide) ?_
  refine a_V2i (pc := 11) 10 dX11_version_11 lcX11_root lX11_175 rfl rfl rfl (fit_of hR (by omega) rfl) (c_root (d0 := d0) d 7 n hd (by decide) hn hn60) rfl rfl (ex_i ?_)
  refine a_istore_n (pc := 14) (ls' := [_, _, _, _]) dX11_version_14 (Nat.le_of_ble_eq_true rfl) rfl ?_
  refine a_iload_n (pc := 15) dX11_version_15 rfl ?_
  refine a_iload_n (pc := 16) dX11_version_16 rfl ?_
  refine a_icmp_le (pc := 17) 24 dX11_version_17 (by decide) (fun cc => ?_) (fun cc => ?_)
  · refine a_iload_n (pc := 24) dX11_version_24 rfl ?_
    refine ret _ _ 25 _ _ dX11_version_25 rfl ?_
    exact ⟨rfl, rfl, by rw [verA, if_pos cc]⟩
  · refine a_iload_n (pc := 20) dX11_version_20 rfl ?_
    refine a_goto (pc := 21) 25 dX11_version_21 (by decide) ?_
    refine ret _ _ 25 _ _ dX11_version_25 rfl ?_
    exact ⟨rfl, rfl, by rw [verA, if_neg cc]⟩
set_option maxRecDepth 100000 in
theorem c_keyOf {d0 kd kp rp : Nat} {g : GH} (d store k n : Nat) (hd : d < 3) (hst : store < 3) (hk : k < 3) (hn : gA g 81 d = nI n) (hn60 : n ≤ 60) : ACl mX11_keyOf (d0 + 3) (SS kd kp rp) g [.ref 76, .int (nI d), .int (nI store), .int (nI k)] (fun r S' g' => S' = SS kd kp rp ∧ g' = g ∧ r = (keyA (gA g 77) (gA g 78) (gA g 79) (gA g 80) d store k n)) := by
  refine ACl.of lcX11_keyOf rfl rfl (fun X Q ad hR ret => ?_)
  refine AW_ls (ls' := [_, _, _, _, _, _]) rfl ?_
  refine a_iload_n (pc := 0) dX11_keyOf_0 rfl ?_
  refine a_iconst (pc := 1) (nI 2) dX11_keyOf_1 (by decide) ?_
  refine AW_val3 14 (if store = 2 then (verA (gA g 77) (gA g 78) (gA g 79) (gA g 80) d n) else nI 1) (fun hJ => ?_) ?_
  · refine a_icmp_neN (pc := 2) 13 dX11_keyOf_2 (by decide) (by omega) (by omega) (fun cc => ?_) (fun cc => ?_)
    · refine a_iconst (pc := 13) (nI 1) dX11_keyOf_13 (by decide) ?_
      exact AW_top (by rw [if_neg cc]) hJ
    · refine a_aload_n (pc := 5) dX11_keyOf_5 rfl ?_
      refine a_iload_n (pc := 6) dX11_keyOf_6 rfl ?_
      refine a_V1i (pc := 7) 10 dX11_keyOf_7 lcX11_version lX11_178 rfl rfl rfl (fit_of hR (by omega) rfl) (c_version (d0 := d0) d n hd hn hn60) rfl rfl (ex_i ?_)
      refine a_goto (pc := 10) 14 dX11_keyOf_10 (by decide) ?_
      exact AW_top (by rw [if_pos cc]) hJ
  rw [show (keyA (gA g 77) (gA g 78) (gA g 79) (gA g 80) d store k n) = keyV (gA g 77) (gA g 78) (gA g 79) (gA g 80) d k n (if store = 2 then (verA (gA g 77) (gA g 78) (gA g 79) (gA g 80) d n) else nI 1) from rfl] at ret
  generalize (if store = 2 then (verA (gA g 77) (gA g 78) (gA g 79) (gA g 80) d n) else nI 1) = v at ret ⊢
  refine a_istore (pc := 14) (ls' := [_, _, _, _, _, _]) dX11_keyOf_14 (Nat.le_of_ble_eq_true rfl) rfl ?_
  refine a_iload (pc := 16) dX11_keyOf_16 rfl ?_
  refine a_if_ne (pc := 18) 23 dX11_keyOf_18 (by decide) (fun c0 => ?_) (fun c0 => ?_)
  · refine a_iload_n (pc := 23) dX11_keyOf_23 rfl ?_
    refine a_iload (pc := 24) dX11_keyOf_24 rfl ?_
    refine a_S2i (pc := 26) dX11_keyOf_26 lcX11_placeOf lX11_181 (fit_of hR (by omega) rfl) (c_placeOf (d0 := d0) k v) rfl rfl (ex_i ?_)
    refine a_istore (pc := 29) (ls' := [_, _, _, _, _, _]) dX11_keyOf_29 (Nat.le_of_ble_eq_true rfl) rfl ?_
    refine a_aload_n (pc := 31) dX11_keyOf_31 rfl ?_
    refine a_iload_n (pc := 32) dX11_keyOf_32 rfl ?_
    refine a_iload (pc := 33) dX11_keyOf_33 rfl ?_
    refine a_iconst (pc := 35) (nI 0) dX11_keyOf_35 (by decide) ?_
    have hp8 : plc k v < 8 := by unfold plc; split <;> omega
    refine a_V3i (pc := 36) 10 dX11_keyOf_36 lcX11_readOf lX11_129 rfl rfl rfl (fit_of hR (by omega) rfl) (c_readOf (d0 := d0) d (plc k v) 0 n hd (by omega) (by decide) hn hn60) rfl rfl (ex_i ?_)
    refine a_aload_n (pc := 39) dX11_keyOf_39 rfl ?_
    refine a_iload_n (pc := 40) dX11_keyOf_40 rfl ?_
    refine a_iload (pc := 41) dX11_keyOf_41 rfl ?_
    refine a_iconst (pc := 43) (nI 1) dX11_keyOf_43 (by decide) ?_
    refine a_V3i (pc := 44) 10 dX11_keyOf_44 lcX11_readOf lX11_129 rfl rfl rfl (fit_of hR (by omega) rfl) (c_readOf (d0 := d0) d (plc k v) 1 n hd (by omega) (by decide) hn hn60) rfl rfl (ex_i ?_)
    refine a_S2l (pc := 47) dX11_keyOf_47 lcX11_joined lX11_184 (fit_of hR (by omega) rfl) (c_joined (d0 := d0) _ _) rfl rfl (ex_l ?_)
    refine ret _ _ 50 _ _ dX11_keyOf_50 rfl ?_
    exact ⟨rfl, rfl, by rw [keyV, if_neg c0]⟩
  · refine a_lconst (pc := 21) 0 dX11_keyOf_21 (by decide) ?_
    refine ret _ _ 22 _ _ dX11_keyOf_22 rfl ?_
    exact ⟨rfl, rfl, by rw [keyV, if_pos c0]⟩
