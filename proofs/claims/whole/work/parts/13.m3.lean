/-! the reference: epochs, versions, keys, plans -/
theorem pA_pA (g : GH) (a : Nat) (f f' : Nat → Int32) : pA (pA g a f) a f' = pA g a f' := GH_ext (fun _ _ => rfl) (fun b j => by simp only [gA_pA]; split <;> rfl) (fun _ _ => rfl)
theorem pA_self (g : GH) (a : Nat) : pA g a (gA g a) = g := GH_ext (fun _ _ => rfl) (fun b j => by simp only [gA_pA]; split <;> simp_all) (fun _ _ => rfl)
theorem pF_pF (g : GH) (a k : Nat) (x y : Int32) : pF (pF g a k x) a k y = pF g a k y := GH_ext (fun b j => by simp only [gF_pF]; split <;> rfl) (fun _ _ => rfl) (fun _ _ => rfl)
theorem pF_self (g : GH) (a k : Nat) : pF g a k (gF g a k) = g := GH_ext (fun b j => by simp only [gF_pF]; split <;> simp_all) (fun _ _ => rfl) (fun _ _ => rfl)
theorem pL_pL (g : GH) (a : Nat) (f f' : Nat → Int64) : pL (pL g a f) a f' = pL g a f' := GH_ext (fun _ _ => rfl) (fun _ _ => rfl) (fun b j => by simp only [gL_pL]; split <;> rfl)
theorem pL_self (g : GH) (a : Nat) : pL g a (gL g a) = g := GH_ext (fun _ _ => rfl) (fun _ _ => rfl) (fun b j => by simp only [gL_pL]; split <;> simp_all)
theorem pA_comm (g : GH) (a b : Nat) (f f' : Nat → Int32) (h : a ≠ b) : pA (pA g a f) b f' = pA (pA g b f') a f := GH_ext (fun _ _ => rfl) (fun c j => by simp only [gA_pA]; split <;> split <;> simp_all) (fun _ _ => rfl)
theorem pF_pA (g : GH) (a b k : Nat) (f : Nat → Int32) (x : Int32) : pA (pF g b k x) a f = pF (pA g a f) b k x := rfl
/-- the epochs ahead of an entry -/
def weS (S : Nat → Int32) : Nat → Bool
  | 0 => false
  | k + 1 => !decide (S k = -1)
def weN (S : Nat → Int32) : Nat → Nat
  | 0 => 0
  | k + 1 => weN S k + (if S k = -1 ∧ weS S k = true then 1 else 0)
theorem weN_le (S : Nat → Int32) : ∀ k, weN S k ≤ k
  | 0 => Nat.le_refl 0
  | k + 1 => by
    have := weN_le S k
    rw [weN]
    split <;> omega
set_option maxRecDepth 100000 in
theorem c_writeEpoch {d0 kd kp rp : Nat} {g : GH} (d p : Nat) (hd : d < 3) (hp : p ≤ 60) : ACi mX11_writeEpoch d0 (SS kd kp rp) g [.ref 76, .int (nI d), .int (nI p)] (fun r S' g' => S' = SS kd kp rp ∧ g' = g ∧ r = nI (weN (fun k => gA g 78 (60 * d + k)) p)) := by
  refine ACi.of lcX11_writeEpoch rfl rfl (fun X Q ad hR ret => ?_)
  refine AW_ls (ls' := [_, _, _, _, _, _, _]) rfl ?_
  refine a_iconst (pc := 0) (nI 0) dX11_writeEpoch_0 (by decide) ?_
  refine a_istore_n (pc := 1) (ls' := [_, _, _, _, _, _, _]) dX11_writeEpoch_1 (Nat.le_of_ble_eq_true rfl) rfl ?_
  refine a_iconst (pc := 2) (nI 0) dX11_writeEpoch_2 (by decide) ?_
  refine a_istore (pc := 3) (ls' := [_, _, _, _, _, _, _]) dX11_writeEpoch_3 (Nat.le_of_ble_eq_true rfl) rfl ?_
  refine a_iconst (pc := 5) (nI 0) dX11_writeEpoch_5 (by decide) ?_
  refine a_istore (pc := 6) (ls' := [_, _, _, _, _, _, _]) dX11_writeEpoch_6 (Nat.le_of_ble_eq_true rfl) rfl ?_
  have loop : ∀ m k : Nat, p = k + m → ∀ w : Option Value, AW mX11_writeEpoch X Q ad 0 0 (conc (SS kd kp rp) g) 8 [some (.ref 76), some (.int (nI d)), some (.int (nI p)), some (.int (nI (weN (fun k => gA g 78 (60 * d + k)) k))), some (.int (bI (weS (fun k => gA g 78 (60 * d + k)) k))), some (.int (nI k)), w] [] := by
    intro m
    induction m with
    | zero =>
      intro k hk w
      refine a_iload (pc := 8) dX11_writeEpoch_8 rfl ?_
      refine a_iload_n (pc := 10) dX11_writeEpoch_10 rfl ?_
      refine a_icmp_geN (pc := 11) 73 dX11_writeEpoch_11 (by decide) (by omega) (by omega) (fun cc => ?_) (fun cc => ?_)
      · refine a_iload_n (pc := 73) dX11_writeEpoch_73 rfl ?_
        refine ret _ _ 74 _ _ dX11_writeEpoch_74 rfl ?_
        exact ⟨rfl, rfl, by rw [show k = p by omega]⟩
      · exact absurd cc (by omega)
    | succ m ih =>
      intro k hk w
      refine a_iload (pc := 8) dX11_writeEpoch_8 rfl ?_
      refine a_iload_n (pc := 10) dX11_writeEpoch_10 rfl ?_
      refine a_icmp_geN (pc := 11) 73 dX11_writeEpoch_11 (by decide) (by omega) (by omega) (fun cc => ?_) (fun cc => ?_)
      · exact absurd cc (by omega)
      · refine a_aload_n (pc := 14) dX11_writeEpoch_14 rfl ?_
        refine a_gr (pc := 15) dX11_writeEpoch_15 fX11_13 rfl ?_
        refine a_bipush (pc := 18) (nI 60) dX11_writeEpoch_18 (by decide) ?_
        refine a_iload_n (pc := 20) dX11_writeEpoch_20 rfl ?_
        refine a_imul (pc := 21) dX11_writeEpoch_21 ?_
        try rw [pk_mul]
        refine a_iload (pc := 22) dX11_writeEpoch_22 rfl ?_
        refine a_iadd (pc := 24) dX11_writeEpoch_24 ?_
        try rw [nI_add]
        refine a_ial (pc := 25) _ dX11_writeEpoch_25 rfl rfl (by omega) ?_
        refine a_iconst (pc := 26) (-1) dX11_writeEpoch_26 (by decide) ?_
        refine AW_val3 35 (bI (decide (gA g 78 (60 * d + k) = -1))) (fun hJ => ?_) ?_
        · refine a_icmp_ne (pc := 27) 34 dX11_writeEpoch_27 (by decide) (fun cc => ?_) (fun cc => ?_)
          · refine a_iconst (pc := 34) (nI 0) dX11_writeEpoch_34 (by decide) ?_
            exact AW_top (bI_ndec _ cc).symm hJ
          · refine a_iconst (pc := 30) (nI 1) dX11_writeEpoch_30 (by decide) ?_
            refine a_goto (pc := 31) 35 dX11_writeEpoch_31 (by decide) ?_
            exact AW_top (bI_dec _ cc).symm hJ
        refine a_istore (pc := 35) (ls' := [_, _, _, _, _, _, _]) dX11_writeEpoch_35 (Nat.le_of_ble_eq_true rfl) rfl ?_
        refine a_iload_n (pc := 37) dX11_writeEpoch_37 rfl ?_
        refine a_iload (pc := 38) dX11_writeEpoch_38 rfl ?_
        refine AW_val2 53 (nI (if gA g 78 (60 * d + k) = -1 ∧ weS (fun k => gA g 78 (60 * d + k)) k = true then 1 else 0)) (fun hJ => ?_) ?_
        · refine a_if_eqB (pc := 40) 52 dX11_writeEpoch_40 (by decide) (fun c1 => ?_) (fun c1 => ?_)
          · refine a_iconst (pc := 52) (nI 0) dX11_writeEpoch_52 (by decide) ?_
            exact AW_top (by rw [if_neg (by simpa using fun z => absurd z (of_decide_eq_false c1))]) hJ
          · refine a_iload (pc := 43) dX11_writeEpoch_43 rfl ?_
            refine a_if_eqB (pc := 45) 52 dX11_writeEpoch_45 (by decide) (fun c2 => ?_) (fun c2 => ?_)
            · refine a_iconst (pc := 52) (nI 0) dX11_writeEpoch_52 (by decide) ?_
              exact AW_top (by rw [if_neg (by simp [c2])]) hJ
            · refine a_iconst (pc := 48) (nI 1) dX11_writeEpoch_48 (by decide) ?_
              refine a_goto (pc := 49) 53 dX11_writeEpoch_49 (by decide) ?_
              exact AW_top (by rw [if_pos ⟨of_decide_eq_true c1, c2⟩]) hJ
        refine a_iadd (pc := 53) dX11_writeEpoch_53 ?_
        try rw [nI_add]
        refine a_istore_n (pc := 54) (ls' := [_, _, _, _, _, _, _]) dX11_writeEpoch_54 (Nat.le_of_ble_eq_true rfl) rfl ?_
        refine a_iload (pc := 55) dX11_writeEpoch_55 rfl ?_
        refine AW_val2 65 (bI (!decide (gA g 78 (60 * d + k) = -1))) (fun hJ => ?_) ?_
        · refine a_if_eqB (pc := 57) 64 dX11_writeEpoch_57 (by decide) (fun c1 => ?_) (fun c1 => ?_)
          · refine a_iconst (pc := 64) (nI 1) dX11_writeEpoch_64 (by decide) ?_
            exact AW_top (by rw [c1]; rfl) hJ
          · refine a_iconst (pc := 60) (nI 0) dX11_writeEpoch_60 (by decide) ?_
            refine a_goto (pc := 61) 65 dX11_writeEpoch_61 (by decide) ?_
            exact AW_top (by rw [c1]; rfl) hJ
        refine a_istore (pc := 65) (ls' := [_, _, _, _, _, _, _]) dX11_writeEpoch_65 (Nat.le_of_ble_eq_true rfl) rfl ?_
        refine a_iinc (pc := 67) (ls' := [_, _, _, _, _, _, _]) (nI 1) dX11_writeEpoch_67 (by decide) rfl (Nat.le_of_ble_eq_true rfl) rfl ?_
        try rw [nI_add]
        refine a_goto (pc := 70) 8 dX11_writeEpoch_70 (by decide) ?_
        exact ih (k + 1) (by omega) _
  exact loop p 0 (by omega) none
set_option maxRecDepth 100000 in
theorem c_epochOf {d0 kd kp rp : Nat} {g : GH} (d p : Nat) (hd : d < 3) (hp : p ≤ 60) (hn : gA g 81 d = nI p) : ACi mX11_epochOf d0 (SS kd kp rp) g [.ref 76, .int (nI d), .int (nI p)] (fun r S' g' => S' = SS kd kp rp ∧ g' = g ∧ r = nI (weN (fun k => gA g 78 (60 * d + k)) p + (if weS (fun k => gA g 78 (60 * d + k)) p = true then 1 else 0))) := by
  refine ACi.of lcX11_epochOf rfl rfl (fun X Q ad hR ret => ?_)
  refine AW_ls (ls' := [_, _, _, _, _, _, _]) rfl ?_
  refine a_iconst (pc := 0) (nI 0) dX11_epochOf_0 (by decide) ?_
  refine a_istore_n (pc := 1) (ls' := [_, _, _, _, _, _, _]) dX11_epochOf_1 (Nat.le_of_ble_eq_true rfl) rfl ?_
  refine a_iconst (pc := 2) (nI 0) dX11_epochOf_2 (by decide) ?_
  refine a_istore (pc := 3) (ls' := [_, _, _, _, _, _, _]) dX11_epochOf_3 (Nat.le_of_ble_eq_true rfl) rfl ?_
  refine a_iconst (pc := 5) (nI 0) dX11_epochOf_5 (by decide) ?_
  refine a_istore (pc := 6) (ls' := [_, _, _, _, _, _, _]) dX11_epochOf_6 (Nat.le_of_ble_eq_true rfl) rfl ?_
  have loop : ∀ m k : Nat, p = k + m → ∀ w : Option Value, AW mX11_epochOf X Q ad 0 0 (conc (SS kd kp rp) g) 8 [some (.ref 76), some (.int (nI d)), some (.int (nI p)), some (.int (nI (weN (fun k => gA g 78 (60 * d + k)) k))), some (.int (bI (weS (fun k => gA g 78 (60 * d + k)) k))), some (.int (nI k)), w] [] := by
    intro m
    induction m with
    | zero =>
      intro k hk w
      refine a_iload (pc := 8) dX11_epochOf_8 rfl ?_
      refine a_iload_n (pc := 10) dX11_epochOf_10 rfl ?_
      refine a_icmp_geN (pc := 11) 73 dX11_epochOf_11 (by decide) (by omega) (by omega) (fun cc => ?_) (fun cc => ?_)
      · refine a_iload_n (pc := 73) dX11_epochOf_73 rfl ?_
        refine a_aload_n (pc := 74) dX11_epochOf_74 rfl ?_
        refine a_gr (pc := 75) dX11_epochOf_75 fX11_22 rfl ?_
        refine a_iload_n (pc := 78) dX11_epochOf_78 rfl ?_
        refine a_ial (pc := 79) _ dX11_epochOf_79 rfl rfl (by omega) ?_
        rw [hn]
        refine a_icmp_neN (pc := 80) 94 dX11_epochOf_80 (by decide) (by omega) (by omega) (fun c9 => ?_) (fun c9 => ?_)
        · exact absurd rfl c9
        · refine a_iload (pc := 83) dX11_epochOf_83 rfl ?_
          obtain rfl : k = p := by omega
          refine a_if_eqB (pc := 85) 94 dX11_epochOf_85 (by decide) (fun c1 => ?_) (fun c1 => ?_)
          · refine a_iload_n (pc := 94) dX11_epochOf_94 rfl ?_
            refine ret _ _ 95 _ _ dX11_epochOf_95 rfl ?_
            exact ⟨rfl, rfl, by rw [if_neg (by simp [c1])]; rfl⟩
          · refine a_iload_n (pc := 88) dX11_epochOf_88 rfl ?_
            refine a_iconst (pc := 89) (nI 1) dX11_epochOf_89 (by decide) ?_
            refine a_iadd (pc := 90) dX11_epochOf_90 ?_
            try rw [nI_add]
            refine a_goto (pc := 91) 95 dX11_epochOf_91 (by decide) ?_
            refine ret _ _ 95 _ _ dX11_epochOf_95 rfl ?_
            exact ⟨rfl, rfl, by rw [if_pos c1]⟩
      · exact absurd cc (by omega)
    | succ m ih =>
      intro k hk w
      refine a_iload (pc := 8) dX11_epochOf_8 rfl ?_
      refine a_iload_n (pc := 10) dX11_epochOf_10 rfl ?_
      refine a_icmp_geN (pc := 11) 73 dX11_epochOf_11 (by decide) (by omega) (by omega) (fun cc => ?_) (fun cc => ?_)
      · exact absurd cc (by omega)
      · refine a_aload_n (pc := 14) dX11_epochOf_14 rfl ?_
        refine a_gr (pc := 15) dX11_epochOf_15 fX11_13 rfl ?_
        refine a_bipush (pc := 18) (nI 60) dX11_epochOf_18 (by decide) ?_
        refine a_iload_n (pc := 20) dX11_epochOf_20 rfl ?_
        refine a_imul (pc := 21) dX11_epochOf_21 ?_
        try rw [pk_mul]
        refine a_iload (pc := 22) dX11_epochOf_22 rfl ?_
        refine a_iadd (pc := 24) dX11_epochOf_24 ?_
        try rw [nI_add]
        refine a_ial (pc := 25) _ dX11_epochOf_25 rfl rfl (by omega) ?_
        refine a_iconst (pc := 26) (-1) dX11_epochOf_26 (by decide) ?_
        refine AW_val3 35 (bI (decide (gA g 78 (60 * d + k) = -1))) (fun hJ => ?_) ?_
        · refine a_icmp_ne (pc := 27) 34 dX11_epochOf_27 (by decide) (fun cc => ?_) (fun cc => ?_)
          · refine a_iconst (pc := 34) (nI 0) dX11_epochOf_34 (by decide) ?_
            exact AW_top (bI_ndec _ cc).symm hJ
          · refine a_iconst (pc := 30) (nI 1) dX11_epochOf_30 (by decide) ?_
            refine a_goto (pc := 31) 35 dX11_epochOf_31 (by decide) ?_
            exact AW_top (bI_dec _ cc).symm hJ
        refine a_istore (pc := 35) (ls' := [_, _, _, _, _, _, _]) dX11_epochOf_35 (Nat.le_of_ble_eq_true rfl) rfl ?_
        refine a_iload_n (pc := 37) dX11_epochOf_37 rfl ?_
        refine a_iload (pc := 38) dX11_epochOf_38 rfl ?_
        refine AW_val2 53 (nI (if gA g 78 (60 * d + k) = -1 ∧ weS (fun k => gA g 78 (60 * d + k)) k = true then 1 else 0)) (fun hJ => ?_) ?_
        · refine a_if_eqB (pc := 40) 52 dX11_epochOf_40 (by decide) (fun c1 => ?_) (fun c1 => ?_)
          · refine a_iconst (pc := 52) (nI 0) dX11_epochOf_52 (by decide) ?_
            exact AW_top (by rw [if_neg (by simpa using fun z => absurd z (of_decide_eq_false c1))]) hJ
          · refine a_iload (pc := 43) dX11_epochOf_43 rfl ?_
            refine a_if_eqB (pc := 45) 52 dX11_epochOf_45 (by decide) (fun c2 => ?_) (fun c2 => ?_)
            · refine a_iconst (pc := 52) (nI 0) dX11_epochOf_52 (by decide) ?_
              exact AW_top (by rw [if_neg (by simp [c2])]) hJ
            · refine a_iconst (pc := 48) (nI 1) dX11_epochOf_48 (by decide) ?_
              refine a_goto (pc := 49) 53 dX11_epochOf_49 (by decide) ?_
              exact AW_top (by rw [if_pos ⟨of_decide_eq_true c1, c2⟩]) hJ
        refine a_iadd (pc := 53) dX11_epochOf_53 ?_
        try rw [nI_add]
        refine a_istore_n (pc := 54) (ls' := [_, _, _, _, _, _, _]) dX11_epochOf_54 (Nat.le_of_ble_eq_true rfl) rfl ?_
        refine a_iload (pc := 55) dX11_epochOf_55 rfl ?_
        refine AW_val2 65 (bI (!decide (gA g 78 (60 * d + k) = -1))) (fun hJ => ?_) ?_
        · refine a_if_neB (pc := 57) 64 dX11_epochOf_57 (by decide) (fun c1 => ?_) (fun c1 => ?_)
          · refine a_iconst (pc := 64) (nI 0) dX11_epochOf_64 (by decide) ?_
            exact AW_top (by rw [c1]; rfl) hJ
          · refine a_iconst (pc := 60) (nI 1) dX11_epochOf_60 (by decide) ?_
            refine a_goto (pc := 61) 65 dX11_epochOf_61 (by decide) ?_
            exact AW_top (by rw [c1]; rfl) hJ
        refine a_istore (pc := 65) (ls' := [_, _, _, _, _, _, _]) dX11_epochOf_65 (Nat.le_of_ble_eq_true rfl) rfl ?_
        refine a_iinc (pc := 67) (ls' := [_, _, _, _, _, _, _]) (nI 1) dX11_epochOf_67 (by decide) rfl (Nat.le_of_ble_eq_true rfl) rfl ?_
        try rw [nI_add]
        refine a_goto (pc := 70) 8 dX11_epochOf_70 (by decide) ?_
        exact ih (k + 1) (by omega) _
  exact loop p 0 (by omega) none
