/-! the reference: reading, writing, the queue -/
def hi32 (v : Int64) : Int32 := (v >>> ((nI 32).toInt64 &&& 63)).toInt32
def jn64 (a b : Int32) : Int64 := (a.toInt64 <<< ((nI 32).toInt64 &&& 63)) ||| (b.toInt64 &&& 4294967295)
def sum7 (n k kh kl l lh ll : Int32) : Int32 := nI 2 * (nI 31 * (nI 31 * (nI 31 * (nI 31 * (nI 31 * (nI 31 * n + k) + kh) + kl) + l) + lh) + ll) + nI 1
def rdA (P S O T : Nat → Int32) (d s part : Nat) : Nat → Int32
  | 0 => P (32 * d + 2 * s + part)
  | n + 1 => if S (60 * d + n) = nI s then (if part = 0 then O (60 * d + n) else T (60 * d + n)) else rdA P S O T d s part n
set_option maxRecDepth 100000 in
theorem c_readOf {d0 kd kp rp : Nat} {g : GH} (d s part n : Nat) (hd : d < 3) (hs : s < 16) (hp : part < 2) (hn : gA g 81 d = nI n) (hn60 : n ≤ 60) : ACi mX11_readOf d0 (SS kd kp rp) g [.ref 76, .int (nI d), .int (nI s), .int (nI part)] (fun r S' g' => S' = SS kd kp rp ∧ g' = g ∧ r = (rdA (gA g 77) (gA g 78) (gA g 79) (gA g 80) d s part n)) := by
  refine ACi.of lcX11_readOf rfl rfl (fun X Q ad hR ret => ?_)
  refine AW_ls (ls' := [_, _, _, _, _]) rfl ?_
  refine a_aload_n (pc := 0) dX11_readOf_0 rfl ?_
  refine a_gr (pc := 1) dX11_readOf_1 fX11_22 rfl ?_
  refine a_iload_n (pc := 4) dX11_readOf_4 rfl ?_
  refine a_ial (pc := 5) d dX11_readOf_5 rfl rfl (by omega) ?_
  rw [hn]
  refine a_iconst (pc := 6) (nI 1) dX11_readOf_6 (by decide) ?_
  refine a_isub (pc := 7) dX11_readOf_7 ?_
  refine a_istore (pc := 8) (ls' := [_, _, _, _, _]) dX11_readOf_8 (Nat.le_of_ble_eq_true rfl) rfl ?_
  have loop : ∀ i : Nat, i ≤ n → (∀ r, r = (rdA (gA g 77) (gA g 78) (gA g 79) (gA g 80) d s part i) → r = (rdA (gA g 77) (gA g 78) (gA g 79) (gA g 80) d s part n)) → AW mX11_readOf X Q ad 0 0 (conc (SS kd kp rp) g) 10 [some (.ref 76), some (.int (nI d)), some (.int (nI s)), some (.int (nI part)), some (.int (nI i - nI 1))] [] := by
    intro i
    induction i with
    | zero =>
      intro _ hr
      refine a_iload (pc := 10) dX11_readOf_10 rfl ?_
      refine a_if_lt (pc := 12) 69 dX11_readOf_12 (by decide) (fun cc => ?_) (fun cc => ?_)
      · refine a_aload_n (pc := 69) dX11_readOf_69 rfl ?_
        refine a_gr (pc := 70) dX11_readOf_70 fX11_7 rfl ?_
        refine a_bipush (pc := 73) (nI 32) dX11_readOf_73 (by decide) ?_
        refine a_iload_n (pc := 75) dX11_readOf_75 rfl ?_
        refine a_imul (pc := 76) dX11_readOf_76 ?_
        try rw [pk_mul]
        refine a_iconst (pc := 77) (nI 2) dX11_readOf_77 (by decide) ?_
        refine a_iload_n (pc := 78) dX11_readOf_78 rfl ?_
        refine a_imul (pc := 79) dX11_readOf_79 ?_
        try rw [pk_mul]
        refine a_iadd (pc := 80) dX11_readOf_80 ?_
        try rw [nI_add]
        refine a_iload_n (pc := 81) dX11_readOf_81 rfl ?_
        refine a_iadd (pc := 82) dX11_readOf_82 ?_
        try rw [nI_add]
        refine a_ial (pc := 83) _ dX11_readOf_83 rfl rfl (by omega) ?_
        refine ret _ _ 84 _ _ dX11_readOf_84 rfl ?_
        exact ⟨rfl, rfl, hr _ rfl⟩
      · exact absurd (by decide) cc
    | succ i ih =>
      intro hi hr
      rw [show nI (i + 1) - nI 1 = nI i from nI_pred i]
      refine a_iload (pc := 10) dX11_readOf_10 rfl ?_
      refine a_if_ltN (pc := 12) 69 dX11_readOf_12 (by decide) (by omega) (fun cc => ?_) (fun cc => ?_)
      · exact absurd cc (by omega)
      · refine a_aload_n (pc := 15) dX11_readOf_15 rfl ?_
        refine a_gr (pc := 16) dX11_readOf_16 fX11_13 rfl ?_
        refine a_bipush (pc := 19) (nI 60) dX11_readOf_19 (by decide) ?_
        refine a_iload_n (pc := 21) dX11_readOf_21 rfl ?_
        refine a_imul (pc := 22) dX11_readOf_22 ?_
        try rw [pk_mul]
        refine a_iload (pc := 23) dX11_readOf_23 rfl ?_
        refine a_iadd (pc := 25) dX11_readOf_25 ?_
        try rw [nI_add]
        refine a_ial (pc := 26) _ dX11_readOf_26 rfl rfl (by omega) ?_
        refine a_iload_n (pc := 27) dX11_readOf_27 rfl ?_
        refine a_icmp_ne (pc := 28) 63 dX11_readOf_28 (by decide) (fun cc => ?_) (fun cc => ?_)
        · refine a_iinc (pc := 63) (ls' := [_, _, _, _, _]) (-1) dX11_readOf_63 (by decide) rfl (Nat.le_of_ble_eq_true rfl) rfl ?_
          rw [i_m1]
          refine a_goto (pc := 66) 10 dX11_readOf_66 (by decide) ?_
          exact ih (by omega) (fun r h => hr r (by rw [rdA, if_neg cc]; exact h))
        · refine a_iload_n (pc := 31) dX11_readOf_31 rfl ?_
          refine a_if_neN (pc := 32) 50 dX11_readOf_32 (by decide) (by omega) (fun cc => ?_) (fun cc => ?_)
          · refine a_aload_n (pc := 50) dX11_readOf_50 rfl ?_
            refine a_gr (pc := 51) dX11_readOf_51 fX11_19 rfl ?_
            refine a_bipush (pc := 54) (nI 60) dX11_readOf_54 (by decide) ?_
            refine a_iload_n (pc := 56) dX11_readOf_56 rfl ?_
            refine a_imul (pc := 57) dX11_readOf_57 ?_
            try rw [pk_mul]
            refine a_iload (pc := 58) dX11_readOf_58 rfl ?_
            refine a_iadd (pc := 60) dX11_readOf_60 ?_
            try rw [nI_add]
            refine a_ial (pc := 61) _ dX11_readOf_61 rfl rfl (by omega) ?_
            refine ret _ _ 62 _ _ dX11_readOf_62 rfl ?_
            refine ⟨rfl, rfl, hr _ ?_⟩
            rename_i c1
            rw [rdA, if_pos c1, if_neg cc]
          · refine a_aload_n (pc := 35) dX11_readOf_35 rfl ?_
            refine a_gr (pc := 36) dX11_readOf_36 fX11_16 rfl ?_
            refine a_bipush (pc := 39) (nI 60) dX11_readOf_39 (by decide) ?_
            refine a_iload_n (pc := 41) dX11_readOf_41 rfl ?_
            refine a_imul (pc := 42) dX11_readOf_42 ?_
            try rw [pk_mul]
            refine a_iload (pc := 43) dX11_readOf_43 rfl ?_
            refine a_iadd (pc := 45) dX11_readOf_45 ?_
            try rw [nI_add]
            refine a_ial (pc := 46) _ dX11_readOf_46 rfl rfl (by omega) ?_
            refine a_goto (pc := 47) 62 dX11_readOf_47 (by decide) ?_
            refine ret _ _ 62 _ _ dX11_readOf_62 rfl ?_
            refine ⟨rfl, rfl, hr _ ?_⟩
            rename_i c1
            rw [rdA, if_pos c1, if_pos cc]
  exact loop n (Nat.le_refl _) (fun _ h => h)
def pushG (g : GH) (d : Nat) (s a b : Int32) (n : Nat) : GH := pF (pA (pA (pA (pA g 78 (upd (gA g 78) (60 * d + n) s)) 79 (upd (gA g 79) (60 * d + n) a)) 80 (upd (gA g 80) (60 * d + n) b)) 81 (upd (gA g 81) d (nI (n + 1)))) 76 8 (gF g 76 8 + (if d = 0 ∧ s ≠ -1 then nI 1 else nI 0))
set_option maxRecDepth 100000 in
theorem c_push {d0 kd kp rp : Nat} {g : GH} (d : Nat) (s a b : Int32) (n : Nat) (hd : d < 3) (hn : gA g 81 d = nI n) (hn60 : n < 60) : ACi mX11_push d0 (SS kd kp rp) g [.ref 76, .int (nI d), .int s, .int a, .int b] (fun r S' g' => S' = SS kd kp rp ∧ g' = pushG g d s a b n ∧ r = nI 1) := by
  refine ACz.of lcX11_push rfl rfl (fun X Q ad hR ret => ?_)
  refine AW_ls (ls' := [_, _, _, _, _, _]) rfl ?_
  refine a_aload_n (pc := 0) dX11_push_0 rfl ?_
  refine a_gr (pc := 1) dX11_push_1 fX11_22 rfl ?_
  refine a_iload_n (pc := 4) dX11_push_4 rfl ?_
  refine a_ial (pc := 5) _ dX11_push_5 rfl rfl (by omega) ?_
  rw [hn]
  refine a_bipush (pc := 6) (nI 60) dX11_push_6 (by decide) ?_
  refine a_icmp_neN (pc := 8) 13 dX11_push_8 (by decide) (by omega) (by omega) (fun cc => ?_) (fun cc => ?_)
  · refine a_bipush (pc := 13) (nI 60) dX11_push_13 (by decide) ?_
    refine a_iload_n (pc := 15) dX11_push_15 rfl ?_
    refine a_imul (pc := 16) dX11_push_16 ?_
    try rw [pk_mul]
    refine a_aload_n (pc := 17) dX11_push_17 rfl ?_
    refine a_gr (pc := 18) dX11_push_18 fX11_22 rfl ?_
    refine a_iload_n (pc := 21) dX11_push_21 rfl ?_
    refine a_ial (pc := 22) _ dX11_push_22 rfl rfl (by omega) ?_
    rw [hn]
    refine a_iadd (pc := 23) dX11_push_23 ?_
    try rw [nI_add]
    refine a_istore (pc := 24) (ls' := [_, _, _, _, _, _]) dX11_push_24 (Nat.le_of_ble_eq_true rfl) rfl ?_
    refine a_aload_n (pc := 26) dX11_push_26 rfl ?_
    refine a_gr (pc := 27) dX11_push_27 fX11_13 rfl ?_
    refine a_iload (pc := 30) dX11_push_30 rfl ?_
    refine a_iload_n (pc := 32) dX11_push_32 rfl ?_
    refine a_ast (pc := 33) _ dX11_push_33 rfl rfl (by omega) ?_
    refine a_aload_n (pc := 34) dX11_push_34 rfl ?_
    refine a_gr (pc := 35) dX11_push_35 fX11_16 rfl ?_
    refine a_iload (pc := 38) dX11_push_38 rfl ?_
    refine a_iload_n (pc := 40) dX11_push_40 rfl ?_
    refine a_ast (pc := 41) _ dX11_push_41 rfl rfl (by omega) ?_
    refine a_aload_n (pc := 42) dX11_push_42 rfl ?_
    refine a_gr (pc := 43) dX11_push_43 fX11_19 rfl ?_
    refine a_iload (pc := 46) dX11_push_46 rfl ?_
    refine a_iload (pc := 48) dX11_push_48 rfl ?_
    refine a_ast (pc := 50) _ dX11_push_50 rfl rfl (by omega) ?_
    refine a_aload_n (pc := 51) dX11_push_51 rfl ?_
    refine a_gr (pc := 52) dX11_push_52 fX11_22 rfl ?_
    refine a_iload_n (pc := 55) dX11_push_55 rfl ?_
    refine a_dup2 (pc := 56) dX11_push_56 rfl rfl ?_
    refine a_ial (pc := 57) _ dX11_push_57 rfl rfl (by omega) ?_
    simp only [gF_pF, gF_pA, gF_pL, gA_pF, gA_pA, gA_pL, gL_pF, gL_pA, gL_pL, reduceIte, Nat.reduceEqDiff, and_false, false_and, and_true, true_and, and_self, hn]
    refine a_iconst (pc := 58) (nI 1) dX11_push_58 (by decide) ?_
    refine a_iadd (pc := 59) dX11_push_59 ?_
    try rw [nI_add]
    refine a_ast (pc := 60) _ dX11_push_60 rfl rfl (by omega) ?_
    refine a_aload_n (pc := 61) dX11_push_61 rfl ?_
    refine a_dup (pc := 62) dX11_push_62 rfl ?_
    refine a_gi (pc := 63) dX11_push_63 fX11_107 rfl ?_
    refine a_iload_n (pc := 66) dX11_push_66 rfl ?_
    simp only [gF_pF, gF_pA, gF_pL, gA_pF, gA_pA, gA_pL, gL_pF, gL_pA, gL_pL, reduceIte, Nat.reduceEqDiff, and_false, false_and, and_true, true_and, and_self, hn]
    refine AW_val2 80 (if d = 0 ∧ s ≠ -1 then nI 1 else nI 0) (fun hJ => ?_) ?_
    · refine a_if_neN (pc := 67) 79 dX11_push_67 (by decide) (by omega) (fun c1 => ?_) (fun c1 => ?_)
      · refine a_iconst (pc := 79) (nI 0) dX11_push_79 (by decide) ?_
        exact AW_top (by rw [if_neg (by omega)]) hJ
      · refine a_iload_n (pc := 70) dX11_push_70 rfl ?_
        refine a_iconst (pc := 71) (-1) dX11_push_71 (by decide) ?_
        refine a_icmp_eq (pc := 72) 79 dX11_push_72 (by decide) (fun cc => ?_) (fun cc => ?_)
        · refine a_iconst (pc := 79) (nI 0) dX11_push_79 (by decide) ?_
          exact AW_top (by rw [if_neg (by simp [cc])]) hJ
        · refine a_iconst (pc := 75) (nI 1) dX11_push_75 (by decide) ?_
          refine a_goto (pc := 76) 80 dX11_push_76 (by decide) ?_
          exact AW_top (by rw [if_pos ⟨c1, cc⟩]) hJ
    · refine a_iadd (pc := 80) dX11_push_80 ?_
      try rw [nI_add]
      refine a_pi (pc := 81) dX11_push_81 fX11_107 rfl ?_
      refine a_iconst (pc := 84) (nI 1) dX11_push_84 (by decide) ?_
      refine ret _ _ 85 _ _ dX11_push_85 rfl (by first | exact Or.inl rfl | exact Or.inr rfl | exact bI_01 _) ?_
      exact ⟨rfl, rfl, rfl⟩
  · exact absurd cc (by omega)
set_option maxRecDepth 100000 in
theorem c_push0 {d0 kd kp rp : Nat} {g : GH} (d : Nat) (s a b : Int32) (hd : d < 3) (hn : gA g 81 d = nI 60) : ACi mX11_push d0 (SS kd kp rp) g [.ref 76, .int (nI d), .int s, .int a, .int b] (fun r S' g' => S' = SS kd kp rp ∧ g' = g ∧ r = nI 0) := by
  refine ACz.of lcX11_push rfl rfl (fun X Q ad hR ret => ?_)
  refine AW_ls (ls' := [_, _, _, _, _, _]) rfl ?_
  refine a_aload_n (pc := 0) dX11_push_0 rfl ?_
  refine a_gr (pc := 1) dX11_push_1 fX11_22 rfl ?_
  refine a_iload_n (pc := 4) dX11_push_4 rfl ?_
  refine a_ial (pc := 5) _ dX11_push_5 rfl rfl (by omega) ?_
  rw [hn]
  refine a_bipush (pc := 6) (nI 60) dX11_push_6 (by decide) ?_
  refine a_icmp_neN (pc := 8) 13 dX11_push_8 (by decide) (by omega) (by omega) (fun cc => ?_) (fun cc => ?_)
  · exact absurd rfl cc
  · refine a_iconst (pc := 11) (nI 0) dX11_push_11 (by decide) ?_
    refine ret _ _ 12 _ _ dX11_push_12 rfl (by first | exact Or.inl rfl | exact Or.inr rfl | exact bI_01 _) ?_
    exact ⟨rfl, rfl, rfl⟩
set_option maxRecDepth 100000 in
theorem c_isPart {d0 : Nat} {S : sH} {g : GH} (s p : Int32) : ACi mX11_isPart (d0 + 1) S g [.int s, .int p] (fun r S' g' => S' = S ∧ g' = g ∧ r = bI ((decide (nI 0 ≤ s) && decide (s ≤ nI 15)) && (decide (nI 0 ≤ p) && decide (p ≤ nI 1)))) := by
  refine ACz.of lcX11_isPart rfl rfl (fun X Q ad hR ret => ?_)
  refine AW_ls (ls' := [_, _]) rfl ?_
  refine a_iload_n (pc := 0) dX11_isPart_0 rfl ?_
  refine a_iconst (pc := 1) (nI 0) dX11_isPart_1 (by decide) ?_
  refine a_bipush (pc := 2) (nI 15) dX11_isPart_2 (by decide) ?_
  refine a_S3i (pc := 4) dX11_isPart_4 lcX11_in lX11_110 (fit_of hR (by omega) rfl) (c_in (d := d0) s (nI 0) (nI 15)) rfl rfl (ex_i ?_)
  refine a_if_eqB (pc := 7) 23 dX11_isPart_7 (by decide) (fun c1 => ?_) (fun c1 => ?_)
  · refine a_iconst (pc := 23) (nI 0) dX11_isPart_23 (by decide) ?_
    refine ret _ _ 24 _ _ dX11_isPart_24 rfl (by first | exact Or.inl rfl | exact Or.inr rfl | exact bI_01 _) ?_
    exact ⟨rfl, rfl, by rw [c1]; rfl⟩
  · refine a_iload_n (pc := 10) dX11_isPart_10 rfl ?_
    refine a_iconst (pc := 11) (nI 0) dX11_isPart_11 (by decide) ?_
    refine a_iconst (pc := 12) (nI 1) dX11_isPart_12 (by decide) ?_
    refine a_S3i (pc := 13) dX11_isPart_13 lcX11_in lX11_110 (fit_of hR (by omega) rfl) (c_in (d := d0) p (nI 0) (nI 1)) rfl rfl (ex_i ?_)
    refine a_if_eqB (pc := 16) 23 dX11_isPart_16 (by decide) (fun cc => ?_) (fun cc => ?_)
    · refine a_iconst (pc := 23) (nI 0) dX11_isPart_23 (by decide) ?_
      refine ret _ _ 24 _ _ dX11_isPart_24 rfl (by first | exact Or.inl rfl | exact Or.inr rfl | exact bI_01 _) ?_
      exact ⟨rfl, rfl, by rw [c1, cc]; rfl⟩
    · refine a_iconst (pc := 19) (nI 1) dX11_isPart_19 (by decide) ?_
      refine a_goto (pc := 20) 24 dX11_isPart_20 (by decide) ?_
      refine ret _ _ 24 _ _ dX11_isPart_24 rfl (by first | exact Or.inl rfl | exact Or.inr rfl | exact bI_01 _) ?_
      exact ⟨rfl, rfl, by rw [c1, cc]; rfl⟩
theorem c_high {d0 : Nat} {S : sH} {g : GH} (v : Int64) : ACi mX11_high d0 S g [.long v] (fun r S' g' => S' = S ∧ g' = g ∧ r = hi32 v) := by
  refine ACi.of lcX11_high rfl rfl (fun X Q ad hR ret => ?_)
  refine AW_ls (ls' := [_, _]) rfl ?_
  refine a_lload_n (pc := 0) dX11_high_0 rfl ?_
  refine a_bipush (pc := 1) (nI 32) dX11_high_1 (by decide) ?_
  refine a_lshr (pc := 3) dX11_high_3 ?_
  refine a_l2i (pc := 4) dX11_high_4 ?_
  refine ret _ _ 5 _ _ dX11_high_5 rfl ?_
  exact ⟨rfl, rfl, rfl⟩
theorem c_joined {d0 : Nat} {S : sH} {g : GH} (a b : Int32) : ACl mX11_joined d0 S g [.int a, .int b] (fun r S' g' => S' = S ∧ g' = g ∧ r = jn64 a b) := by
  refine ACl.of lcX11_joined rfl rfl (fun X Q ad hR ret => ?_)
  refine AW_ls (ls' := [_, _]) rfl ?_
  refine a_iload_n (pc := 0) dX11_joined_0 rfl ?_
  refine a_i2l (pc := 1) dX11_joined_1 ?_
  refine a_bipush (pc := 2) (nI 32) dX11_joined_2 (by decide) ?_
  refine a_lshl (pc := 4) dX11_joined_4 ?_
  refine a_iload_n (pc := 5) dX11_joined_5 rfl ?_
  refine a_i2l (pc := 6) dX11_joined_6 ?_
  refine a_ldc2 (pc := 7) 4294967295 dX11_joined_7 (gW_in 1224 (by decide +kernel) rfl) ?_
  refine a_land (pc := 10) dX11_joined_10 ?_
  refine a_lor (pc := 11) dX11_joined_11 ?_
  refine ret _ _ 12 _ _ dX11_joined_12 rfl ?_
  exact ⟨rfl, rfl, rfl⟩
set_option maxRecDepth 100000 in
theorem c_sum {d0 : Nat} {S : sH} {g : GH} (n k kh kl l lh ll : Int32) : ACi mX11_sum d0 S g [.int n, .int k, .int kh, .int kl, .int l, .int lh, .int ll] (fun r S' g' => S' = S ∧ g' = g ∧ r = sum7 n k kh kl l lh ll) := by
  refine ACi.of lcX11_sum rfl rfl (fun X Q ad hR ret => ?_)
  refine AW_ls (ls' := [_, _, _, _, _, _, _, _]) rfl ?_
  refine a_bipush (pc := 0) (nI 31) dX11_sum_0 (by decide) ?_
  refine a_iload_n (pc := 2) dX11_sum_2 rfl ?_
  refine a_imul (pc := 3) dX11_sum_3 ?_
  try rw [pk_mul]
  refine a_iload_n (pc := 4) dX11_sum_4 rfl ?_
  refine a_iadd (pc := 5) dX11_sum_5 ?_
  try rw [nI_add]
  refine a_istore (pc := 6) (ls' := [_, _, _, _, _, _, _, _]) dX11_sum_6 (Nat.le_of_ble_eq_true rfl) rfl ?_
  refine a_bipush (pc := 8) (nI 31) dX11_sum_8 (by decide) ?_
  refine a_iload (pc := 10) dX11_sum_10 rfl ?_
  refine a_imul (pc := 12) dX11_sum_12 ?_
  try rw [pk_mul]
  refine a_iload_n (pc := 13) dX11_sum_13 rfl ?_
  refine a_iadd (pc := 14) dX11_sum_14 ?_
  try rw [nI_add]
  refine a_istore (pc := 15) (ls' := [_, _, _, _, _, _, _, _]) dX11_sum_15 (Nat.le_of_ble_eq_true rfl) rfl ?_
  refine a_bipush (pc := 17) (nI 31) dX11_sum_17 (by decide) ?_
  refine a_iload (pc := 19) dX11_sum_19 rfl ?_
  refine a_imul (pc := 21) dX11_sum_21 ?_
  try rw [pk_mul]
  refine a_iload_n (pc := 22) dX11_sum_22 rfl ?_
  refine a_iadd (pc := 23) dX11_sum_23 ?_
  try rw [nI_add]
  refine a_istore (pc := 24) (ls' := [_, _, _, _, _, _, _, _]) dX11_sum_24 (Nat.le_of_ble_eq_true rfl) rfl ?_
  refine a_bipush (pc := 26) (nI 31) dX11_sum_26 (by decide) ?_
  refine a_iload (pc := 28) dX11_sum_28 rfl ?_
  refine a_imul (pc := 30) dX11_sum_30 ?_
  try rw [pk_mul]
  refine a_iload (pc := 31) dX11_sum_31 rfl ?_
  refine a_iadd (pc := 33) dX11_sum_33 ?_
  try rw [nI_add]
  refine a_istore (pc := 34) (ls' := [_, _, _, _, _, _, _, _]) dX11_sum_34 (Nat.le_of_ble_eq_true rfl) rfl ?_
  refine a_bipush (pc := 36) (nI 31) dX11_sum_36 (by decide) ?_
  refine a_iload (pc := 38) dX11_sum_38 rfl ?_
  refine a_imul (pc := 40) dX11_sum_40 ?_
  try rw [pk_mul]
  refine a_iload (pc := 41) dX11_sum_41 rfl ?_
  refine a_iadd (pc := 43) dX11_sum_43 ?_
  try rw [nI_add]
  refine a_istore (pc := 44) (ls' := [_, _, _, _, _, _, _, _]) dX11_sum_44 (Nat.le_of_ble_eq_true rfl) rfl ?_
  refine a_iconst (pc := 46) (nI 2) dX11_sum_46 (by decide) ?_
  refine a_bipush (pc := 47) (nI 31) dX11_sum_47 (by decide) ?_
  refine a_iload (pc := 49) dX11_sum_49 rfl ?_
  refine a_imul (pc := 51) dX11_sum_51 ?_
  try rw [pk_mul]
  refine a_iload (pc := 52) dX11_sum_52 rfl ?_
  refine a_iadd (pc := 54) dX11_sum_54 ?_
  try rw [nI_add]
  refine a_imul (pc := 55) dX11_sum_55 ?_
  try rw [pk_mul]
  refine a_iconst (pc := 56) (nI 1) dX11_sum_56 (by decide) ?_
  refine a_iadd (pc := 57) dX11_sum_57 ?_
  try rw [nI_add]
  refine ret _ _ 58 _ _ dX11_sum_58 rfl ?_
  exact ⟨rfl, rfl, rfl⟩
set_option maxRecDepth 100000 in
theorem c_placeOf {d0 : Nat} {S : sH} {g : GH} (k : Nat) (v : Int32) : ACi mX11_placeOf d0 S g [.int (nI k), .int v] (fun r S' g' => S' = S ∧ g' = g ∧ r = nI (if v &&& nI 1 = nI 1 then k else 4 + k)) := by
  refine ACi.of lcX11_placeOf rfl rfl (fun X Q ad hR ret => ?_)
  refine AW_ls (ls' := [_, _]) rfl ?_
  refine a_iload_n (pc := 0) dX11_placeOf_0 rfl ?_
  refine a_iconst (pc := 1) (nI 1) dX11_placeOf_1 (by decide) ?_
  refine a_iand (pc := 2) dX11_placeOf_2 ?_
  refine a_iconst (pc := 3) (nI 1) dX11_placeOf_3 (by decide) ?_
  refine a_icmp_ne (pc := 4) 11 dX11_placeOf_4 (by decide) (fun cc => ?_) (fun cc => ?_)
  · refine a_iconst (pc := 11) (nI 4) dX11_placeOf_11 (by decide) ?_
    refine a_iload_n (pc := 12) dX11_placeOf_12 rfl ?_
    refine a_iadd (pc := 13) dX11_placeOf_13 ?_
    try rw [nI_add]
    refine ret _ _ 14 _ _ dX11_placeOf_14 rfl ?_
    exact ⟨rfl, rfl, by rw [if_neg cc]⟩
  · refine a_iload_n (pc := 7) dX11_placeOf_7 rfl ?_
    refine a_goto (pc := 8) 14 dX11_placeOf_8 (by decide) ?_
    refine ret _ _ 14 _ _ dX11_placeOf_14 rfl ?_
    exact ⟨rfl, rfl, by rw [if_pos cc]⟩
