set_option maxRecDepth 100000 in
theorem c_mmove1 {d0 kd kp rp : Nat} {g : GH} (k l : Int32) (hk : gF g 76 6 = -1) : ACi mX11_move (d0 + 1) (SS kd kp rp) g [.ref 76, .int k, .int l] (fun r S' g' => S' = SS kd kp rp ∧ g' = rfu (th0 g) 5 ∧ r = -nI 5) := by
  refine ACi.of lcX11_move rfl rfl (fun X Q ad hR ret => ?_)
  refine AW_ls (ls' := [_, _, _]) rfl ?_
  refine a_aload_n (pc := 0) dX11_move_0 rfl ?_
  refine a_iconst (pc := 1) (nI 0) dX11_move_1 (by decide) ?_
  refine a_pi (pc := 2) dX11_move_2 fX11_104 rfl ?_
  refine a_aload_n (pc := 5) dX11_move_5 rfl ?_
  refine a_gi (pc := 6) dX11_move_6 fX11_25 rfl ?_
  simp only [gF_pF, gF_pA, gF_pL, gA_pF, gA_pA, gA_pL, gL_pF, gL_pA, gL_pL, reduceIte, Nat.reduceEqDiff, and_false, false_and, and_true, true_and, and_self, hk]
  refine a_if_ge (pc := 9) 19 dX11_move_9 (by decide) (fun cc => ?_) (fun cc => ?_)
  · exact absurd cc (by decide)
  · refine a_aload_n (pc := 12) dX11_move_12 rfl ?_
    refine a_bipush (pc := 13) (-5) dX11_move_13 (by decide) ?_
    refine a_V1i (pc := 15) 10 dX11_move_15 lcX11_refuse lX11_114 rfl rfl rfl (fit_of hR (by omega) rfl) (c_refuse (d := d0) 5 (by decide)) rfl rfl (ex_i ?_)
    refine ret _ _ 18 _ _ dX11_move_18 rfl ?_
    exact ⟨rfl, rfl, rfl⟩
def twoK (k l : Int32) : Bool := insQ k (nI 0) (nI 2) && (insQ l (nI 0) (nI 2) && !decide (k = l))
set_option maxRecDepth 100000 in
theorem c_mmove2 {d0 kd kp rp : Nat} {g : GH} (k l : Int32) (st : Nat) (hst : st < 3) (hk : gF g 76 6 = nI st) (hs : twoK k l = false) : ACi mX11_move (d0 + 1) (SS kd kp rp) g [.ref 76, .int k, .int l] (fun r S' g' => S' = SS kd kp rp ∧ g' = rfu (th0 g) 1 ∧ r = -nI 1) := by
  refine ACi.of lcX11_move rfl rfl (fun X Q ad hR ret => ?_)
  refine AW_ls (ls' := [_, _, _]) rfl ?_
  refine a_aload_n (pc := 0) dX11_move_0 rfl ?_
  refine a_iconst (pc := 1) (nI 0) dX11_move_1 (by decide) ?_
  refine a_pi (pc := 2) dX11_move_2 fX11_104 rfl ?_
  refine a_aload_n (pc := 5) dX11_move_5 rfl ?_
  refine a_gi (pc := 6) dX11_move_6 fX11_25 rfl ?_
  simp only [gF_pF, gF_pA, gF_pL, gA_pF, gA_pA, gA_pL, gL_pF, gL_pA, gL_pL, reduceIte, Nat.reduceEqDiff, and_false, false_and, and_true, true_and, and_self, hk]
  have no : AW mX11_move X Q ad 0 0 (conc (SS kd kp rp) (pF g 76 0 (nI 0))) 42 [some (.ref 76), some (.int k), some (.int l)] [] := by
    refine a_aload_n (pc := 42) dX11_move_42 rfl ?_
    refine a_iconst (pc := 43) (-1) dX11_move_43 (by decide) ?_
    refine a_V1i (pc := 44) 10 dX11_move_44 lcX11_refuse lX11_114 rfl rfl rfl (fit_of hR (by omega) rfl) (c_refuse (d := d0) 1 (by decide)) rfl rfl (ex_i ?_)
    refine ret _ _ 47 _ _ dX11_move_47 rfl ?_
    exact ⟨rfl, rfl, rfl⟩
  refine a_if_geN (pc := 9) 19 dX11_move_9 (by decide) (by omega) (fun c1 => ?_) (fun c1 => ?_)
  · refine a_iload_n (pc := 19) dX11_move_19 rfl ?_
    refine a_iconst (pc := 20) (nI 0) dX11_move_20 (by decide) ?_
    refine a_iconst (pc := 21) (nI 2) dX11_move_21 (by decide) ?_
    refine a_S3i (pc := 22) dX11_move_22 lcX11_in lX11_110 (fit_of hR (by omega) rfl) (c_in (d := d0) k (nI 0) (nI 2)) rfl rfl (ex_i ?_)
    refine a_if_eqB (pc := 25) 42 dX11_move_25 (by decide) (fun c2 => ?_) (fun c2 => ?_)
    · exact no
    · refine a_iload_n (pc := 28) dX11_move_28 rfl ?_
      refine a_iconst (pc := 29) (nI 0) dX11_move_29 (by decide) ?_
      refine a_iconst (pc := 30) (nI 2) dX11_move_30 (by decide) ?_
      refine a_S3i (pc := 31) dX11_move_31 lcX11_in lX11_110 (fit_of hR (by omega) rfl) (c_in (d := d0) l (nI 0) (nI 2)) rfl rfl (ex_i ?_)
      refine a_if_eqB (pc := 34) 42 dX11_move_34 (by decide) (fun c3 => ?_) (fun c3 => ?_)
      · exact no
      · refine a_iload_n (pc := 37) dX11_move_37 rfl ?_
        refine a_iload_n (pc := 38) dX11_move_38 rfl ?_
        refine a_icmp_ne (pc := 39) 48 dX11_move_39 (by decide) (fun c4 => ?_) (fun c4 => ?_)
        · exfalso
          have h2 : insQ k (nI 0) (nI 2) = true := c2
          have h3 : insQ l (nI 0) (nI 2) = true := c3
          simp [twoK, h2, h3, c4] at hs
        · exact no
  · exact absurd c1 (by omega)
def movL (g : GH) (st n k l : Nat) : List En := chg st (gA g 82) (verA (gA g 77) (gA g 78) (gA g 79) (gA g 80) 0 n) (fun x => (keyA (gA g 77) (gA g 78) (gA g 79) (gA g 80) 0 2 x n)) l (keyA (gA g 77) (gA g 78) (gA g 79) (gA g 80) 0 st k n) (some k)
set_option maxRecDepth 100000 in
theorem c_mmove3 {d0 kd kp rp : Nat} {g : GH} (k l st n : Nat) (hst : st < 3) (hk : gF g 76 6 = nI st) (hk3 : k < 3) (hl3 : l < 3) (hkl : k ≠ l) (hn : gA g 81 0 = nI n) (hf : n + (movL g st n k l).length ≤ 60) : ACi mX11_move (d0 + 5) (SS kd kp rp) g [.ref 76, .int (nI k), .int (nI l)] (fun r S' g' => S' = SS kd kp rp ∧ g' = pushL (plA (th0 g) (movL g st n k l)) 0 n (movL g st n k l) ∧ r = nI (movL g st n k l).length) := by
  have hs : insQ (nI k) (nI 0) (nI 2) = true := (insQ_ok (by decide)).mpr ⟨k, by omega, rfl⟩
  have hs2 : insQ (nI l) (nI 0) (nI 2) = true := (insQ_ok (by decide)).mpr ⟨l, by omega, rfl⟩
  have h11 : (movL g st n k l).length ≤ 11 := chg_len _ _ _ _ _ _ _
  refine ACi.of lcX11_move rfl rfl (fun X Q ad hR ret => ?_)
  refine AW_ls (ls' := [_, _, _]) rfl ?_
  refine a_aload_n (pc := 0) dX11_move_0 rfl ?_
  refine a_iconst (pc := 1) (nI 0) dX11_move_1 (by decide) ?_
  refine a_pi (pc := 2) dX11_move_2 fX11_104 rfl ?_
  refine a_aload_n (pc := 5) dX11_move_5 rfl ?_
  refine a_gi (pc := 6) dX11_move_6 fX11_25 rfl ?_
  simp only [gF_pF, gF_pA, gF_pL, gA_pF, gA_pA, gA_pL, gL_pF, gL_pA, gL_pL, reduceIte, Nat.reduceEqDiff, and_false, false_and, and_true, true_and, and_self, hk]
  refine a_if_geN (pc := 9) 19 dX11_move_9 (by decide) (by omega) (fun c1 => ?_) (fun c1 => ?_)
  · refine a_iload_n (pc := 19) dX11_move_19 rfl ?_
    refine a_iconst (pc := 20) (nI 0) dX11_move_20 (by decide) ?_
    refine a_iconst (pc := 21) (nI 2) dX11_move_21 (by decide) ?_
    refine a_S3i (pc := 22) dX11_move_22 lcX11_in lX11_110 (fit_of hR (by omega) rfl) (c_in (d := d0) (nI k) (nI 0) (nI 2)) rfl rfl (ex_i ?_)
    refine a_if_eqB (pc := 25) 42 dX11_move_25 (by decide) (fun c2 => ?_) (fun c2 => ?_)
    · exact absurd (hs.symm.trans c2) (by decide)
    · refine a_iload_n (pc := 28) dX11_move_28 rfl ?_
      refine a_iconst (pc := 29) (nI 0) dX11_move_29 (by decide) ?_
      refine a_iconst (pc := 30) (nI 2) dX11_move_30 (by decide) ?_
      refine a_S3i (pc := 31) dX11_move_31 lcX11_in lX11_110 (fit_of hR (by omega) rfl) (c_in (d := d0) (nI l) (nI 0) (nI 2)) rfl rfl (ex_i ?_)
      refine a_if_eqB (pc := 34) 42 dX11_move_34 (by decide) (fun c3 => ?_) (fun c3 => ?_)
      · exact absurd (hs2.symm.trans c3) (by decide)
      · refine a_iload_n (pc := 37) dX11_move_37 rfl ?_
        refine a_iload_n (pc := 38) dX11_move_38 rfl ?_
        refine a_icmp_neN (pc := 39) 48 dX11_move_39 (by decide) (by omega) (by omega) (fun c4 => ?_) (fun c4 => ?_)
        · refine a_aload_n (pc := 48) dX11_move_48 rfl ?_
          refine a_iconst (pc := 49) (nI 0) dX11_move_49 (by decide) ?_
          refine a_aload_n (pc := 50) dX11_move_50 rfl ?_
          refine a_gi (pc := 51) dX11_move_51 fX11_25 rfl ?_
          simp only [gF_pF, gF_pA, gF_pL, gA_pF, gA_pA, gA_pL, gL_pF, gL_pA, gL_pL, reduceIte, Nat.reduceEqDiff, and_false, false_and, and_true, true_and, and_self, hk]
          refine a_iload_n (pc := 54) dX11_move_54 rfl ?_
          refine a_aload_n (pc := 55) dX11_move_55 rfl ?_
          refine a_iconst (pc := 56) (nI 0) dX11_move_56 (by decide) ?_
          refine a_aload_n (pc := 57) dX11_move_57 rfl ?_
          refine a_gi (pc := 58) dX11_move_58 fX11_25 rfl ?_
          simp only [gF_pF, gF_pA, gF_pL, gA_pF, gA_pA, gA_pL, gL_pF, gL_pA, gL_pL, reduceIte, Nat.reduceEqDiff, and_false, false_and, and_true, true_and, and_self, hk]
          refine a_iload_n (pc := 61) dX11_move_61 rfl ?_
          refine a_V3l (pc := 62) 10 dX11_move_62 lcX11_keyOf lX11_210 rfl rfl rfl (fit_of hR (by omega) rfl) (c_keyOf (d0 := d0) 0 st k n (by decide) hst hk3 hn (by omega)) rfl rfl (ex_l ?_)
          refine a_iload_n (pc := 65) dX11_move_65 rfl ?_
          refine a_lconst (pc := 66) 0 dX11_move_66 (by decide) ?_
          refine a_V6v (pc := 67) 10 dX11_move_67 lcX11_planChange lX11_214 rfl rfl rfl (fit_of hR (by omega) rfl) (c_planChange (d0 := d0) 0 st l n _ (some k) (by decide) hst hl3 (fun z h => by cases h; exact hk3) hn (by omega)) rfl rfl (ex_v ?_)
          refine a_aload_n (pc := 70) dX11_move_70 rfl ?_
          refine a_V0i (pc := 71) 10 dX11_move_71 lcX11_takePlan lX11_218 rfl rfl rfl (fit_of hR (by omega) rfl) (c_takePlan (d0 := d0) (g := th0 g) (movL g st n k l) n (by omega) hn hf) rfl rfl (ex_i ?_)
          refine ret _ _ 74 _ _ dX11_move_74 rfl ?_
          exact ⟨rfl, rfl, rfl⟩
        · exact absurd c4 hkl
  · exact absurd c1 (by omega)
set_option maxRecDepth 100000 in
theorem c_mmove4 {d0 kd kp rp : Nat} {g : GH} (k l st n : Nat) (hst : st < 3) (hk : gF g 76 6 = nI st) (hk3 : k < 3) (hl3 : l < 3) (hkl : k ≠ l) (hn : gA g 81 0 = nI n) (hn60 : n ≤ 60) (hf : 60 < n + (movL g st n k l).length) : ACi mX11_move (d0 + 5) (SS kd kp rp) g [.ref 76, .int (nI k), .int (nI l)] (fun r S' g' => S' = SS kd kp rp ∧ g' = rfu (plA (th0 g) (movL g st n k l)) 6 ∧ r = -nI 6) := by
  have hs : insQ (nI k) (nI 0) (nI 2) = true := (insQ_ok (by decide)).mpr ⟨k, by omega, rfl⟩
  have hs2 : insQ (nI l) (nI 0) (nI 2) = true := (insQ_ok (by decide)).mpr ⟨l, by omega, rfl⟩
  have h11 : (movL g st n k l).length ≤ 11 := chg_len _ _ _ _ _ _ _
  refine ACi.of lcX11_move rfl rfl (fun X Q ad hR ret => ?_)
  refine AW_ls (ls' := [_, _, _]) rfl ?_
  refine a_aload_n (pc := 0) dX11_move_0 rfl ?_
  refine a_iconst (pc := 1) (nI 0) dX11_move_1 (by decide) ?_
  refine a_pi (pc := 2) dX11_move_2 fX11_104 rfl ?_
  refine a_aload_n (pc := 5) dX11_move_5 rfl ?_
  refine a_gi (pc := 6) dX11_move_6 fX11_25 rfl ?_
  simp only [gF_pF, gF_pA, gF_pL, gA_pF, gA_pA, gA_pL, gL_pF, gL_pA, gL_pL, reduceIte, Nat.reduceEqDiff, and_false, false_and, and_true, true_and, and_self, hk]
  refine a_if_geN (pc := 9) 19 dX11_move_9 (by decide) (by omega) (fun c1 => ?_) (fun c1 => ?_)
  · refine a_iload_n (pc := 19) dX11_move_19 rfl ?_
    refine a_iconst (pc := 20) (nI 0) dX11_move_20 (by decide) ?_
    refine a_iconst (pc := 21) (nI 2) dX11_move_21 (by decide) ?_
    refine a_S3i (pc := 22) dX11_move_22 lcX11_in lX11_110 (fit_of hR (by omega) rfl) (c_in (d := d0) (nI k) (nI 0) (nI 2)) rfl rfl (ex_i ?_)
    refine a_if_eqB (pc := 25) 42 dX11_move_25 (by decide) (fun c2 => ?_) (fun c2 => ?_)
    · exact absurd (hs.symm.trans c2) (by decide)
    · refine a_iload_n (pc := 28) dX11_move_28 rfl ?_
      refine a_iconst (pc := 29) (nI 0) dX11_move_29 (by decide) ?_
      refine a_iconst (pc := 30) (nI 2) dX11_move_30 (by decide) ?_
      refine a_S3i (pc := 31) dX11_move_31 lcX11_in lX11_110 (fit_of hR (by omega) rfl) (c_in (d := d0) (nI l) (nI 0) (nI 2)) rfl rfl (ex_i ?_)
      refine a_if_eqB (pc := 34) 42 dX11_move_34 (by decide) (fun c3 => ?_) (fun c3 => ?_)
      · exact absurd (hs2.symm.trans c3) (by decide)
      · refine a_iload_n (pc := 37) dX11_move_37 rfl ?_
        refine a_iload_n (pc := 38) dX11_move_38 rfl ?_
        refine a_icmp_neN (pc := 39) 48 dX11_move_39 (by decide) (by omega) (by omega) (fun c4 => ?_) (fun c4 => ?_)
        · refine a_aload_n (pc := 48) dX11_move_48 rfl ?_
          refine a_iconst (pc := 49) (nI 0) dX11_move_49 (by decide) ?_
          refine a_aload_n (pc := 50) dX11_move_50 rfl ?_
          refine a_gi (pc := 51) dX11_move_51 fX11_25 rfl ?_
          simp only [gF_pF, gF_pA, gF_pL, gA_pF, gA_pA, gA_pL, gL_pF, gL_pA, gL_pL, reduceIte, Nat.reduceEqDiff, and_false, false_and, and_true, true_and, and_self, hk]
          refine a_iload_n (pc := 54) dX11_move_54 rfl ?_
          refine a_aload_n (pc := 55) dX11_move_55 rfl ?_
          refine a_iconst (pc := 56) (nI 0) dX11_move_56 (by decide) ?_
          refine a_aload_n (pc := 57) dX11_move_57 rfl ?_
          refine a_gi (pc := 58) dX11_move_58 fX11_25 rfl ?_
          simp only [gF_pF, gF_pA, gF_pL, gA_pF, gA_pA, gA_pL, gL_pF, gL_pA, gL_pL, reduceIte, Nat.reduceEqDiff, and_false, false_and, and_true, true_and, and_self, hk]
          refine a_iload_n (pc := 61) dX11_move_61 rfl ?_
          refine a_V3l (pc := 62) 10 dX11_move_62 lcX11_keyOf lX11_210 rfl rfl rfl (fit_of hR (by omega) rfl) (c_keyOf (d0 := d0) 0 st k n (by decide) hst hk3 hn (by omega)) rfl rfl (ex_l ?_)
          refine a_iload_n (pc := 65) dX11_move_65 rfl ?_
          refine a_lconst (pc := 66) 0 dX11_move_66 (by decide) ?_
          refine a_V6v (pc := 67) 10 dX11_move_67 lcX11_planChange lX11_214 rfl rfl rfl (fit_of hR (by omega) rfl) (c_planChange (d0 := d0) 0 st l n _ (some k) (by decide) hst hl3 (fun z h => by cases h; exact hk3) hn (by omega)) rfl rfl (ex_v ?_)
          refine a_aload_n (pc := 70) dX11_move_70 rfl ?_
          refine a_V0i (pc := 71) 10 dX11_move_71 lcX11_takePlan lX11_218 rfl rfl rfl (fit_of hR (by omega) rfl) (c_takePlanR (d0 := d0) (g := th0 g) (movL g st n k l) n (by omega) hn hn60 hf) rfl rfl (ex_i ?_)
          refine ret _ _ 74 _ _ dX11_move_74 rfl ?_
          exact ⟨rfl, rfl, rfl⟩
        · exact absurd c4 hkl
  · exact absurd c1 (by omega)
set_option maxRecDepth 100000 in
theorem c_mget1 {d0 kd kp rp : Nat} {g : GH} (k : Int32) (hk : gF g 76 6 = -1) : ACl mX11_get (d0 + 1) (SS kd kp rp) g [.ref 76, .int k] (fun r S' g' => S' = SS kd kp rp ∧ g' = pF g 76 0 (nI 1) ∧ r = 0) := by
  refine ACl.of lcX11_get rfl rfl (fun X Q ad hR ret => ?_)
  refine AW_ls (ls' := [_, _]) rfl ?_
  refine a_aload_n (pc := 0) dX11_get_0 rfl ?_
  refine a_aload_n (pc := 1) dX11_get_1 rfl ?_
  refine a_gi (pc := 2) dX11_get_2 fX11_25 rfl ?_
  rw [hk]
  refine a_if_ge (pc := 5) 12 dX11_get_5 (by decide) (fun cc => ?_) (fun cc => ?_)
  · exact absurd cc (by decide)
  · refine a_iconst (pc := 8) (nI 1) dX11_get_8 (by decide) ?_
    refine a_goto (pc := 9) 26 dX11_get_9 (by decide) ?_
    refine a_pi (pc := 26) dX11_get_26 fX11_104 rfl ?_
    refine a_aload_n (pc := 29) dX11_get_29 rfl ?_
    refine a_gi (pc := 30) dX11_get_30 fX11_104 rfl ?_
    simp only [gF_pF, gF_pA, gF_pL, gA_pF, gA_pA, gA_pL, gL_pF, gL_pA, gL_pL, reduceIte, Nat.reduceEqDiff, and_false, false_and, and_true, true_and, and_self]
    refine a_if_leN (pc := 33) 40 dX11_get_33 (by decide) (by omega) (fun c2 => ?_) (fun c2 => ?_)
    · exact absurd c2 (by decide)
    · refine a_lconst (pc := 36) 0 dX11_get_36 (by decide) ?_
      refine a_goto (pc := 37) 50 dX11_get_37 (by decide) ?_
      refine ret _ _ 50 _ _ dX11_get_50 rfl ?_
      exact ⟨rfl, rfl, rfl⟩
set_option maxRecDepth 100000 in
theorem c_mget2 {d0 kd kp rp : Nat} {g : GH} (k : Int32) (st : Nat) (hst : st < 3) (hk : gF g 76 6 = nI st) (hs : insQ k (nI 0) (nI 2) = false) : ACl mX11_get (d0 + 1) (SS kd kp rp) g [.ref 76, .int k] (fun r S' g' => S' = SS kd kp rp ∧ g' = pF g 76 0 (nI 2) ∧ r = 0) := by
  refine ACl.of lcX11_get rfl rfl (fun X Q ad hR ret => ?_)
  refine AW_ls (ls' := [_, _]) rfl ?_
  refine a_aload_n (pc := 0) dX11_get_0 rfl ?_
  refine a_aload_n (pc := 1) dX11_get_1 rfl ?_
  refine a_gi (pc := 2) dX11_get_2 fX11_25 rfl ?_
  rw [hk]
  refine a_if_geN (pc := 5) 12 dX11_get_5 (by decide) (by omega) (fun c1 => ?_) (fun c1 => ?_)
  · refine a_iload_n (pc := 12) dX11_get_12 rfl ?_
    refine a_iconst (pc := 13) (nI 0) dX11_get_13 (by decide) ?_
    refine a_iconst (pc := 14) (nI 2) dX11_get_14 (by decide) ?_
    refine a_S3i (pc := 15) dX11_get_15 lcX11_in lX11_110 (fit_of hR (by omega) rfl) (c_in (d := d0) k (nI 0) (nI 2)) rfl rfl (ex_i ?_)
    refine a_if_eqB (pc := 18) 25 dX11_get_18 (by decide) (fun cc => ?_) (fun cc => ?_)
    · refine a_iconst (pc := 25) (nI 2) dX11_get_25 (by decide) ?_
      refine a_pi (pc := 26) dX11_get_26 fX11_104 rfl ?_
      refine a_aload_n (pc := 29) dX11_get_29 rfl ?_
      refine a_gi (pc := 30) dX11_get_30 fX11_104 rfl ?_
      simp only [gF_pF, gF_pA, gF_pL, gA_pF, gA_pA, gA_pL, gL_pF, gL_pA, gL_pL, reduceIte, Nat.reduceEqDiff, and_false, false_and, and_true, true_and, and_self]
      refine a_if_leN (pc := 33) 40 dX11_get_33 (by decide) (by omega) (fun c2 => ?_) (fun c2 => ?_)
      · exact absurd c2 (by decide)
      · refine a_lconst (pc := 36) 0 dX11_get_36 (by decide) ?_
        refine a_goto (pc := 37) 50 dX11_get_37 (by decide) ?_
        refine ret _ _ 50 _ _ dX11_get_50 rfl ?_
        exact ⟨rfl, rfl, rfl⟩
    · exact absurd (cc.symm.trans hs) (by decide)
  · exact absurd c1 (by omega)
set_option maxRecDepth 100000 in
theorem c_mget3 {d0 kd kp rp : Nat} {g : GH} (k st n : Nat) (hst : st < 3) (hk : gF g 76 6 = nI st) (hk3 : k < 3) (hn : gA g 81 0 = nI n) (hn60 : n ≤ 60) : ACl mX11_get (d0 + 4) (SS kd kp rp) g [.ref 76, .int (nI k)] (fun r S' g' => S' = SS kd kp rp ∧ g' = th0 g ∧ r = (keyA (gA g 77) (gA g 78) (gA g 79) (gA g 80) 0 st k n)) := by
  have hs : insQ (nI k) (nI 0) (nI 2) = true := (insQ_ok (by decide)).mpr ⟨k, by omega, rfl⟩
  refine ACl.of lcX11_get rfl rfl (fun X Q ad hR ret => ?_)
  refine AW_ls (ls' := [_, _]) rfl ?_
  refine a_aload_n (pc := 0) dX11_get_0 rfl ?_
  refine a_aload_n (pc := 1) dX11_get_1 rfl ?_
  refine a_gi (pc := 2) dX11_get_2 fX11_25 rfl ?_
  rw [hk]
  refine a_if_geN (pc := 5) 12 dX11_get_5 (by decide) (by omega) (fun c1 => ?_) (fun c1 => ?_)
  · refine a_iload_n (pc := 12) dX11_get_12 rfl ?_
    refine a_iconst (pc := 13) (nI 0) dX11_get_13 (by decide) ?_
    refine a_iconst (pc := 14) (nI 2) dX11_get_14 (by decide) ?_
    refine a_S3i (pc := 15) dX11_get_15 lcX11_in lX11_110 (fit_of hR (by omega) rfl) (c_in (d := d0) (nI k) (nI 0) (nI 2)) rfl rfl (ex_i ?_)
    refine a_if_eqB (pc := 18) 25 dX11_get_18 (by decide) (fun cc => ?_) (fun cc => ?_)
    · exact absurd (hs.symm.trans cc) (by decide)
    · refine a_iconst (pc := 21) (nI 0) dX11_get_21 (by decide) ?_
      refine a_goto (pc := 22) 26 dX11_get_22 (by decide) ?_
      refine a_pi (pc := 26) dX11_get_26 fX11_104 rfl ?_
      refine a_aload_n (pc := 29) dX11_get_29 rfl ?_
      refine a_gi (pc := 30) dX11_get_30 fX11_104 rfl ?_
      simp only [gF_pF, gF_pA, gF_pL, gA_pF, gA_pA, gA_pL, gL_pF, gL_pA, gL_pL, reduceIte, Nat.reduceEqDiff, and_false, false_and, and_true, true_and, and_self]
      refine a_if_leN (pc := 33) 40 dX11_get_33 (by decide) (by omega) (fun c2 => ?_) (fun c2 => ?_)
      · refine a_aload_n (pc := 40) dX11_get_40 rfl ?_
        refine a_iconst (pc := 41) (nI 0) dX11_get_41 (by decide) ?_
        refine a_aload_n (pc := 42) dX11_get_42 rfl ?_
        refine a_gi (pc := 43) dX11_get_43 fX11_25 rfl ?_
        simp only [gF_pF, gF_pA, gF_pL, gA_pF, gA_pA, gA_pL, gL_pF, gL_pA, gL_pL, reduceIte, Nat.reduceEqDiff, and_false, false_and, and_true, true_and, and_self, hk]
        refine a_iload_n (pc := 46) dX11_get_46 rfl ?_
        refine a_V3l (pc := 47) 10 dX11_get_47 lcX11_keyOf lX11_210 rfl rfl rfl (fit_of hR (by omega) rfl) (c_keyOf (d0 := d0) 0 st k n (by decide) hst hk3 hn hn60) rfl rfl (ex_l ?_)
        refine ret _ _ 50 _ _ dX11_get_50 rfl ?_
        exact ⟨rfl, rfl, rfl⟩
      · exact absurd c2 (by decide)
  · exact absurd c1 (by omega)
set_option maxRecDepth 100000 in
theorem c_mrise1 {d0 kd kp rp : Nat} {g : GH} (hk : gF g 76 6 = -1) : ACi mX11_rise (d0 + 1) (SS kd kp rp) g [.ref 76] (fun r S' g' => S' = SS kd kp rp ∧ g' = rfu (th0 g) 5 ∧ r = -nI 5) := by
  refine ACi.of lcX11_rise rfl rfl (fun X Q ad hR ret => ?_)
  refine AW_ls (ls' := [_]) rfl ?_
  refine a_aload_n (pc := 0) dX11_rise_0 rfl ?_
  refine a_iconst (pc := 1) (nI 0) dX11_rise_1 (by decide) ?_
  refine a_pi (pc := 2) dX11_rise_2 fX11_104 rfl ?_
  refine a_aload_n (pc := 5) dX11_rise_5 rfl ?_
  refine a_gi (pc := 6) dX11_rise_6 fX11_25 rfl ?_
  simp only [gF_pF, gF_pA, gF_pL, gA_pF, gA_pA, gA_pL, gL_pF, gL_pA, gL_pL, reduceIte, Nat.reduceEqDiff, and_false, false_and, and_true, true_and, and_self, hk]
  refine a_if_lt (pc := 9) 21 dX11_rise_9 (by decide) (fun cc => ?_) (fun cc => ?_)
  · refine a_aload_n (pc := 21) dX11_rise_21 rfl ?_
    refine a_bipush (pc := 22) (-5) dX11_rise_22 (by decide) ?_
    refine a_V1i (pc := 24) 10 dX11_rise_24 lcX11_refuse lX11_114 rfl rfl rfl (fit_of hR (by omega) rfl) (c_refuse (d := d0) 5 (by decide)) rfl rfl (ex_i ?_)
    refine ret _ _ 27 _ _ dX11_rise_27 rfl ?_
    exact ⟨rfl, rfl, rfl⟩
  · exact absurd (by decide) cc
set_option maxRecDepth 100000 in
theorem c_mrise2 {d0 kd kp rp : Nat} {g : GH} (st n : Nat) (hst : st < 3) (hk : gF g 76 6 = nI st) (hn : gA g 81 0 = nI n) (hn0 : 0 < n) (hn60 : n ≤ 60) : ACi mX11_rise (d0 + 1) (SS kd kp rp) g [.ref 76] (fun r S' g' => S' = SS kd kp rp ∧ g' = rfu (th0 g) 5 ∧ r = -nI 5) := by
  refine ACi.of lcX11_rise rfl rfl (fun X Q ad hR ret => ?_)
  refine AW_ls (ls' := [_]) rfl ?_
  refine a_aload_n (pc := 0) dX11_rise_0 rfl ?_
  refine a_iconst (pc := 1) (nI 0) dX11_rise_1 (by decide) ?_
  refine a_pi (pc := 2) dX11_rise_2 fX11_104 rfl ?_
  refine a_aload_n (pc := 5) dX11_rise_5 rfl ?_
  refine a_gi (pc := 6) dX11_rise_6 fX11_25 rfl ?_
  simp only [gF_pF, gF_pA, gF_pL, gA_pF, gA_pA, gA_pL, gL_pF, gL_pA, gL_pL, reduceIte, Nat.reduceEqDiff, and_false, false_and, and_true, true_and, and_self, hk]
  refine a_if_ltN (pc := 9) 21 dX11_rise_9 (by decide) (by omega) (fun c1 => ?_) (fun c1 => ?_)
  · exact absurd c1 (by omega)
  · refine a_aload_n (pc := 12) dX11_rise_12 rfl ?_
    refine a_gr (pc := 13) dX11_rise_13 fX11_22 rfl ?_
    refine a_iconst (pc := 16) (nI 0) dX11_rise_16 (by decide) ?_
    refine a_ial (pc := 17) _ dX11_rise_17 rfl rfl (by omega) ?_
    simp only [gF_pF, gF_pA, gF_pL, gA_pF, gA_pA, gA_pL, gL_pF, gL_pA, gL_pL, reduceIte, Nat.reduceEqDiff, and_false, false_and, and_true, true_and, and_self, hn]
    refine a_if_leN (pc := 18) 28 dX11_rise_18 (by decide) (by omega) (fun c2 => ?_) (fun c2 => ?_)
    · exact absurd c2 (by omega)
    · refine a_aload_n (pc := 21) dX11_rise_21 rfl ?_
      refine a_bipush (pc := 22) (-5) dX11_rise_22 (by decide) ?_
      refine a_V1i (pc := 24) 10 dX11_rise_24 lcX11_refuse lX11_114 rfl rfl rfl (fit_of hR (by omega) rfl) (c_refuse (d := d0) 5 (by decide)) rfl rfl (ex_i ?_)
      refine ret _ _ 27 _ _ dX11_rise_27 rfl ?_
      exact ⟨rfl, rfl, rfl⟩
def rsL (g : GH) (st : Nat) : List En := risL st (gA g 82) (rdA (gA g 77) (gA g 78) (gA g 79) (gA g 80) 0 3 0 0) (rdA (gA g 77) (gA g 78) (gA g 79) (gA g 80) 0 3 1 0) (rdA (gA g 77) (gA g 78) (gA g 79) (gA g 80) 0 4 0 0) (rdA (gA g 77) (gA g 78) (gA g 79) (gA g 80) 0 4 1 0) (rdA (gA g 77) (gA g 78) (gA g 79) (gA g 80) 0 5 0 0) (rdA (gA g 77) (gA g 78) (gA g 79) (gA g 80) 0 5 1 0) (rdA (gA g 77) (gA g 78) (gA g 79) (gA g 80) 0 6 0 0) (rdA (gA g 77) (gA g 78) (gA g 79) (gA g 80) 0 6 1 0)
set_option maxRecDepth 100000 in
theorem c_mrise3 {d0 kd kp rp : Nat} {g : GH} (st : Nat) (hst : st < 3) (hk : gF g 76 6 = nI st) (hn : gA g 81 0 = nI 0) : ACi mX11_rise (d0 + 4) (SS kd kp rp) g [.ref 76] (fun r S' g' => S' = SS kd kp rp ∧ g' = pushL (plA (th0 g) (rsL g st)) 0 0 (rsL g st) ∧ r = nI (rsL g st).length) := by
  have h5 : (rsL g st).length ≤ 5 := ris_len _ _ _ _ _ _ _ _ _ _
  refine ACi.of lcX11_rise rfl rfl (fun X Q ad hR ret => ?_)
  refine AW_ls (ls' := [_]) rfl ?_
  refine a_aload_n (pc := 0) dX11_rise_0 rfl ?_
  refine a_iconst (pc := 1) (nI 0) dX11_rise_1 (by decide) ?_
  refine a_pi (pc := 2) dX11_rise_2 fX11_104 rfl ?_
  refine a_aload_n (pc := 5) dX11_rise_5 rfl ?_
  refine a_gi (pc := 6) dX11_rise_6 fX11_25 rfl ?_
  simp only [gF_pF, gF_pA, gF_pL, gA_pF, gA_pA, gA_pL, gL_pF, gL_pA, gL_pL, reduceIte, Nat.reduceEqDiff, and_false, false_and, and_true, true_and, and_self, hk]
  refine a_if_ltN (pc := 9) 21 dX11_rise_9 (by decide) (by omega) (fun c1 => ?_) (fun c1 => ?_)
  · exact absurd c1 (by omega)
  · refine a_aload_n (pc := 12) dX11_rise_12 rfl ?_
    refine a_gr (pc := 13) dX11_rise_13 fX11_22 rfl ?_
    refine a_iconst (pc := 16) (nI 0) dX11_rise_16 (by decide) ?_
    refine a_ial (pc := 17) _ dX11_rise_17 rfl rfl (by omega) ?_
    simp only [gF_pF, gF_pA, gF_pL, gA_pF, gA_pA, gA_pL, gL_pF, gL_pA, gL_pL, reduceIte, Nat.reduceEqDiff, and_false, false_and, and_true, true_and, and_self, hn]
    refine a_if_leN (pc := 18) 28 dX11_rise_18 (by decide) (by omega) (fun c2 => ?_) (fun c2 => ?_)
    · refine a_aload_n (pc := 28) dX11_rise_28 rfl ?_
      refine a_iconst (pc := 29) (nI 0) dX11_rise_29 (by decide) ?_
      refine a_aload_n (pc := 30) dX11_rise_30 rfl ?_
      refine a_gi (pc := 31) dX11_rise_31 fX11_25 rfl ?_
      simp only [gF_pF, gF_pA, gF_pL, gA_pF, gA_pA, gA_pL, gL_pF, gL_pA, gL_pL, reduceIte, Nat.reduceEqDiff, and_false, false_and, and_true, true_and, and_self, hk]
      refine a_V2v (pc := 34) 10 dX11_rise_34 lcX11_planRise lX11_222 rfl rfl rfl (fit_of hR (by omega) rfl) (c_planRise (d0 := d0) 0 st 0 (by decide) hst hn (by decide)) rfl rfl (ex_v ?_)
      refine a_aload_n (pc := 37) dX11_rise_37 rfl ?_
      refine a_V0i (pc := 38) 10 dX11_rise_38 lcX11_takePlan lX11_218 rfl rfl rfl (fit_of hR (by omega) rfl) (c_takePlan (d0 := d0) (g := th0 g) (rsL g st) 0 (by omega) hn (by omega)) rfl rfl (ex_i ?_)
      refine ret _ _ 41 _ _ dX11_rise_41 rfl ?_
      exact ⟨rfl, rfl, rfl⟩
    · exact absurd c2 (by decide)
def sndA (st : Nat) (x y v : Int32) : Bool := match st with
  | 0 => true
  | 1 => decide (x = 0) && decide (y = 0)
  | _ => decide (0 < v)
set_option maxRecDepth 100000 in
theorem c_misSound1 {d0 kd kp rp : Nat} {g : GH} (hk : gF g 76 6 = -1) : ACi mX11_isSound (d0 + 3) (SS kd kp rp) g [.ref 76] (fun r S' g' => S' = SS kd kp rp ∧ g' = th0 g ∧ r = bI false) := by
  refine ACz.of lcX11_isSound rfl rfl (fun X Q ad hR ret => ?_)
  refine AW_ls (ls' := [_]) rfl ?_
  refine a_aload_n (pc := 0) dX11_isSound_0 rfl ?_
  refine a_iconst (pc := 1) (nI 0) dX11_isSound_1 (by decide) ?_
  refine a_pi (pc := 2) dX11_isSound_2 fX11_104 rfl ?_
  refine a_aload_n (pc := 5) dX11_isSound_5 rfl ?_
  refine a_gi (pc := 6) dX11_isSound_6 fX11_25 rfl ?_
  simp only [gF_pF, gF_pA, gF_pL, gA_pF, gA_pA, gA_pL, gL_pF, gL_pA, gL_pL, reduceIte, Nat.reduceEqDiff, and_false, false_and, and_true, true_and, and_self, hk]
  refine a_if_eq (pc := 9) 56 dX11_isSound_9 (by decide) (fun cc => ?_) (fun cc => ?_)
  · exact absurd cc (by decide)
  · refine a_aload_n (pc := 12) dX11_isSound_12 rfl ?_
    refine a_gi (pc := 13) dX11_isSound_13 fX11_25 rfl ?_
    refine a_iconst (pc := 16) (nI 1) dX11_isSound_16 (by decide) ?_
    simp only [gF_pF, gF_pA, gF_pL, gA_pF, gA_pA, gA_pL, gL_pF, gL_pA, gL_pL, reduceIte, Nat.reduceEqDiff, and_false, false_and, and_true, true_and, and_self, hk]
    refine a_icmp_ne (pc := 17) 40 dX11_isSound_17 (by decide) (fun c2 => ?_) (fun c2 => ?_)
    · refine a_aload_n (pc := 40) dX11_isSound_40 rfl ?_
      refine a_gi (pc := 41) dX11_isSound_41 fX11_25 rfl ?_
      refine a_iconst (pc := 44) (nI 2) dX11_isSound_44 (by decide) ?_
      simp only [gF_pF, gF_pA, gF_pL, gA_pF, gA_pA, gA_pL, gL_pF, gL_pA, gL_pL, reduceIte, Nat.reduceEqDiff, and_false, false_and, and_true, true_and, and_self, hk]
      refine a_icmp_ne (pc := 45) 60 dX11_isSound_45 (by decide) (fun c3 => ?_) (fun c3 => ?_)
      · refine a_iconst (pc := 60) (nI 0) dX11_isSound_60 (by decide) ?_
        refine ret _ _ 61 _ _ dX11_isSound_61 rfl (by first | exact Or.inl rfl | exact Or.inr rfl | exact bI_01 _) ?_
        exact ⟨rfl, rfl, rfl⟩
      · exact absurd c3 (by decide)
    · exact absurd c2 (by decide)
set_option maxRecDepth 100000 in
theorem c_misSound2 {d0 kd kp rp : Nat} {g : GH} (st n : Nat) (hst : st < 3) (hk : gF g 76 6 = nI st) (hn : gA g 81 0 = nI n) (hn60 : n ≤ 60) : ACi mX11_isSound (d0 + 3) (SS kd kp rp) g [.ref 76] (fun r S' g' => S' = SS kd kp rp ∧ g' = th0 g ∧ r = bI (sndA st (rdA (gA g 77) (gA g 78) (gA g 79) (gA g 80) 0 3 0 n) (rdA (gA g 77) (gA g 78) (gA g 79) (gA g 80) 0 3 1 n) (verA (gA g 77) (gA g 78) (gA g 79) (gA g 80) 0 n))) := by
  match st, hst with
  | 0, _ =>
    refine ACz.of lcX11_isSound rfl rfl (fun X Q ad hR ret => ?_)
    refine AW_ls (ls' := [_]) rfl ?_
    refine a_aload_n (pc := 0) dX11_isSound_0 rfl ?_
    refine a_iconst (pc := 1) (nI 0) dX11_isSound_1 (by decide) ?_
    refine a_pi (pc := 2) dX11_isSound_2 fX11_104 rfl ?_
    refine a_aload_n (pc := 5) dX11_isSound_5 rfl ?_
    refine a_gi (pc := 6) dX11_isSound_6 fX11_25 rfl ?_
    simp only [gF_pF, gF_pA, gF_pL, gA_pF, gA_pA, gA_pL, gL_pF, gL_pA, gL_pL, reduceIte, Nat.reduceEqDiff, and_false, false_and, and_true, true_and, and_self, hk]
    refine a_if_eqN (pc := 9) 56 dX11_isSound_9 (by decide) (by omega) (fun c1 => ?_) (fun c1 => ?_)
    · refine a_iconst (pc := 56) (nI 1) dX11_isSound_56 (by decide) ?_
      refine a_goto (pc := 57) 61 dX11_isSound_57 (by decide) ?_
      refine ret _ _ 61 _ _ dX11_isSound_61 rfl (by first | exact Or.inl rfl | exact Or.inr rfl | exact bI_01 _) ?_
      exact ⟨rfl, rfl, rfl⟩
    · exact absurd rfl c1
  | 1, _ =>
    refine ACz.of lcX11_isSound rfl rfl (fun X Q ad hR ret => ?_)
    refine AW_ls (ls' := [_]) rfl ?_
    refine a_aload_n (pc := 0) dX11_isSound_0 rfl ?_
    refine a_iconst (pc := 1) (nI 0) dX11_isSound_1 (by decide) ?_
    refine a_pi (pc := 2) dX11_isSound_2 fX11_104 rfl ?_
    refine a_aload_n (pc := 5) dX11_isSound_5 rfl ?_
    refine a_gi (pc := 6) dX11_isSound_6 fX11_25 rfl ?_
    simp only [gF_pF, gF_pA, gF_pL, gA_pF, gA_pA, gA_pL, gL_pF, gL_pA, gL_pL, reduceIte, Nat.reduceEqDiff, and_false, false_and, and_true, true_and, and_self, hk]
    have no : sndA 1 (rdA (gA g 77) (gA g 78) (gA g 79) (gA g 80) 0 3 0 n) (rdA (gA g 77) (gA g 78) (gA g 79) (gA g 80) 0 3 1 n) (verA (gA g 77) (gA g 78) (gA g 79) (gA g 80) 0 n) = false → AW mX11_isSound X Q ad 0 0 (conc (SS kd kp rp) (pF g 76 0 (nI 0))) 40 [some (.ref 76)] [] := by
      intro hno
      refine a_aload_n (pc := 40) dX11_isSound_40 rfl ?_
      refine a_gi (pc := 41) dX11_isSound_41 fX11_25 rfl ?_
      refine a_iconst (pc := 44) (nI 2) dX11_isSound_44 (by decide) ?_
      simp only [gF_pF, gF_pA, gF_pL, gA_pF, gA_pA, gA_pL, gL_pF, gL_pA, gL_pL, reduceIte, Nat.reduceEqDiff, and_false, false_and, and_true, true_and, and_self, hk]
      refine a_icmp_neN (pc := 45) 60 dX11_isSound_45 (by decide) (by omega) (by omega) (fun c3 => ?_) (fun c3 => ?_)
      · refine a_iconst (pc := 60) (nI 0) dX11_isSound_60 (by decide) ?_
        refine ret _ _ 61 _ _ dX11_isSound_61 rfl (by first | exact Or.inl rfl | exact Or.inr rfl | exact bI_01 _) ?_
        exact ⟨rfl, rfl, by rw [hno]; rfl⟩
      · exact absurd c3 (by decide)
    refine a_if_eqN (pc := 9) 56 dX11_isSound_9 (by decide) (by omega) (fun c1 => ?_) (fun c1 => ?_)
    · exact absurd c1 (by decide)
    · refine a_aload_n (pc := 12) dX11_isSound_12 rfl ?_
      refine a_gi (pc := 13) dX11_isSound_13 fX11_25 rfl ?_
      refine a_iconst (pc := 16) (nI 1) dX11_isSound_16 (by decide) ?_
      simp only [gF_pF, gF_pA, gF_pL, gA_pF, gA_pA, gA_pL, gL_pF, gL_pA, gL_pL, reduceIte, Nat.reduceEqDiff, and_false, false_and, and_true, true_and, and_self, hk]
      refine a_icmp_neN (pc := 17) 40 dX11_isSound_17 (by decide) (by omega) (by omega) (fun c2 => ?_) (fun c2 => ?_)
      · exact absurd rfl c2
      · refine a_aload_n (pc := 20) dX11_isSound_20 rfl ?_
        refine a_iconst (pc := 21) (nI 0) dX11_isSound_21 (by decide) ?_
        refine a_iconst (pc := 22) (nI 3) dX11_isSound_22 (by decide) ?_
        refine a_iconst (pc := 23) (nI 0) dX11_isSound_23 (by decide) ?_
        refine a_V3i (pc := 24) 10 dX11_isSound_24 lcX11_readOf lX11_129 rfl rfl rfl (fit_of hR (by omega) rfl) (c_readOf (d0 := d0) 0 3 0 n (by decide) (by decide) (by decide) hn hn60) rfl rfl (ex_i ?_)
        simp only [gF_pF, gF_pA, gF_pL, gA_pF, gA_pA, gA_pL, gL_pF, gL_pA, gL_pL, reduceIte, Nat.reduceEqDiff, and_false, false_and, and_true, true_and, and_self]
        refine a_if_ne (pc := 27) 40 dX11_isSound_27 (by decide) (fun c4 => ?_) (fun c4 => ?_)
        · exact no (by simp [sndA, c4])
        · refine a_aload_n (pc := 30) dX11_isSound_30 rfl ?_
          refine a_iconst (pc := 31) (nI 0) dX11_isSound_31 (by decide) ?_
          refine a_iconst (pc := 32) (nI 3) dX11_isSound_32 (by decide) ?_
          refine a_iconst (pc := 33) (nI 1) dX11_isSound_33 (by decide) ?_
          refine a_V3i (pc := 34) 10 dX11_isSound_34 lcX11_readOf lX11_129 rfl rfl rfl (fit_of hR (by omega) rfl) (c_readOf (d0 := d0) 0 3 1 n (by decide) (by decide) (by decide) hn hn60) rfl rfl (ex_i ?_)
          simp only [gF_pF, gF_pA, gF_pL, gA_pF, gA_pA, gA_pL, gL_pF, gL_pA, gL_pL, reduceIte, Nat.reduceEqDiff, and_false, false_and, and_true, true_and, and_self]
          refine a_if_eq (pc := 37) 56 dX11_isSound_37 (by decide) (fun c5 => ?_) (fun c5 => ?_)
          · refine a_iconst (pc := 56) (nI 1) dX11_isSound_56 (by decide) ?_
            refine a_goto (pc := 57) 61 dX11_isSound_57 (by decide) ?_
            refine ret _ _ 61 _ _ dX11_isSound_61 rfl (by first | exact Or.inl rfl | exact Or.inr rfl | exact bI_01 _) ?_
            exact ⟨rfl, rfl, by simp [sndA, c4, c5]; rfl⟩
          · exact no (by simp [sndA, c5])
  | 2, _ =>
    refine ACz.of lcX11_isSound rfl rfl (fun X Q ad hR ret => ?_)
    refine AW_ls (ls' := [_]) rfl ?_
    refine a_aload_n (pc := 0) dX11_isSound_0 rfl ?_
    refine a_iconst (pc := 1) (nI 0) dX11_isSound_1 (by decide) ?_
    refine a_pi (pc := 2) dX11_isSound_2 fX11_104 rfl ?_
    refine a_aload_n (pc := 5) dX11_isSound_5 rfl ?_
    refine a_gi (pc := 6) dX11_isSound_6 fX11_25 rfl ?_
    simp only [gF_pF, gF_pA, gF_pL, gA_pF, gA_pA, gA_pL, gL_pF, gL_pA, gL_pL, reduceIte, Nat.reduceEqDiff, and_false, false_and, and_true, true_and, and_self, hk]
    refine a_if_eqN (pc := 9) 56 dX11_isSound_9 (by decide) (by omega) (fun c1 => ?_) (fun c1 => ?_)
    · exact absurd c1 (by decide)
    · refine a_aload_n (pc := 12) dX11_isSound_12 rfl ?_
      refine a_gi (pc := 13) dX11_isSound_13 fX11_25 rfl ?_
      refine a_iconst (pc := 16) (nI 1) dX11_isSound_16 (by decide) ?_
      simp only [gF_pF, gF_pA, gF_pL, gA_pF, gA_pA, gA_pL, gL_pF, gL_pA, gL_pL, reduceIte, Nat.reduceEqDiff, and_false, false_and, and_true, true_and, and_self, hk]
      refine a_icmp_neN (pc := 17) 40 dX11_isSound_17 (by decide) (by omega) (by omega) (fun c2 => ?_) (fun c2 => ?_)
      · refine a_aload_n (pc := 40) dX11_isSound_40 rfl ?_
        refine a_gi (pc := 41) dX11_isSound_41 fX11_25 rfl ?_
        refine a_iconst (pc := 44) (nI 2) dX11_isSound_44 (by decide) ?_
        simp only [gF_pF, gF_pA, gF_pL, gA_pF, gA_pA, gA_pL, gL_pF, gL_pA, gL_pL, reduceIte, Nat.reduceEqDiff, and_false, false_and, and_true, true_and, and_self, hk]
        refine a_icmp_neN (pc := 45) 60 dX11_isSound_45 (by decide) (by omega) (by omega) (fun c3 => ?_) (fun c3 => ?_)
        · exact absurd rfl c3
        · refine a_aload_n (pc := 48) dX11_isSound_48 rfl ?_
          refine a_iconst (pc := 49) (nI 0) dX11_isSound_49 (by decide) ?_
          refine a_V1i (pc := 50) 10 dX11_isSound_50 lcX11_version lX11_178 rfl rfl rfl (fit_of hR (by omega) rfl) (c_version (d0 := d0) 0 n (by decide) hn hn60) rfl rfl (ex_i ?_)
          simp only [gF_pF, gF_pA, gF_pL, gA_pF, gA_pA, gA_pL, gL_pF, gL_pA, gL_pL, reduceIte, Nat.reduceEqDiff, and_false, false_and, and_true, true_and, and_self]
          refine a_if_le (pc := 53) 60 dX11_isSound_53 (by decide) (fun c4 => ?_) (fun c4 => ?_)
          · refine a_iconst (pc := 60) (nI 0) dX11_isSound_60 (by decide) ?_
            refine ret _ _ 61 _ _ dX11_isSound_61 rfl (by first | exact Or.inl rfl | exact Or.inr rfl | exact bI_01 _) ?_
            exact ⟨rfl, rfl, by simp [sndA, Int32.not_lt.mpr c4]; rfl⟩
          · refine a_iconst (pc := 56) (nI 1) dX11_isSound_56 (by decide) ?_
            refine a_goto (pc := 57) 61 dX11_isSound_57 (by decide) ?_
            refine ret _ _ 61 _ _ dX11_isSound_61 rfl (by first | exact Or.inl rfl | exact Or.inr rfl | exact bI_01 _) ?_
            exact ⟨rfl, rfl, by simp [sndA, Int32.not_le.mp c4]; rfl⟩
      · exact absurd c2 (by decide)
