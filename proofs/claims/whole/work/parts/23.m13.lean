def fct (k : Nat) : Nat := if k = 1 then 4 else if k = 2 then 2 else 0
theorem fct_le (k : Nat) : fct k ≤ 4 := by unfold fct; split <;> (try split) <;> omega
set_option maxRecDepth 100000 in
theorem c_mspare1 {d0 kd kp rp : Nat} {g : GH} (k f : Int32) (on : Bool) (h : insQ k (nI 0) (nI 2) = false) : ACi mX11_spare (d0 + 1) (SS kd kp rp) g [.ref 76, .int k, .int f, .int (bI on)] (fun r S' g' => S' = SS kd kp rp ∧ g' = th0 g ∧ r = bI false) := by
  refine ACz.of lcX11_spare rfl rfl (fun X Q ad hR ret => ?_)
  refine AW_ls (ls' := [_, _, _, _]) rfl ?_
  refine a_aload_n (pc := 0) dX11_spare_0 rfl ?_
  refine a_iconst (pc := 1) (nI 0) dX11_spare_1 (by decide) ?_
  refine a_pi (pc := 2) dX11_spare_2 fX11_104 rfl ?_
  refine a_iload_n (pc := 5) dX11_spare_5 rfl ?_
  refine a_iconst (pc := 6) (nI 0) dX11_spare_6 (by decide) ?_
  refine a_iconst (pc := 7) (nI 2) dX11_spare_7 (by decide) ?_
  refine a_S3i (pc := 8) dX11_spare_8 lcX11_in lX11_110 (fit_of hR (by omega) rfl) (c_in (d := d0) k (nI 0) (nI 2)) rfl rfl (ex_i ?_)
  refine a_if_eqB (pc := 11) 42 dX11_spare_11 (by decide) (fun cc => ?_) (fun cc => ?_)
  · refine a_iconst (pc := 42) (nI 0) dX11_spare_42 (by decide) ?_
    refine ret _ _ 43 _ _ dX11_spare_43 rfl (by first | exact Or.inl rfl | exact Or.inr rfl | exact bI_01 _) ?_
    exact ⟨rfl, rfl, rfl⟩
  · exact absurd (cc.symm.trans h) (by decide)
set_option maxRecDepth 100000 in
theorem c_mspare2 {d0 kd kp rp : Nat} {g : GH} (k : Nat) (f : Int32) (on : Bool) (hk : k < 3) (h : insQ f (nI 0) (nI (fct k) - nI 1) = false) : ACi mX11_spare (d0 + 1) (SS kd kp rp) g [.ref 76, .int (nI k), .int f, .int (bI on)] (fun r S' g' => S' = SS kd kp rp ∧ g' = th0 g ∧ r = bI false) := by
  have h0 : insQ (nI k) (nI 0) (nI 2) = true := (insQ_ok (by decide)).mpr ⟨k, by omega, rfl⟩
  refine ACz.of lcX11_spare rfl rfl (fun X Q ad hR ret => ?_)
  refine AW_ls (ls' := [_, _, _, _]) rfl ?_
  refine a_aload_n (pc := 0) dX11_spare_0 rfl ?_
  refine a_iconst (pc := 1) (nI 0) dX11_spare_1 (by decide) ?_
  refine a_pi (pc := 2) dX11_spare_2 fX11_104 rfl ?_
  refine a_iload_n (pc := 5) dX11_spare_5 rfl ?_
  refine a_iconst (pc := 6) (nI 0) dX11_spare_6 (by decide) ?_
  refine a_iconst (pc := 7) (nI 2) dX11_spare_7 (by decide) ?_
  refine a_S3i (pc := 8) dX11_spare_8 lcX11_in lX11_110 (fit_of hR (by omega) rfl) (c_in (d := d0) (nI k) (nI 0) (nI 2)) rfl rfl (ex_i ?_)
  refine a_if_eqB (pc := 11) 42 dX11_spare_11 (by decide) (fun cc => ?_) (fun cc => ?_)
  · exact absurd (h0.symm.trans cc) (by decide)
  · refine a_iload_n (pc := 14) dX11_spare_14 rfl ?_
    refine a_iconst (pc := 15) (nI 0) dX11_spare_15 (by decide) ?_
    refine a_iload_n (pc := 16) dX11_spare_16 rfl ?_
    refine a_S1i (pc := 17) dX11_spare_17 lcX11_fencesOf lX11_170 (fit_of hR (by omega) rfl) (c_fencesOf (d0 := d0) k hk) rfl rfl (ex_i ?_)
    refine a_iconst (pc := 20) (nI 1) dX11_spare_20 (by decide) ?_
    refine a_isub (pc := 21) dX11_spare_21 ?_
    refine a_S3i (pc := 22) dX11_spare_22 lcX11_in lX11_110 (fit_of hR (by omega) rfl) (c_in (d := d0) f (nI 0) (nI (fct k) - nI 1)) rfl rfl (ex_i ?_)
    refine a_if_eqB (pc := 25) 42 dX11_spare_25 (by decide) (fun c2 => ?_) (fun c2 => ?_)
    · refine a_iconst (pc := 42) (nI 0) dX11_spare_42 (by decide) ?_
      refine ret _ _ 43 _ _ dX11_spare_43 rfl (by first | exact Or.inl rfl | exact Or.inr rfl | exact bI_01 _) ?_
      exact ⟨rfl, rfl, rfl⟩
    · exact absurd (c2.symm.trans h) (by decide)
set_option maxRecDepth 100000 in
theorem c_mspare3 {d0 kd kp rp : Nat} {g : GH} (k f : Nat) (on : Bool) (hk : k < 3) (hf : f < fct k) (he : gA g 82 (4 * k + f) = bI on) : ACi mX11_spare (d0 + 1) (SS kd kp rp) g [.ref 76, .int (nI k), .int (nI f), .int (bI on)] (fun r S' g' => S' = SS kd kp rp ∧ g' = th0 g ∧ r = bI false) := by
  have h0 : insQ (nI k) (nI 0) (nI 2) = true := (insQ_ok (by decide)).mpr ⟨k, by omega, rfl⟩
  have h4 := fct_le k
  have h1 := (entI_ok (i := nI f) (n := fct k) (by omega)).mpr ⟨f, hf, rfl⟩
  refine ACz.of lcX11_spare rfl rfl (fun X Q ad hR ret => ?_)
  refine AW_ls (ls' := [_, _, _, _]) rfl ?_
  refine a_aload_n (pc := 0) dX11_spare_0 rfl ?_
  refine a_iconst (pc := 1) (nI 0) dX11_spare_1 (by decide) ?_
  refine a_pi (pc := 2) dX11_spare_2 fX11_104 rfl ?_
  refine a_iload_n (pc := 5) dX11_spare_5 rfl ?_
  refine a_iconst (pc := 6) (nI 0) dX11_spare_6 (by decide) ?_
  refine a_iconst (pc := 7) (nI 2) dX11_spare_7 (by decide) ?_
  refine a_S3i (pc := 8) dX11_spare_8 lcX11_in lX11_110 (fit_of hR (by omega) rfl) (c_in (d := d0) (nI k) (nI 0) (nI 2)) rfl rfl (ex_i ?_)
  refine a_if_eqB (pc := 11) 42 dX11_spare_11 (by decide) (fun cc => ?_) (fun cc => ?_)
  · exact absurd (h0.symm.trans cc) (by decide)
  · refine a_iload_n (pc := 14) dX11_spare_14 rfl ?_
    refine a_iconst (pc := 15) (nI 0) dX11_spare_15 (by decide) ?_
    refine a_iload_n (pc := 16) dX11_spare_16 rfl ?_
    refine a_S1i (pc := 17) dX11_spare_17 lcX11_fencesOf lX11_170 (fit_of hR (by omega) rfl) (c_fencesOf (d0 := d0) k hk) rfl rfl (ex_i ?_)
    refine a_iconst (pc := 20) (nI 1) dX11_spare_20 (by decide) ?_
    refine a_isub (pc := 21) dX11_spare_21 ?_
    refine a_S3i (pc := 22) dX11_spare_22 lcX11_in lX11_110 (fit_of hR (by omega) rfl) (c_in (d := d0) (nI f) (nI 0) (nI (fct k) - nI 1)) rfl rfl (ex_i ?_)
    refine a_if_eqB (pc := 25) 42 dX11_spare_25 (by decide) (fun c2 => ?_) (fun c2 => ?_)
    · exact absurd (h1.symm.trans c2) (by decide)
    · refine a_aload_n (pc := 28) dX11_spare_28 rfl ?_
      refine a_gr (pc := 29) dX11_spare_29 fX11_29 rfl ?_
      refine a_iconst (pc := 32) (nI 4) dX11_spare_32 (by decide) ?_
      refine a_iload_n (pc := 33) dX11_spare_33 rfl ?_
      refine a_imul (pc := 34) dX11_spare_34 ?_
      try rw [pk_mul]
      refine a_iload_n (pc := 35) dX11_spare_35 rfl ?_
      refine a_iadd (pc := 36) dX11_spare_36 ?_
      try rw [nI_add]
      refine a_zal (pc := 37) _ dX11_spare_37 rfl rfl (by omega) ?_
      simp only [gF_pF, gF_pA, gF_pL, gA_pF, gA_pA, gA_pL, gL_pF, gL_pA, gL_pL, reduceIte, Nat.reduceEqDiff, and_false, false_and, and_true, true_and, and_self, he]
      refine a_iload_n (pc := 38) dX11_spare_38 rfl ?_
      refine a_icmp_ne (pc := 39) 44 dX11_spare_39 (by decide) (fun c3 => ?_) (fun c3 => ?_)
      · exact absurd rfl c3
      · refine a_iconst (pc := 42) (nI 0) dX11_spare_42 (by decide) ?_
        refine ret _ _ 43 _ _ dX11_spare_43 rfl (by first | exact Or.inl rfl | exact Or.inr rfl | exact bI_01 _) ?_
        exact ⟨rfl, rfl, rfl⟩
set_option maxRecDepth 100000 in
theorem c_mspare4 {d0 kd kp rp : Nat} {g : GH} (k f : Nat) (on : Bool) (hk : k < 3) (hf : f < fct k) (he : ¬ gA g 82 (4 * k + f) = bI on) : ACi mX11_spare (d0 + 1) (SS kd kp rp) g [.ref 76, .int (nI k), .int (nI f), .int (bI on)] (fun r S' g' => S' = SS kd kp rp ∧ g' = pA (th0 g) 82 (upd (gA g 82) (4 * k + f) (bI on)) ∧ r = bI true) := by
  have h0 : insQ (nI k) (nI 0) (nI 2) = true := (insQ_ok (by decide)).mpr ⟨k, by omega, rfl⟩
  have h4 := fct_le k
  have h1 := (entI_ok (i := nI f) (n := fct k) (by omega)).mpr ⟨f, hf, rfl⟩
  refine ACz.of lcX11_spare rfl rfl (fun X Q ad hR ret => ?_)
  refine AW_ls (ls' := [_, _, _, _]) rfl ?_
  refine a_aload_n (pc := 0) dX11_spare_0 rfl ?_
  refine a_iconst (pc := 1) (nI 0) dX11_spare_1 (by decide) ?_
  refine a_pi (pc := 2) dX11_spare_2 fX11_104 rfl ?_
  refine a_iload_n (pc := 5) dX11_spare_5 rfl ?_
  refine a_iconst (pc := 6) (nI 0) dX11_spare_6 (by decide) ?_
  refine a_iconst (pc := 7) (nI 2) dX11_spare_7 (by decide) ?_
  refine a_S3i (pc := 8) dX11_spare_8 lcX11_in lX11_110 (fit_of hR (by omega) rfl) (c_in (d := d0) (nI k) (nI 0) (nI 2)) rfl rfl (ex_i ?_)
  refine a_if_eqB (pc := 11) 42 dX11_spare_11 (by decide) (fun cc => ?_) (fun cc => ?_)
  · exact absurd (h0.symm.trans cc) (by decide)
  · refine a_iload_n (pc := 14) dX11_spare_14 rfl ?_
    refine a_iconst (pc := 15) (nI 0) dX11_spare_15 (by decide) ?_
    refine a_iload_n (pc := 16) dX11_spare_16 rfl ?_
    refine a_S1i (pc := 17) dX11_spare_17 lcX11_fencesOf lX11_170 (fit_of hR (by omega) rfl) (c_fencesOf (d0 := d0) k hk) rfl rfl (ex_i ?_)
    refine a_iconst (pc := 20) (nI 1) dX11_spare_20 (by decide) ?_
    refine a_isub (pc := 21) dX11_spare_21 ?_
    refine a_S3i (pc := 22) dX11_spare_22 lcX11_in lX11_110 (fit_of hR (by omega) rfl) (c_in (d := d0) (nI f) (nI 0) (nI (fct k) - nI 1)) rfl rfl (ex_i ?_)
    refine a_if_eqB (pc := 25) 42 dX11_spare_25 (by decide) (fun c2 => ?_) (fun c2 => ?_)
    · exact absurd (h1.symm.trans c2) (by decide)
    · refine a_aload_n (pc := 28) dX11_spare_28 rfl ?_
      refine a_gr (pc := 29) dX11_spare_29 fX11_29 rfl ?_
      refine a_iconst (pc := 32) (nI 4) dX11_spare_32 (by decide) ?_
      refine a_iload_n (pc := 33) dX11_spare_33 rfl ?_
      refine a_imul (pc := 34) dX11_spare_34 ?_
      try rw [pk_mul]
      refine a_iload_n (pc := 35) dX11_spare_35 rfl ?_
      refine a_iadd (pc := 36) dX11_spare_36 ?_
      try rw [nI_add]
      refine a_zal (pc := 37) _ dX11_spare_37 rfl rfl (by omega) ?_
      refine a_iload_n (pc := 38) dX11_spare_38 rfl ?_
      refine a_icmp_ne (pc := 39) 44 dX11_spare_39 (by decide) (fun c3 => ?_) (fun c3 => ?_)
      · refine a_aload_n (pc := 44) dX11_spare_44 rfl ?_
        refine a_gr (pc := 45) dX11_spare_45 fX11_29 rfl ?_
        refine a_iconst (pc := 48) (nI 4) dX11_spare_48 (by decide) ?_
        refine a_iload_n (pc := 49) dX11_spare_49 rfl ?_
        refine a_imul (pc := 50) dX11_spare_50 ?_
        try rw [pk_mul]
        refine a_iload_n (pc := 51) dX11_spare_51 rfl ?_
        refine a_iadd (pc := 52) dX11_spare_52 ?_
        try rw [nI_add]
        refine a_iload_n (pc := 53) dX11_spare_53 rfl ?_
        refine a_zst (pc := 54) _ dX11_spare_54 rfl rfl (by omega) (by first | exact Or.inl rfl | exact Or.inr rfl | exact bI_01 _) ?_
        refine a_iconst (pc := 55) (nI 1) dX11_spare_55 (by decide) ?_
        refine ret _ _ 56 _ _ dX11_spare_56 rfl (by first | exact Or.inl rfl | exact Or.inr rfl | exact bI_01 _) ?_
        exact ⟨rfl, rfl, rfl⟩
      · exact absurd c3 he
def dgA (f : Nat → Int32) : Nat → Int32
  | 0 => nI 0
  | n + 1 => nI 31 * dgA f n + f n
theorem dgA_congr {f f' : Nat → Int32} : ∀ n, (∀ k, k < n → f k = f' k) → dgA f n = dgA f' n
  | 0, _ => rfl
  | n + 1, h => by rw [dgA, dgA, dgA_congr n (fun k hk => h k (by omega)), h n (by omega)]
set_option maxRecDepth 100000 in
theorem c_mdigest1 {d0 kd kp rp : Nat} {g : GH} (w : Int32) (h : insQ w (nI 0) (nI 1) = false) : ACi mX11_digest (d0 + 1) (SS kd kp rp) g [.ref 76, .int w] (fun r S' g' => S' = SS kd kp rp ∧ g' = th0 g ∧ r = -9) := by
  refine ACi.of lcX11_digest rfl rfl (fun X Q ad hR ret => ?_)
  refine AW_ls (ls' := [_, _, _, _]) rfl ?_
  refine a_aload_n (pc := 0) dX11_digest_0 rfl ?_
  refine a_iconst (pc := 1) (nI 0) dX11_digest_1 (by decide) ?_
  refine a_pi (pc := 2) dX11_digest_2 fX11_104 rfl ?_
  refine a_iload_n (pc := 5) dX11_digest_5 rfl ?_
  refine a_iconst (pc := 6) (nI 0) dX11_digest_6 (by decide) ?_
  refine a_iconst (pc := 7) (nI 1) dX11_digest_7 (by decide) ?_
  refine a_S3i (pc := 8) dX11_digest_8 lcX11_in lX11_110 (fit_of hR (by omega) rfl) (c_in (d := d0) w (nI 0) (nI 1)) rfl rfl (ex_i ?_)
  refine a_if_neB (pc := 11) 17 dX11_digest_11 (by decide) (fun cc => ?_) (fun cc => ?_)
  · exact absurd (cc.symm.trans h) (by decide)
  · refine a_bipush (pc := 14) (-9) dX11_digest_14 (by decide) ?_
    refine ret _ _ 16 _ _ dX11_digest_16 rfl ?_
    exact ⟨rfl, rfl, rfl⟩
set_option maxRecDepth 100000 in
theorem c_mdigest2 {d0 kd kp rp : Nat} {g : GH} (w n : Nat) (hw : w < 2) (hn : gA g 81 0 = nI n) (hn60 : n ≤ 60) : ACi mX11_digest (d0 + 1) (SS kd kp rp) g [.ref 76, .int (nI w)] (fun r S' g' => S' = SS kd kp rp ∧ g' = th0 g ∧ r = dgA (fun p => if w = 0 then gA g 77 p else (rdA (gA g 77) (gA g 78) (gA g 79) (gA g 80) 0 (p / 2) (p % 2) n)) 32) := by
  have h : insQ (nI w) (nI 0) (nI 1) = true := (insQ_ok (by decide)).mpr ⟨w, by omega, rfl⟩
  refine ACi.of lcX11_digest rfl rfl (fun X Q ad hR ret => ?_)
  refine AW_ls (ls' := [_, _, _, _]) rfl ?_
  refine a_aload_n (pc := 0) dX11_digest_0 rfl ?_
  refine a_iconst (pc := 1) (nI 0) dX11_digest_1 (by decide) ?_
  refine a_pi (pc := 2) dX11_digest_2 fX11_104 rfl ?_
  refine a_iload_n (pc := 5) dX11_digest_5 rfl ?_
  refine a_iconst (pc := 6) (nI 0) dX11_digest_6 (by decide) ?_
  refine a_iconst (pc := 7) (nI 1) dX11_digest_7 (by decide) ?_
  refine a_S3i (pc := 8) dX11_digest_8 lcX11_in lX11_110 (fit_of hR (by omega) rfl) (c_in (d := d0) (nI w) (nI 0) (nI 1)) rfl rfl (ex_i ?_)
  refine a_if_neB (pc := 11) 17 dX11_digest_11 (by decide) (fun cc => ?_) (fun cc => ?_)
  · refine a_iconst (pc := 17) (nI 0) dX11_digest_17 (by decide) ?_
    refine a_istore_n (pc := 18) (ls' := [_, _, _, _]) dX11_digest_18 (Nat.le_of_ble_eq_true rfl) rfl ?_
    refine a_iconst (pc := 19) (nI 0) dX11_digest_19 (by decide) ?_
    refine a_istore_n (pc := 20) (ls' := [_, _, _, _]) dX11_digest_20 (Nat.le_of_ble_eq_true rfl) rfl ?_
    have loop : ∀ m i : Nat, 32 = i + m → AW mX11_digest X Q ad 0 0 (conc (SS kd kp rp) (pF g 76 0 (nI 0))) 21 [some (.ref 76), some (.int (nI w)), some (.int (dgA (fun p => if w = 0 then gA g 77 p else (rdA (gA g 77) (gA g 78) (gA g 79) (gA g 80) 0 (p / 2) (p % 2) n)) i)), some (.int (nI i))] [] := by
      intro m
      induction m with
      | zero =>
        intro i hi
        obtain rfl : i = 32 := by omega
        refine a_iload_n (pc := 21) dX11_digest_21 rfl ?_
        refine a_bipush (pc := 22) (nI 32) dX11_digest_22 (by decide) ?_
        refine a_icmp_geN (pc := 24) 63 dX11_digest_24 (by decide) (by omega) (by omega) (fun c1 => ?_) (fun c1 => ?_)
        · refine a_iload_n (pc := 63) dX11_digest_63 rfl ?_
          refine ret _ _ 64 _ _ dX11_digest_64 rfl ?_
          exact ⟨rfl, rfl, rfl⟩
        · exact absurd c1 (by omega)
      | succ m ih =>
        intro i hi
        refine a_iload_n (pc := 21) dX11_digest_21 rfl ?_
        refine a_bipush (pc := 22) (nI 32) dX11_digest_22 (by decide) ?_
        refine a_icmp_geN (pc := 24) 63 dX11_digest_24 (by decide) (by omega) (by omega) (fun c1 => ?_) (fun c1 => ?_)
        · exact absurd c1 (by omega)
        · refine a_bipush (pc := 27) (nI 31) dX11_digest_27 (by decide) ?_
          refine a_iload_n (pc := 29) dX11_digest_29 rfl ?_
          refine a_imul (pc := 30) dX11_digest_30 ?_
          try rw [pk_mul]
          refine a_iload_n (pc := 31) dX11_digest_31 rfl ?_
          refine AW_val2 55 (if w = 0 then gA g 77 i else (rdA (gA g 77) (gA g 78) (gA g 79) (gA g 80) 0 (i / 2) (i % 2) n)) (fun hJ => ?_) ?_
          · refine a_if_neN (pc := 32) 44 dX11_digest_32 (by decide) (by omega) (fun c2 => ?_) (fun c2 => ?_)
            · refine a_aload_n (pc := 44) dX11_digest_44 rfl ?_
              refine a_iconst (pc := 45) (nI 0) dX11_digest_45 (by decide) ?_
              refine a_iload_n (pc := 46) dX11_digest_46 rfl ?_
              refine a_iconst (pc := 47) (nI 2) dX11_digest_47 (by decide) ?_
              refine a_idiv (pc := 48) dX11_digest_48 (by decide) ?_
              rw [pk_div (by omega) (by decide) (by decide)]
              refine a_iload_n (pc := 49) dX11_digest_49 rfl ?_
              refine a_iconst (pc := 50) (nI 2) dX11_digest_50 (by decide) ?_
              refine a_irem (pc := 51) dX11_digest_51 (by decide) ?_
              rw [pk_rem (by omega) (by decide) (by decide)]
              refine a_V3i (pc := 52) 10 dX11_digest_52 lcX11_readOf lX11_129 rfl rfl rfl (fit_of hR (by omega) rfl) (c_readOf (d0 := d0) 0 (i / 2) (i % 2) n (by decide) (by omega) (by omega) hn hn60) rfl rfl (ex_i ?_)
              exact AW_top (by rw [if_neg c2]; rfl) hJ
            · refine a_aload_n (pc := 35) dX11_digest_35 rfl ?_
              refine a_gr (pc := 36) dX11_digest_36 fX11_7 rfl ?_
              refine a_iload_n (pc := 39) dX11_digest_39 rfl ?_
              refine a_ial (pc := 40) _ dX11_digest_40 rfl rfl (by omega) ?_
              refine a_goto (pc := 41) 55 dX11_digest_41 (by decide) ?_
              exact AW_top (by rw [if_pos c2]; rfl) hJ
          refine a_iadd (pc := 55) dX11_digest_55 ?_
          try rw [nI_add]
          refine a_istore_n (pc := 56) (ls' := [_, _, _, _]) dX11_digest_56 (Nat.le_of_ble_eq_true rfl) rfl ?_
          refine a_iinc (pc := 57) (ls' := [_, _, _, _]) (nI 1) dX11_digest_57 (by decide) rfl (Nat.le_of_ble_eq_true rfl) rfl ?_
          try rw [nI_add]
          refine a_goto (pc := 60) 21 dX11_digest_60 (by decide) ?_
          exact ih (i + 1) (by omega)
    exact loop 32 0 (by omega)
  · exact absurd (h.symm.trans cc) (by decide)
set_option maxRecDepth 100000 in
theorem c_mstatus0 {d0 kd kp rp : Nat} {g : GH} : ACi mX11_status d0 (SS kd kp rp) g [.ref 76, .int (nI 0)] (fun r S' g' => S' = SS kd kp rp ∧ g' = th0 g ∧ r = gA g 81 0) := by
  refine ACi.of lcX11_status rfl rfl (fun X Q ad hR ret => ?_)
  refine AW_ls (ls' := [_, _, _, _]) rfl ?_
  refine a_aload_n (pc := 0) dX11_status_0 rfl ?_
  refine a_iconst (pc := 1) (nI 0) dX11_status_1 (by decide) ?_
  refine a_pi (pc := 2) dX11_status_2 fX11_104 rfl ?_
  refine a_iconst (pc := 5) (nI 0) dX11_status_5 (by decide) ?_
  refine a_istore_n (pc := 6) (ls' := [_, _, _, _]) dX11_status_6 (Nat.le_of_ble_eq_true rfl) rfl ?_
  refine a_iload_n (pc := 7) dX11_status_7 rfl ?_
  refine a_tabIn (pc := 8) 56 dX11_status_8 (by decide) (by decide) rfl (by decide) ?_
  refine a_aload_n (pc := 56) dX11_status_56 rfl ?_
  refine a_gr (pc := 57) dX11_status_57 fX11_22 rfl ?_
  refine a_iconst (pc := 60) (nI 0) dX11_status_60 (by decide) ?_
  refine a_ial (pc := 61) _ dX11_status_61 rfl rfl (by omega) ?_
  refine ret _ _ 62 _ _ dX11_status_62 rfl ?_
  exact ⟨rfl, rfl, rfl⟩
set_option maxRecDepth 100000 in
theorem c_mstatus1 {d0 kd kp rp : Nat} {g : GH} (n : Nat) (hn : gA g 81 0 = nI n) (hn60 : n ≤ 60) : ACi mX11_status d0 (SS kd kp rp) g [.ref 76, .int (nI 1)] (fun r S' g' => S' = SS kd kp rp ∧ g' = th0 g ∧ r = nI (wct (gA g 78) n)) := by
  refine ACi.of lcX11_status rfl rfl (fun X Q ad hR ret => ?_)
  refine AW_ls (ls' := [_, _, _, _]) rfl ?_
  refine a_aload_n (pc := 0) dX11_status_0 rfl ?_
  refine a_iconst (pc := 1) (nI 0) dX11_status_1 (by decide) ?_
  refine a_pi (pc := 2) dX11_status_2 fX11_104 rfl ?_
  refine a_iconst (pc := 5) (nI 0) dX11_status_5 (by decide) ?_
  refine a_istore_n (pc := 6) (ls' := [_, _, _, _]) dX11_status_6 (Nat.le_of_ble_eq_true rfl) rfl ?_
  refine a_iload_n (pc := 7) dX11_status_7 rfl ?_
  refine a_tabIn (pc := 8) 63 dX11_status_8 (by decide) (by decide) rfl (by decide) ?_
  refine a_iconst (pc := 63) (nI 0) dX11_status_63 (by decide) ?_
  refine a_istore_n (pc := 64) (ls' := [_, _, _, _]) dX11_status_64 (Nat.le_of_ble_eq_true rfl) rfl ?_
  have loop : ∀ m i : Nat, n = i + m → AW mX11_status X Q ad 0 0 (conc (SS kd kp rp) (pF g 76 0 (nI 0))) 65 [some (.ref 76), some (.int (nI 1)), some (.int (nI (wct (gA g 78) i))), some (.int (nI i))] [] := by
    intro m
    induction m with
    | zero =>
      intro i hi
      obtain rfl : n = i := by omega
      refine a_iload_n (pc := 65) dX11_status_65 rfl ?_
      refine a_aload_n (pc := 66) dX11_status_66 rfl ?_
      refine a_gr (pc := 67) dX11_status_67 fX11_22 rfl ?_
      refine a_iconst (pc := 70) (nI 0) dX11_status_70 (by decide) ?_
      refine a_ial (pc := 71) _ dX11_status_71 rfl rfl (by omega) ?_
      simp only [gF_pF, gF_pA, gF_pL, gA_pF, gA_pA, gA_pL, gL_pF, gL_pA, gL_pL, reduceIte, Nat.reduceEqDiff, and_false, false_and, and_true, true_and, and_self, hn]
      refine a_icmp_geN (pc := 72) 99 dX11_status_72 (by decide) (by omega) (by omega) (fun c1 => ?_) (fun c1 => ?_)
      · refine a_iload_n (pc := 99) dX11_status_99 rfl ?_
        refine ret _ _ 100 _ _ dX11_status_100 rfl ?_
        exact ⟨rfl, rfl, rfl⟩
      · exact absurd c1 (by omega)
    | succ m ih =>
      intro i hi
      refine a_iload_n (pc := 65) dX11_status_65 rfl ?_
      refine a_aload_n (pc := 66) dX11_status_66 rfl ?_
      refine a_gr (pc := 67) dX11_status_67 fX11_22 rfl ?_
      refine a_iconst (pc := 70) (nI 0) dX11_status_70 (by decide) ?_
      refine a_ial (pc := 71) _ dX11_status_71 rfl rfl (by omega) ?_
      simp only [gF_pF, gF_pA, gF_pL, gA_pF, gA_pA, gA_pL, gL_pF, gL_pA, gL_pL, reduceIte, Nat.reduceEqDiff, and_false, false_and, and_true, true_and, and_self, hn]
      refine a_icmp_geN (pc := 72) 99 dX11_status_72 (by decide) (by omega) (by omega) (fun c1 => ?_) (fun c1 => ?_)
      · exact absurd c1 (by omega)
      · refine a_iload_n (pc := 75) dX11_status_75 rfl ?_
        refine a_aload_n (pc := 76) dX11_status_76 rfl ?_
        refine a_gr (pc := 77) dX11_status_77 fX11_13 rfl ?_
        refine a_iload_n (pc := 80) dX11_status_80 rfl ?_
        refine a_ial (pc := 81) _ dX11_status_81 rfl rfl (by omega) ?_
        simp only [gF_pF, gF_pA, gF_pL, gA_pF, gA_pA, gA_pL, gL_pF, gL_pA, gL_pL, reduceIte, Nat.reduceEqDiff, and_false, false_and, and_true, true_and, and_self]
        refine a_iconst (pc := 82) (-1) dX11_status_82 (by decide) ?_
        refine AW_val3 91 (nI (if gA g 78 i = -1 then 0 else 1)) (fun hJ => ?_) ?_
        · refine a_icmp_eq (pc := 83) 90 dX11_status_83 (by decide) (fun c2 => ?_) (fun c2 => ?_)
          · refine a_iconst (pc := 90) (nI 0) dX11_status_90 (by decide) ?_
            exact AW_top (by rw [if_pos c2]) hJ
          · refine a_iconst (pc := 86) (nI 1) dX11_status_86 (by decide) ?_
            refine a_goto (pc := 87) 91 dX11_status_87 (by decide) ?_
            exact AW_top (by rw [if_neg c2]) hJ
        refine a_iadd (pc := 91) dX11_status_91 ?_
        try rw [nI_add]
        refine a_istore_n (pc := 92) (ls' := [_, _, _, _]) dX11_status_92 (Nat.le_of_ble_eq_true rfl) rfl ?_
        refine a_iinc (pc := 93) (ls' := [_, _, _, _]) (nI 1) dX11_status_93 (by decide) rfl (Nat.le_of_ble_eq_true rfl) rfl ?_
        try rw [nI_add]
        refine a_goto (pc := 96) 65 dX11_status_96 (by decide) ?_
        exact ih (i + 1) (by omega)
  exact loop n 0 (by omega)
set_option maxRecDepth 100000 in
theorem c_mstatus2 {d0 kd kp rp : Nat} {g : GH} (n : Nat) (hn : gA g 81 0 = nI n) (hn60 : n ≤ 60) : ACi mX11_status (d0 + 1) (SS kd kp rp) g [.ref 76, .int (nI 2)] (fun r S' g' => S' = SS kd kp rp ∧ g' = th0 g ∧ r = nI (weN (gA g 78) n + (if weS (gA g 78) n = true then 1 else 0))) := by
  refine ACi.of lcX11_status rfl rfl (fun X Q ad hR ret => ?_)
  refine AW_ls (ls' := [_, _, _, _]) rfl ?_
  refine a_aload_n (pc := 0) dX11_status_0 rfl ?_
  refine a_iconst (pc := 1) (nI 0) dX11_status_1 (by decide) ?_
  refine a_pi (pc := 2) dX11_status_2 fX11_104 rfl ?_
  refine a_iconst (pc := 5) (nI 0) dX11_status_5 (by decide) ?_
  refine a_istore_n (pc := 6) (ls' := [_, _, _, _]) dX11_status_6 (Nat.le_of_ble_eq_true rfl) rfl ?_
  refine a_iload_n (pc := 7) dX11_status_7 rfl ?_
  refine a_tabIn (pc := 8) 101 dX11_status_8 (by decide) (by decide) rfl (by decide) ?_
  refine a_aload_n (pc := 101) dX11_status_101 rfl ?_
  refine a_iconst (pc := 102) (nI 0) dX11_status_102 (by decide) ?_
  refine a_aload_n (pc := 103) dX11_status_103 rfl ?_
  refine a_gr (pc := 104) dX11_status_104 fX11_22 rfl ?_
  refine a_iconst (pc := 107) (nI 0) dX11_status_107 (by decide) ?_
  refine a_ial (pc := 108) _ dX11_status_108 rfl rfl (by omega) ?_
  simp only [gF_pF, gF_pA, gF_pL, gA_pF, gA_pA, gA_pL, gL_pF, gL_pA, gL_pL, reduceIte, Nat.reduceEqDiff, and_false, false_and, and_true, true_and, and_self, hn]
  refine a_V2i (pc := 109) 10 dX11_status_109 lcX11_epochOf lX11_151 rfl rfl rfl (fit_of hR (by omega) rfl) (c_epochOf (d0 := d0) 0 n (by decide) hn60 hn) rfl rfl (ex_i ?_)
  refine ret _ _ 112 _ _ dX11_status_112 rfl ?_
  refine ⟨rfl, rfl, ?_⟩
  simp [gA_pF]
set_option maxRecDepth 100000 in
theorem c_mstatus3 {d0 kd kp rp : Nat} {g : GH} : ACi mX11_status d0 (SS kd kp rp) g [.ref 76, .int (nI 3)] (fun r S' g' => S' = SS kd kp rp ∧ g' = th0 g ∧ r = gF g 76 6) := by
  refine ACi.of lcX11_status rfl rfl (fun X Q ad hR ret => ?_)
  refine AW_ls (ls' := [_, _, _, _]) rfl ?_
  refine a_aload_n (pc := 0) dX11_status_0 rfl ?_
  refine a_iconst (pc := 1) (nI 0) dX11_status_1 (by decide) ?_
  refine a_pi (pc := 2) dX11_status_2 fX11_104 rfl ?_
  refine a_iconst (pc := 5) (nI 0) dX11_status_5 (by decide) ?_
  refine a_istore_n (pc := 6) (ls' := [_, _, _, _]) dX11_status_6 (Nat.le_of_ble_eq_true rfl) rfl ?_
  refine a_iload_n (pc := 7) dX11_status_7 rfl ?_
  refine a_tabIn (pc := 8) 113 dX11_status_8 (by decide) (by decide) rfl (by decide) ?_
  refine a_aload_n (pc := 113) dX11_status_113 rfl ?_
  refine a_gi (pc := 114) dX11_status_114 fX11_25 rfl ?_
  refine ret _ _ 117 _ _ dX11_status_117 rfl ?_
  exact ⟨rfl, rfl, rfl⟩
set_option maxRecDepth 100000 in
theorem c_mstatus4 {d0 kd kp rp : Nat} {g : GH} : ACi mX11_status d0 (SS kd kp rp) g [.ref 76, .int (nI 4)] (fun r S' g' => S' = SS kd kp rp ∧ g' = th0 g ∧ r = gF g 76 22) := by
  refine ACi.of lcX11_status rfl rfl (fun X Q ad hR ret => ?_)
  refine AW_ls (ls' := [_, _, _, _]) rfl ?_
  refine a_aload_n (pc := 0) dX11_status_0 rfl ?_
  refine a_iconst (pc := 1) (nI 0) dX11_status_1 (by decide) ?_
  refine a_pi (pc := 2) dX11_status_2 fX11_104 rfl ?_
  refine a_iconst (pc := 5) (nI 0) dX11_status_5 (by decide) ?_
  refine a_istore_n (pc := 6) (ls' := [_, _, _, _]) dX11_status_6 (Nat.le_of_ble_eq_true rfl) rfl ?_
  refine a_iload_n (pc := 7) dX11_status_7 rfl ?_
  refine a_tabIn (pc := 8) 118 dX11_status_8 (by decide) (by decide) rfl (by decide) ?_
  refine a_aload_n (pc := 118) dX11_status_118 rfl ?_
  refine a_gi (pc := 119) dX11_status_119 fX11_225 rfl ?_
  refine ret _ _ 122 _ _ dX11_status_122 rfl ?_
  exact ⟨rfl, rfl, rfl⟩
set_option maxRecDepth 100000 in
theorem c_mstatus5 {d0 kd kp rp : Nat} {g : GH} (n : Nat) (hn : gA g 81 0 = nI n) (hn60 : n ≤ 60) : ACi mX11_status (d0 + 3) (SS kd kp rp) g [.ref 76, .int (nI 5)] (fun r S' g' => S' = SS kd kp rp ∧ g' = th0 g ∧ r = if gF g 76 6 = nI 2 then (verA (gA g 77) (gA g 78) (gA g 79) (gA g 80) 0 n) else nI 0) := by
  refine ACi.of lcX11_status rfl rfl (fun X Q ad hR ret => ?_)
  refine AW_ls (ls' := [_, _, _, _]) rfl ?_
  refine a_aload_n (pc := 0) dX11_status_0 rfl ?_
  refine a_iconst (pc := 1) (nI 0) dX11_status_1 (by decide) ?_
  refine a_pi (pc := 2) dX11_status_2 fX11_104 rfl ?_
  refine a_iconst (pc := 5) (nI 0) dX11_status_5 (by decide) ?_
  refine a_istore_n (pc := 6) (ls' := [_, _, _, _]) dX11_status_6 (Nat.le_of_ble_eq_true rfl) rfl ?_
  refine a_iload_n (pc := 7) dX11_status_7 rfl ?_
  refine a_tabIn (pc := 8) 123 dX11_status_8 (by decide) (by decide) rfl (by decide) ?_
  refine a_aload_n (pc := 123) dX11_status_123 rfl ?_
  refine a_gi (pc := 124) dX11_status_124 fX11_25 rfl ?_
  simp only [gF_pF, gF_pA, gF_pL, gA_pF, gA_pA, gA_pL, gL_pF, gL_pA, gL_pL, reduceIte, Nat.reduceEqDiff, and_false, false_and, and_true, true_and, and_self]
  refine a_iconst (pc := 127) (nI 2) dX11_status_127 (by decide) ?_
  refine a_icmp_ne (pc := 128) 139 dX11_status_128 (by decide) (fun cc => ?_) (fun cc => ?_)
  · refine a_iconst (pc := 139) (nI 0) dX11_status_139 (by decide) ?_
    refine ret _ _ 140 _ _ dX11_status_140 rfl ?_
    exact ⟨rfl, rfl, by rw [if_neg cc]⟩
  · refine a_aload_n (pc := 131) dX11_status_131 rfl ?_
    refine a_iconst (pc := 132) (nI 0) dX11_status_132 (by decide) ?_
    refine a_V1i (pc := 133) 10 dX11_status_133 lcX11_version lX11_178 rfl rfl rfl (fit_of hR (by omega) rfl) (c_version (d0 := d0) 0 n (by decide) hn hn60) rfl rfl (ex_i ?_)
    refine a_goto (pc := 136) 140 dX11_status_136 (by decide) ?_
    refine ret _ _ 140 _ _ dX11_status_140 rfl ?_
    exact ⟨rfl, rfl, by rw [if_pos cc]; rfl⟩
set_option maxRecDepth 100000 in
theorem c_mstatus6 {d0 kd kp rp : Nat} {g : GH} : ACi mX11_status d0 (SS kd kp rp) g [.ref 76, .int (nI 6)] (fun r S' g' => S' = SS kd kp rp ∧ g' = th0 g ∧ r = gF g 76 8) := by
  refine ACi.of lcX11_status rfl rfl (fun X Q ad hR ret => ?_)
  refine AW_ls (ls' := [_, _, _, _]) rfl ?_
  refine a_aload_n (pc := 0) dX11_status_0 rfl ?_
  refine a_iconst (pc := 1) (nI 0) dX11_status_1 (by decide) ?_
  refine a_pi (pc := 2) dX11_status_2 fX11_104 rfl ?_
  refine a_iconst (pc := 5) (nI 0) dX11_status_5 (by decide) ?_
  refine a_istore_n (pc := 6) (ls' := [_, _, _, _]) dX11_status_6 (Nat.le_of_ble_eq_true rfl) rfl ?_
  refine a_iload_n (pc := 7) dX11_status_7 rfl ?_
  refine a_tabIn (pc := 8) 141 dX11_status_8 (by decide) (by decide) rfl (by decide) ?_
  refine a_aload_n (pc := 141) dX11_status_141 rfl ?_
  refine a_gi (pc := 142) dX11_status_142 fX11_107 rfl ?_
  refine ret _ _ 145 _ _ dX11_status_145 rfl ?_
  exact ⟨rfl, rfl, rfl⟩
set_option maxRecDepth 100000 in
theorem c_mstatus7 {d0 kd kp rp : Nat} {g : GH} : ACi mX11_status d0 (SS kd kp rp) g [.ref 76, .int (nI 7)] (fun r S' g' => S' = SS kd kp rp ∧ g' = th0 g ∧ r = gF g 76 9) := by
  refine ACi.of lcX11_status rfl rfl (fun X Q ad hR ret => ?_)
  refine AW_ls (ls' := [_, _, _, _]) rfl ?_
  refine a_aload_n (pc := 0) dX11_status_0 rfl ?_
  refine a_iconst (pc := 1) (nI 0) dX11_status_1 (by decide) ?_
  refine a_pi (pc := 2) dX11_status_2 fX11_104 rfl ?_
  refine a_iconst (pc := 5) (nI 0) dX11_status_5 (by decide) ?_
  refine a_istore_n (pc := 6) (ls' := [_, _, _, _]) dX11_status_6 (Nat.le_of_ble_eq_true rfl) rfl ?_
  refine a_iload_n (pc := 7) dX11_status_7 rfl ?_
  refine a_tabIn (pc := 8) 146 dX11_status_8 (by decide) (by decide) rfl (by decide) ?_
  refine a_aload_n (pc := 146) dX11_status_146 rfl ?_
  refine a_gi (pc := 147) dX11_status_147 fX11_164 rfl ?_
  refine ret _ _ 150 _ _ dX11_status_150 rfl ?_
  exact ⟨rfl, rfl, rfl⟩
set_option maxRecDepth 100000 in
theorem c_mstatus8 {d0 kd kp rp : Nat} {g : GH} (w : Nat) (hw : w < 6) : ACi mX11_status (d0 + 1) (SS kd kp rp) g [.ref 76, .int (nI (11 + w))] (fun r S' g' => S' = SS kd kp rp ∧ g' = th0 g ∧ r = gA g 83 (1 + w)) := by
  have h : insQ (nI (11 + w)) (nI 11) (nI 16) = true := by
    unfold insQ
    rw [decide_eq_true (nI_le (a := 11) (b := 11 + w) (by omega) (by omega)), decide_eq_true (nI_le (a := 11 + w) (b := 16) (by omega) (by omega))]
    rfl
  refine ACi.of lcX11_status rfl rfl (fun X Q ad hR ret => ?_)
  refine AW_ls (ls' := [_, _, _, _]) rfl ?_
  refine a_aload_n (pc := 0) dX11_status_0 rfl ?_
  refine a_iconst (pc := 1) (nI 0) dX11_status_1 (by decide) ?_
  refine a_pi (pc := 2) dX11_status_2 fX11_104 rfl ?_
  refine a_iconst (pc := 5) (nI 0) dX11_status_5 (by decide) ?_
  refine a_istore_n (pc := 6) (ls' := [_, _, _, _]) dX11_status_6 (Nat.le_of_ble_eq_true rfl) rfl ?_
  refine a_iload_n (pc := 7) dX11_status_7 rfl ?_
  refine a_tabOut (pc := 8) 151 dX11_status_8 (Or.inr (by rw [nI_toInt (by omega)]; omega)) (by decide) ?_
  refine a_iload_n (pc := 151) dX11_status_151 rfl ?_
  refine a_bipush (pc := 152) (nI 11) dX11_status_152 (by decide) ?_
  refine a_bipush (pc := 154) (nI 16) dX11_status_154 (by decide) ?_
  refine a_S3i (pc := 156) dX11_status_156 lcX11_in lX11_110 (fit_of hR (by omega) rfl) (c_in (d := d0) (nI (11 + w)) (nI 11) (nI 16)) rfl rfl (ex_i ?_)
  refine a_if_eqB (pc := 159) 174 dX11_status_159 (by decide) (fun cc => ?_) (fun cc => ?_)
  · exact absurd (h.symm.trans cc) (by decide)
  · refine a_aload_n (pc := 162) dX11_status_162 rfl ?_
    refine a_gr (pc := 163) dX11_status_163 fX11_33 rfl ?_
    refine a_iload_n (pc := 166) dX11_status_166 rfl ?_
    refine a_bipush (pc := 167) (nI 10) dX11_status_167 (by decide) ?_
    refine a_isub (pc := 169) dX11_status_169 ?_
    rw [pk_sub (by omega), show 11 + w - 10 = 1 + w by omega]
    refine a_ial (pc := 170) _ dX11_status_170 rfl rfl (by omega) ?_
    refine a_goto (pc := 171) 176 dX11_status_171 (by decide) ?_
    refine ret _ _ 176 _ _ dX11_status_176 rfl ?_
    exact ⟨rfl, rfl, rfl⟩
set_option maxRecDepth 100000 in
theorem c_mstatus9 {d0 kd kp rp : Nat} {g : GH} (w : Int32) (hw : insQ w (nI 0) (nI 7) = false) (h : insQ w (nI 11) (nI 16) = false) : ACi mX11_status (d0 + 1) (SS kd kp rp) g [.ref 76, .int w] (fun r S' g' => S' = SS kd kp rp ∧ g' = th0 g ∧ r = -9) := by
  have ho : w.toInt < 0 ∨ 7 < w.toInt := by
    unfold insQ at hw
    rw [Bool.and_eq_false_iff, decide_eq_false_iff_not, decide_eq_false_iff_not] at hw
    rcases hw with q | q
    · left
      have := Int32.not_le.mp q
      rw [Int32.lt_iff_toInt_lt] at this
      exact this
    · right
      have := Int32.not_le.mp q
      rw [Int32.lt_iff_toInt_lt] at this
      exact this
  refine ACi.of lcX11_status rfl rfl (fun X Q ad hR ret => ?_)
  refine AW_ls (ls' := [_, _, _, _]) rfl ?_
  refine a_aload_n (pc := 0) dX11_status_0 rfl ?_
  refine a_iconst (pc := 1) (nI 0) dX11_status_1 (by decide) ?_
  refine a_pi (pc := 2) dX11_status_2 fX11_104 rfl ?_
  refine a_iconst (pc := 5) (nI 0) dX11_status_5 (by decide) ?_
  refine a_istore_n (pc := 6) (ls' := [_, _, _, _]) dX11_status_6 (Nat.le_of_ble_eq_true rfl) rfl ?_
  refine a_iload_n (pc := 7) dX11_status_7 rfl ?_
  refine a_tabOut (pc := 8) 151 dX11_status_8 ho (by decide) ?_
  refine a_iload_n (pc := 151) dX11_status_151 rfl ?_
  refine a_bipush (pc := 152) (nI 11) dX11_status_152 (by decide) ?_
  refine a_bipush (pc := 154) (nI 16) dX11_status_154 (by decide) ?_
  refine a_S3i (pc := 156) dX11_status_156 lcX11_in lX11_110 (fit_of hR (by omega) rfl) (c_in (d := d0) w (nI 11) (nI 16)) rfl rfl (ex_i ?_)
  refine a_if_eqB (pc := 159) 174 dX11_status_159 (by decide) (fun cc => ?_) (fun cc => ?_)
  · refine a_bipush (pc := 174) (-9) dX11_status_174 (by decide) ?_
    refine ret _ _ 176 _ _ dX11_status_176 rfl ?_
    exact ⟨rfl, rfl, rfl⟩
  · exact absurd (cc.symm.trans h) (by decide)
