/-! the reference's public methods (those that need no states) -/
def rfu (g : GH) (w : Nat) : GH := pA g 83 (upd (gA g 83) w (gA g 83 w + nI 1))
def th0 (g : GH) : GH := pF g 76 0 (nI 0)
def ptI (s p : Int32) : Bool := insQ s (nI 0) (nI 15) && insQ p (nI 0) (nI 1)
theorem insQ_ok {x : Int32} {m : Nat} (hm : m < 2147483648) : insQ x (nI 0) (nI m) = true ↔ ∃ j, j ≤ m ∧ x = nI j := by
  unfold insQ
  rw [Bool.and_eq_true, decide_eq_true_iff, decide_eq_true_iff]
  constructor
  · rintro ⟨h1, h2⟩
    have h0 : ¬ x < 0 := Int32.not_lt.mpr h1
    exact nI_of2 (M := nI m) (by rw [nI_toInt hm]) h0 h2
  · rintro ⟨j, hj, rfl⟩
    exact ⟨nI_le (by omega) (by omega), nI_le hj hm⟩
set_option maxHeartbeats 4000000 in
set_option maxRecDepth 100000 in
theorem c_format {d0 kd kp rp : Nat} {g : GH} (d k : Nat) (hd : d < 3) (hk : k < 3) : ACv mX11_format d0 (SS kd kp rp) g [.ref 76, .int (nI d), .int (nI k)] (fun S' g' => S' = SS kd kp rp ∧ ∃ P : Nat → Int32, (∀ q, q < 32 → P (32 * d + q) = if k = 2 ∧ q = 6 then nI 1 else if k = 2 ∧ q = 7 then nI 38 else nI 0) ∧ (∀ q, ¬ (32 * d ≤ q ∧ q < 32 * d + 32) → P q = gA g 77 q) ∧ g' = pA (pA g 77 P) 81 (upd (gA g 81) d (nI 0))) := by
  refine ACv.of lcX11_format rfl rfl (fun X Q ad hR ret => ?_)
  refine AW_ls (ls' := [_, _, _, _]) rfl ?_
  refine a_iconst (pc := 0) (nI 0) dX11_format_0 (by decide) ?_
  refine a_istore_n (pc := 1) (ls' := [_, _, _, _]) dX11_format_1 (Nat.le_of_ble_eq_true rfl) rfl ?_
  have loop : ∀ m i : Nat, 32 = i + m → ∀ P : Nat → Int32, (∀ q, q < i → P (32 * d + q) = nI 0) → (∀ q, ¬ (32 * d ≤ q ∧ q < 32 * d + 32) → P q = gA g 77 q) → AW mX11_format X Q ad 0 0 (conc (SS kd kp rp) (pA g 77 P)) 2 [some (.ref 76), some (.int (nI d)), some (.int (nI k)), some (.int (nI i))] [] := by
    intro m
    induction m with
    | zero =>
      intro i hi P h1 h2
      obtain rfl : i = 32 := by omega
      refine a_iload_n (pc := 2) dX11_format_2 rfl ?_
      refine a_bipush (pc := 3) (nI 32) dX11_format_3 (by decide) ?_
      refine a_icmp_geN (pc := 5) 26 dX11_format_5 (by decide) (by omega) (by omega) (fun c1 => ?_) (fun c1 => ?_)
      · refine a_iload_n (pc := 26) dX11_format_26 rfl ?_
        refine a_iconst (pc := 27) (nI 2) dX11_format_27 (by decide) ?_
        refine a_icmp_neN (pc := 28) 58 dX11_format_28 (by decide) (by omega) (by omega) (fun c2 => ?_) (fun c2 => ?_)
        · refine a_aload_n (pc := 58) dX11_format_58 rfl ?_
          refine a_gr (pc := 59) dX11_format_59 fX11_22 rfl ?_
          refine a_iload_n (pc := 62) dX11_format_62 rfl ?_
          refine a_iconst (pc := 63) (nI 0) dX11_format_63 (by decide) ?_
          refine a_ast (pc := 64) _ dX11_format_64 rfl rfl (by omega) ?_
          simp only [gF_pF, gF_pA, gF_pL, gA_pF, gA_pA, gA_pL, gL_pF, gL_pA, gL_pL, reduceIte, Nat.reduceEqDiff, and_false, false_and, and_true, true_and, and_self]
          refine ret _ _ 65 _ dX11_format_65 rfl ?_
          exact ⟨rfl, P, fun q hq => by rw [h1 q hq, if_neg (fun z => c2 z.1), if_neg (fun z => c2 z.1)], h2, rfl⟩
        · refine a_aload_n (pc := 31) dX11_format_31 rfl ?_
          refine a_gr (pc := 32) dX11_format_32 fX11_7 rfl ?_
          refine a_bipush (pc := 35) (nI 32) dX11_format_35 (by decide) ?_
          refine a_iload_n (pc := 37) dX11_format_37 rfl ?_
          refine a_imul (pc := 38) dX11_format_38 ?_
          try rw [pk_mul]
          refine a_bipush (pc := 39) (nI 6) dX11_format_39 (by decide) ?_
          refine a_iadd (pc := 41) dX11_format_41 ?_
          try rw [nI_add]
          refine a_iconst (pc := 42) (nI 1) dX11_format_42 (by decide) ?_
          refine a_ast (pc := 43) _ dX11_format_43 rfl rfl (by omega) ?_
          refine a_aload_n (pc := 44) dX11_format_44 rfl ?_
          refine a_gr (pc := 45) dX11_format_45 fX11_7 rfl ?_
          refine a_bipush (pc := 48) (nI 32) dX11_format_48 (by decide) ?_
          refine a_iload_n (pc := 50) dX11_format_50 rfl ?_
          refine a_imul (pc := 51) dX11_format_51 ?_
          try rw [pk_mul]
          refine a_bipush (pc := 52) (nI 7) dX11_format_52 (by decide) ?_
          refine a_iadd (pc := 54) dX11_format_54 ?_
          try rw [nI_add]
          refine a_bipush (pc := 55) (nI 38) dX11_format_55 (by decide) ?_
          refine a_ast (pc := 57) _ dX11_format_57 rfl rfl (by omega) ?_
          simp only [gF_pF, gF_pA, gF_pL, gA_pF, gA_pA, gA_pL, gL_pF, gL_pA, gL_pL, reduceIte, Nat.reduceEqDiff, and_false, false_and, and_true, true_and, and_self]
          rw [pA_pA, pA_pA]
          refine a_aload_n (pc := 58) dX11_format_58 rfl ?_
          refine a_gr (pc := 59) dX11_format_59 fX11_22 rfl ?_
          refine a_iload_n (pc := 62) dX11_format_62 rfl ?_
          refine a_iconst (pc := 63) (nI 0) dX11_format_63 (by decide) ?_
          refine a_ast (pc := 64) _ dX11_format_64 rfl rfl (by omega) ?_
          simp only [gF_pF, gF_pA, gF_pL, gA_pF, gA_pA, gA_pL, gL_pF, gL_pA, gL_pL, reduceIte, Nat.reduceEqDiff, and_false, false_and, and_true, true_and, and_self]
          refine ret _ _ 65 _ dX11_format_65 rfl ?_
          refine ⟨rfl, _, ?_, ?_, rfl⟩
          · intro q hq
            simp only [upd, c2, true_and]
            by_cases h7 : q = 7
            · subst h7
              simp
            · by_cases h6 : q = 6
              · subst h6
                simp
              · rw [if_neg (by omega), if_neg (by omega), if_neg h6, if_neg h7]
                exact h1 q hq
          · intro q hq
            simp only [upd]
            rw [if_neg (by omega), if_neg (by omega)]
            exact h2 q hq
      · exact absurd c1 (by omega)
    | succ m ih =>
      intro i hi P h1 h2
      refine a_iload_n (pc := 2) dX11_format_2 rfl ?_
      refine a_bipush (pc := 3) (nI 32) dX11_format_3 (by decide) ?_
      refine a_icmp_geN (pc := 5) 26 dX11_format_5 (by decide) (by omega) (by omega) (fun c1 => ?_) (fun c1 => ?_)
      · exact absurd c1 (by omega)
      · refine a_aload_n (pc := 8) dX11_format_8 rfl ?_
        refine a_gr (pc := 9) dX11_format_9 fX11_7 rfl ?_
        refine a_bipush (pc := 12) (nI 32) dX11_format_12 (by decide) ?_
        refine a_iload_n (pc := 14) dX11_format_14 rfl ?_
        refine a_imul (pc := 15) dX11_format_15 ?_
        try rw [pk_mul]
        refine a_iload_n (pc := 16) dX11_format_16 rfl ?_
        refine a_iadd (pc := 17) dX11_format_17 ?_
        try rw [nI_add]
        refine a_iconst (pc := 18) (nI 0) dX11_format_18 (by decide) ?_
        refine a_ast (pc := 19) _ dX11_format_19 rfl rfl (by omega) ?_
        refine a_iinc (pc := 20) (ls' := [_, _, _, _]) (nI 1) dX11_format_20 (by decide) rfl (Nat.le_of_ble_eq_true rfl) rfl ?_
        try rw [nI_add]
        refine a_goto (pc := 23) 2 dX11_format_23 (by decide) ?_
        simp only [gF_pF, gF_pA, gF_pL, gA_pF, gA_pA, gA_pL, gL_pF, gL_pA, gL_pL, reduceIte, Nat.reduceEqDiff, and_false, false_and, and_true, true_and, and_self]
        rw [pA_pA]
        refine ih (i + 1) (by omega) _ ?_ ?_
        · intro q hq
          simp only [upd]
          by_cases h : q = i
          · subst h
            simp
          · rw [if_neg (by omega)]
            exact h1 q (by omega)
        · intro q hq
          simp only [upd]
          rw [if_neg (by omega)]
          exact h2 q hq
  have h0 := loop 32 0 (by omega) (gA g 77) (fun q h => absurd h (by omega)) (fun _ _ => rfl)
  rw [pA_self] at h0
  exact h0
set_option maxRecDepth 100000 in
theorem c_mwrite1 {d0 kd kp rp : Nat} {g : GH} (s a b : Int32) (hs : insQ s (nI 0) (nI 15) = false) : ACi mX11_write (d0 + 1) (SS kd kp rp) g [.ref 76, .int s, .int a, .int b] (fun r S' g' => S' = SS kd kp rp ∧ g' = rfu (th0 g) 1 ∧ r = -nI 1) := by
  refine ACi.of lcX11_write rfl rfl (fun X Q ad hR ret => ?_)
  refine AW_ls (ls' := [_, _, _, _]) rfl ?_
  refine a_aload_n (pc := 0) dX11_write_0 rfl ?_
  refine a_iconst (pc := 1) (nI 0) dX11_write_1 (by decide) ?_
  refine a_pi (pc := 2) dX11_write_2 fX11_104 rfl ?_
  refine a_iload_n (pc := 5) dX11_write_5 rfl ?_
  refine a_iconst (pc := 6) (nI 0) dX11_write_6 (by decide) ?_
  refine a_bipush (pc := 7) (nI 15) dX11_write_7 (by decide) ?_
  refine a_S3i (pc := 9) dX11_write_9 lcX11_in lX11_110 (fit_of hR (by omega) rfl) (c_in (d := d0) s (nI 0) (nI 15)) rfl rfl (ex_i ?_)
  refine a_if_neB (pc := 12) 21 dX11_write_12 (by decide) (fun cc => ?_) (fun cc => ?_)
  · exact absurd (cc.symm.trans hs) (by decide)
  · refine a_aload_n (pc := 15) dX11_write_15 rfl ?_
    refine a_iconst (pc := 16) (-1) dX11_write_16 (by decide) ?_
    refine a_V1i (pc := 17) 10 dX11_write_17 lcX11_refuse lX11_114 rfl rfl rfl (fit_of hR (by omega) rfl) (c_refuse (d := d0) 1 (by decide)) rfl rfl (ex_i ?_)
    refine ret _ _ 20 _ _ dX11_write_20 rfl ?_
    exact ⟨rfl, rfl, rfl⟩
set_option maxRecDepth 100000 in
theorem c_mwrite2 {d0 kd kp rp : Nat} {g : GH} (s a b : Int32) (n : Nat) (hs : insQ s (nI 0) (nI 15) = true) (hn : gA g 81 0 = nI n) (hn60 : n < 60) : ACi mX11_write (d0 + 1) (SS kd kp rp) g [.ref 76, .int s, .int a, .int b] (fun r S' g' => S' = SS kd kp rp ∧ g' = pushG (th0 g) 0 s a b n ∧ r = nI (n + 1)) := by
  refine ACi.of lcX11_write rfl rfl (fun X Q ad hR ret => ?_)
  refine AW_ls (ls' := [_, _, _, _]) rfl ?_
  refine a_aload_n (pc := 0) dX11_write_0 rfl ?_
  refine a_iconst (pc := 1) (nI 0) dX11_write_1 (by decide) ?_
  refine a_pi (pc := 2) dX11_write_2 fX11_104 rfl ?_
  refine a_iload_n (pc := 5) dX11_write_5 rfl ?_
  refine a_iconst (pc := 6) (nI 0) dX11_write_6 (by decide) ?_
  refine a_bipush (pc := 7) (nI 15) dX11_write_7 (by decide) ?_
  refine a_S3i (pc := 9) dX11_write_9 lcX11_in lX11_110 (fit_of hR (by omega) rfl) (c_in (d := d0) s (nI 0) (nI 15)) rfl rfl (ex_i ?_)
  refine a_if_neB (pc := 12) 21 dX11_write_12 (by decide) (fun cc => ?_) (fun cc => ?_)
  · refine a_aload_n (pc := 21) dX11_write_21 rfl ?_
    refine a_iconst (pc := 22) (nI 0) dX11_write_22 (by decide) ?_
    refine a_iload_n (pc := 23) dX11_write_23 rfl ?_
    refine a_iload_n (pc := 24) dX11_write_24 rfl ?_
    refine a_iload_n (pc := 25) dX11_write_25 rfl ?_
    refine a_V4i (pc := 26) 10 dX11_write_26 lcX11_push lX11_118 rfl rfl rfl (fit_of hR (by omega) rfl) (c_push (d0 := d0) 0 s a b n (by decide) hn hn60) rfl rfl (ex_i ?_)
    refine a_if_eqN (pc := 29) 41 dX11_write_29 (by decide) (by omega) (fun c2 => ?_) (fun c2 => ?_)
    · exact absurd c2 (by decide)
    · refine a_aload_n (pc := 32) dX11_write_32 rfl ?_
      refine a_gr (pc := 33) dX11_write_33 fX11_22 rfl ?_
      refine a_iconst (pc := 36) (nI 0) dX11_write_36 (by decide) ?_
      refine a_ial (pc := 37) _ dX11_write_37 rfl rfl (by omega) ?_
      refine a_goto (pc := 38) 47 dX11_write_38 (by decide) ?_
      refine ret _ _ 47 _ _ dX11_write_47 rfl ?_
      exact ⟨rfl, rfl, rfl⟩
  · exact absurd (hs.symm.trans cc) (by decide)
set_option maxRecDepth 100000 in
theorem c_mwrite3 {d0 kd kp rp : Nat} {g : GH} (s a b : Int32) (hs : insQ s (nI 0) (nI 15) = true) (hn : gA g 81 0 = nI 60) : ACi mX11_write (d0 + 1) (SS kd kp rp) g [.ref 76, .int s, .int a, .int b] (fun r S' g' => S' = SS kd kp rp ∧ g' = rfu (th0 g) 6 ∧ r = -nI 6) := by
  refine ACi.of lcX11_write rfl rfl (fun X Q ad hR ret => ?_)
  refine AW_ls (ls' := [_, _, _, _]) rfl ?_
  refine a_aload_n (pc := 0) dX11_write_0 rfl ?_
  refine a_iconst (pc := 1) (nI 0) dX11_write_1 (by decide) ?_
  refine a_pi (pc := 2) dX11_write_2 fX11_104 rfl ?_
  refine a_iload_n (pc := 5) dX11_write_5 rfl ?_
  refine a_iconst (pc := 6) (nI 0) dX11_write_6 (by decide) ?_
  refine a_bipush (pc := 7) (nI 15) dX11_write_7 (by decide) ?_
  refine a_S3i (pc := 9) dX11_write_9 lcX11_in lX11_110 (fit_of hR (by omega) rfl) (c_in (d := d0) s (nI 0) (nI 15)) rfl rfl (ex_i ?_)
  refine a_if_neB (pc := 12) 21 dX11_write_12 (by decide) (fun cc => ?_) (fun cc => ?_)
  · refine a_aload_n (pc := 21) dX11_write_21 rfl ?_
    refine a_iconst (pc := 22) (nI 0) dX11_write_22 (by decide) ?_
    refine a_iload_n (pc := 23) dX11_write_23 rfl ?_
    refine a_iload_n (pc := 24) dX11_write_24 rfl ?_
    refine a_iload_n (pc := 25) dX11_write_25 rfl ?_
    refine a_V4i (pc := 26) 10 dX11_write_26 lcX11_push lX11_118 rfl rfl rfl (fit_of hR (by omega) rfl) (c_push0 (d0 := d0) 0 s a b (by decide) hn) rfl rfl (ex_i ?_)
    refine a_if_eqN (pc := 29) 41 dX11_write_29 (by decide) (by omega) (fun c2 => ?_) (fun c2 => ?_)
    · refine a_aload_n (pc := 41) dX11_write_41 rfl ?_
      refine a_bipush (pc := 42) (-6) dX11_write_42 (by decide) ?_
      refine a_V1i (pc := 44) 10 dX11_write_44 lcX11_refuse lX11_114 rfl rfl rfl (fit_of hR (by omega) rfl) (c_refuse (d := d0) 6 (by decide)) rfl rfl (ex_i ?_)
      refine ret _ _ 47 _ _ dX11_write_47 rfl ?_
      exact ⟨rfl, rfl, rfl⟩
    · exact absurd rfl c2
  · exact absurd (hs.symm.trans cc) (by decide)
set_option maxRecDepth 100000 in
theorem c_mfence2 {d0 kd kp rp : Nat} {g : GH} (n : Nat) (hn : gA g 81 0 = nI n) (hn60 : n < 60) : ACi mX11_fence (d0 + 1) (SS kd kp rp) g [.ref 76] (fun r S' g' => S' = SS kd kp rp ∧ g' = pushG (th0 g) 0 (-1) (nI 0) (nI 0) n ∧ r = nI (n + 1)) := by
  refine ACi.of lcX11_fence rfl rfl (fun X Q ad hR ret => ?_)
  refine AW_ls (ls' := [_]) rfl ?_
  refine a_aload_n (pc := 0) dX11_fence_0 rfl ?_
  refine a_iconst (pc := 1) (nI 0) dX11_fence_1 (by decide) ?_
  refine a_pi (pc := 2) dX11_fence_2 fX11_104 rfl ?_
  refine a_aload_n (pc := 5) dX11_fence_5 rfl ?_
  refine a_iconst (pc := 6) (nI 0) dX11_fence_6 (by decide) ?_
  refine a_iconst (pc := 7) (-1) dX11_fence_7 (by decide) ?_
  refine a_iconst (pc := 8) (nI 0) dX11_fence_8 (by decide) ?_
  refine a_iconst (pc := 9) (nI 0) dX11_fence_9 (by decide) ?_
  refine a_V4i (pc := 10) 10 dX11_fence_10 lcX11_push lX11_118 rfl rfl rfl (fit_of hR (by omega) rfl) (c_push (d0 := d0) 0 (-1) (nI 0) (nI 0) n (by decide) hn hn60) rfl rfl (ex_i ?_)
  refine a_if_eqN (pc := 13) 25 dX11_fence_13 (by decide) (by omega) (fun c2 => ?_) (fun c2 => ?_)
  · exact absurd c2 (by decide)
  · refine a_aload_n (pc := 16) dX11_fence_16 rfl ?_
    refine a_gr (pc := 17) dX11_fence_17 fX11_22 rfl ?_
    refine a_iconst (pc := 20) (nI 0) dX11_fence_20 (by decide) ?_
    refine a_ial (pc := 21) _ dX11_fence_21 rfl rfl (by omega) ?_
    refine a_goto (pc := 22) 31 dX11_fence_22 (by decide) ?_
    refine ret _ _ 31 _ _ dX11_fence_31 rfl ?_
    exact ⟨rfl, rfl, rfl⟩
set_option maxRecDepth 100000 in
theorem c_mfence3 {d0 kd kp rp : Nat} {g : GH} (hn : gA g 81 0 = nI 60) : ACi mX11_fence (d0 + 1) (SS kd kp rp) g [.ref 76] (fun r S' g' => S' = SS kd kp rp ∧ g' = rfu (th0 g) 6 ∧ r = -nI 6) := by
  refine ACi.of lcX11_fence rfl rfl (fun X Q ad hR ret => ?_)
  refine AW_ls (ls' := [_]) rfl ?_
  refine a_aload_n (pc := 0) dX11_fence_0 rfl ?_
  refine a_iconst (pc := 1) (nI 0) dX11_fence_1 (by decide) ?_
  refine a_pi (pc := 2) dX11_fence_2 fX11_104 rfl ?_
  refine a_aload_n (pc := 5) dX11_fence_5 rfl ?_
  refine a_iconst (pc := 6) (nI 0) dX11_fence_6 (by decide) ?_
  refine a_iconst (pc := 7) (-1) dX11_fence_7 (by decide) ?_
  refine a_iconst (pc := 8) (nI 0) dX11_fence_8 (by decide) ?_
  refine a_iconst (pc := 9) (nI 0) dX11_fence_9 (by decide) ?_
  refine a_V4i (pc := 10) 10 dX11_fence_10 lcX11_push lX11_118 rfl rfl rfl (fit_of hR (by omega) rfl) (c_push0 (d0 := d0) 0 (-1) (nI 0) (nI 0) (by decide) hn) rfl rfl (ex_i ?_)
  refine a_if_eqN (pc := 13) 25 dX11_fence_13 (by decide) (by omega) (fun c2 => ?_) (fun c2 => ?_)
  · refine a_aload_n (pc := 25) dX11_fence_25 rfl ?_
    refine a_bipush (pc := 26) (-6) dX11_fence_26 (by decide) ?_
    refine a_V1i (pc := 28) 10 dX11_fence_28 lcX11_refuse lX11_114 rfl rfl rfl (fit_of hR (by omega) rfl) (c_refuse (d := d0) 6 (by decide)) rfl rfl (ex_i ?_)
    refine ret _ _ 31 _ _ dX11_fence_31 rfl ?_
    exact ⟨rfl, rfl, rfl⟩
  · exact absurd rfl c2
set_option maxRecDepth 100000 in
theorem c_mflush {d0 kd kp rp : Nat} {g : GH} (n : Nat) (hn : gA g 81 0 = nI n) (hn60 : n ≤ 60) (hs : ∀ k, k < n → gA g 78 k = -1 ∨ ∃ s, s < 16 ∧ gA g 78 k = nI s) : ACi mX11_flush (d0 + 1) (SS kd kp rp) g [.ref 76] (fun r S' g' => S' = SS kd kp rp ∧ g' = pA (pA (th0 g) 77 (flP (gA g 78) (gA g 79) (gA g 80) 0 (gA g 77) n)) 81 (upd (gA g 81) 0 (nI 0)) ∧ r = nI (wct (gA g 78) n)) := by
  refine ACi.of lcX11_flush rfl rfl (fun X Q ad hR ret => ?_)
  refine AW_ls (ls' := [_]) rfl ?_
  refine a_aload_n (pc := 0) dX11_flush_0 rfl ?_
  refine a_iconst (pc := 1) (nI 0) dX11_flush_1 (by decide) ?_
  refine a_pi (pc := 2) dX11_flush_2 fX11_104 rfl ?_
  refine a_aload_n (pc := 5) dX11_flush_5 rfl ?_
  refine a_iconst (pc := 6) (nI 0) dX11_flush_6 (by decide) ?_
  refine a_V1i (pc := 7) 10 dX11_flush_7 lcX11_flushOf lX11_122 rfl rfl rfl (fit_of hR (by omega) rfl) (c_flushOf (d0 := d0) 0 n (by decide) hn hn60 (by simpa [gA_pF] using hs)) rfl rfl (ex_i ?_)
  refine ret _ _ 10 _ _ dX11_flush_10 rfl ?_
  exact ⟨rfl, rfl, by simp [gA_pF]⟩
set_option maxRecDepth 100000 in
theorem c_mread1 {d0 kd kp rp : Nat} {g : GH} (s p : Int32) (h : ptI s p = false) : ACi mX11_read (d0 + 2) (SS kd kp rp) g [.ref 76, .int s, .int p] (fun r S' g' => S' = SS kd kp rp ∧ g' = pF g 76 0 (nI 1) ∧ r = nI 0) := by
  refine ACi.of lcX11_read rfl rfl (fun X Q ad hR ret => ?_)
  refine AW_ls (ls' := [_, _, _]) rfl ?_
  refine a_aload_n (pc := 0) dX11_read_0 rfl ?_
  refine a_iload_n (pc := 1) dX11_read_1 rfl ?_
  refine a_iload_n (pc := 2) dX11_read_2 rfl ?_
  refine a_S2i (pc := 3) dX11_read_3 lcX11_isPart lX11_125 (fit_of hR (by omega) rfl) (c_isPart (d0 := d0) s p) rfl rfl (ex_i ?_)
  refine a_if_eqB (pc := 6) 13 dX11_read_6 (by decide) (fun cc => ?_) (fun cc => ?_)
  · refine a_iconst (pc := 13) (nI 1) dX11_read_13 (by decide) ?_
    refine a_pi (pc := 14) dX11_read_14 fX11_104 rfl ?_
    refine a_aload_n (pc := 17) dX11_read_17 rfl ?_
    refine a_gi (pc := 18) dX11_read_18 fX11_104 rfl ?_
    simp only [gF_pF, gF_pA, gF_pL, gA_pF, gA_pA, gA_pL, gL_pF, gL_pA, gL_pL, reduceIte, Nat.reduceEqDiff, and_false, false_and, and_true, true_and, and_self]
    refine a_if_leN (pc := 21) 28 dX11_read_21 (by decide) (by omega) (fun c2 => ?_) (fun c2 => ?_)
    · exact absurd c2 (by decide)
    · refine a_iconst (pc := 24) (nI 0) dX11_read_24 (by decide) ?_
      refine a_goto (pc := 25) 35 dX11_read_25 (by decide) ?_
      refine ret _ _ 35 _ _ dX11_read_35 rfl ?_
      exact ⟨rfl, rfl, rfl⟩
  · exact absurd (cc.symm.trans h) (by decide)
set_option maxRecDepth 100000 in
theorem c_mread2 {d0 kd kp rp : Nat} {g : GH} (s p n : Nat) (hs : s < 16) (hp : p < 2) (hn : gA g 81 0 = nI n) (hn60 : n ≤ 60) : ACi mX11_read (d0 + 2) (SS kd kp rp) g [.ref 76, .int (nI s), .int (nI p)] (fun r S' g' => S' = SS kd kp rp ∧ g' = th0 g ∧ r = (rdA (gA g 77) (gA g 78) (gA g 79) (gA g 80) 0 s p n)) := by
  have h : ptI (nI s) (nI p) = true := by rw [ptI, (insQ_ok (by decide)).mpr ⟨s, by omega, rfl⟩, (insQ_ok (by decide)).mpr ⟨p, by omega, rfl⟩]; rfl
  refine ACi.of lcX11_read rfl rfl (fun X Q ad hR ret => ?_)
  refine AW_ls (ls' := [_, _, _]) rfl ?_
  refine a_aload_n (pc := 0) dX11_read_0 rfl ?_
  refine a_iload_n (pc := 1) dX11_read_1 rfl ?_
  refine a_iload_n (pc := 2) dX11_read_2 rfl ?_
  refine a_S2i (pc := 3) dX11_read_3 lcX11_isPart lX11_125 (fit_of hR (by omega) rfl) (c_isPart (d0 := d0) (nI s) (nI p)) rfl rfl (ex_i ?_)
  refine a_if_eqB (pc := 6) 13 dX11_read_6 (by decide) (fun cc => ?_) (fun cc => ?_)
  · exact absurd (h.symm.trans cc) (by decide)
  · refine a_iconst (pc := 9) (nI 0) dX11_read_9 (by decide) ?_
    refine a_goto (pc := 10) 14 dX11_read_10 (by decide) ?_
    refine a_pi (pc := 14) dX11_read_14 fX11_104 rfl ?_
    refine a_aload_n (pc := 17) dX11_read_17 rfl ?_
    refine a_gi (pc := 18) dX11_read_18 fX11_104 rfl ?_
    simp only [gF_pF, gF_pA, gF_pL, gA_pF, gA_pA, gA_pL, gL_pF, gL_pA, gL_pL, reduceIte, Nat.reduceEqDiff, and_false, false_and, and_true, true_and, and_self]
    refine a_if_leN (pc := 21) 28 dX11_read_21 (by decide) (by omega) (fun c2 => ?_) (fun c2 => ?_)
    · refine a_aload_n (pc := 28) dX11_read_28 rfl ?_
      refine a_iconst (pc := 29) (nI 0) dX11_read_29 (by decide) ?_
      refine a_iload_n (pc := 30) dX11_read_30 rfl ?_
      refine a_iload_n (pc := 31) dX11_read_31 rfl ?_
      refine a_V3i (pc := 32) 10 dX11_read_32 lcX11_readOf lX11_129 rfl rfl rfl (fit_of hR (by omega) rfl) (c_readOf (d0 := d0) 0 s p n (by decide) hs hp hn hn60) rfl rfl (ex_i ?_)
      refine ret _ _ 35 _ _ dX11_read_35 rfl ?_
      exact ⟨rfl, rfl, rfl⟩
    · exact absurd c2 (by decide)
set_option maxRecDepth 100000 in
theorem c_mplate1 {d0 kd kp rp : Nat} {g : GH} (s p : Int32) (h : ptI s p = false) : ACi mX11_plate (d0 + 2) (SS kd kp rp) g [.ref 76, .int s, .int p] (fun r S' g' => S' = SS kd kp rp ∧ g' = pF g 76 0 (nI 1) ∧ r = nI 0) := by
  refine ACi.of lcX11_plate rfl rfl (fun X Q ad hR ret => ?_)
  refine AW_ls (ls' := [_, _, _]) rfl ?_
  refine a_aload_n (pc := 0) dX11_plate_0 rfl ?_
  refine a_iload_n (pc := 1) dX11_plate_1 rfl ?_
  refine a_iload_n (pc := 2) dX11_plate_2 rfl ?_
  refine a_S2i (pc := 3) dX11_plate_3 lcX11_isPart lX11_125 (fit_of hR (by omega) rfl) (c_isPart (d0 := d0) s p) rfl rfl (ex_i ?_)
  refine a_if_eqB (pc := 6) 13 dX11_plate_6 (by decide) (fun cc => ?_) (fun cc => ?_)
  · refine a_iconst (pc := 13) (nI 1) dX11_plate_13 (by decide) ?_
    refine a_pi (pc := 14) dX11_plate_14 fX11_104 rfl ?_
    refine a_aload_n (pc := 17) dX11_plate_17 rfl ?_
    refine a_gi (pc := 18) dX11_plate_18 fX11_104 rfl ?_
    simp only [gF_pF, gF_pA, gF_pL, gA_pF, gA_pA, gA_pL, gL_pF, gL_pA, gL_pL, reduceIte, Nat.reduceEqDiff, and_false, false_and, and_true, true_and, and_self]
    refine a_if_leN (pc := 21) 28 dX11_plate_21 (by decide) (by omega) (fun c2 => ?_) (fun c2 => ?_)
    · exact absurd c2 (by decide)
    · refine a_iconst (pc := 24) (nI 0) dX11_plate_24 (by decide) ?_
      refine a_goto (pc := 25) 38 dX11_plate_25 (by decide) ?_
      refine ret _ _ 38 _ _ dX11_plate_38 rfl ?_
      exact ⟨rfl, rfl, rfl⟩
  · exact absurd (cc.symm.trans h) (by decide)
set_option maxRecDepth 100000 in
theorem c_mplate2 {d0 kd kp rp : Nat} {g : GH} (s p : Nat) (hs : s < 16) (hp : p < 2) : ACi mX11_plate (d0 + 2) (SS kd kp rp) g [.ref 76, .int (nI s), .int (nI p)] (fun r S' g' => S' = SS kd kp rp ∧ g' = th0 g ∧ r = gA g 77 (2 * s + p)) := by
  have h : ptI (nI s) (nI p) = true := by rw [ptI, (insQ_ok (by decide)).mpr ⟨s, by omega, rfl⟩, (insQ_ok (by decide)).mpr ⟨p, by omega, rfl⟩]; rfl
  refine ACi.of lcX11_plate rfl rfl (fun X Q ad hR ret => ?_)
  refine AW_ls (ls' := [_, _, _]) rfl ?_
  refine a_aload_n (pc := 0) dX11_plate_0 rfl ?_
  refine a_iload_n (pc := 1) dX11_plate_1 rfl ?_
  refine a_iload_n (pc := 2) dX11_plate_2 rfl ?_
  refine a_S2i (pc := 3) dX11_plate_3 lcX11_isPart lX11_125 (fit_of hR (by omega) rfl) (c_isPart (d0 := d0) (nI s) (nI p)) rfl rfl (ex_i ?_)
  refine a_if_eqB (pc := 6) 13 dX11_plate_6 (by decide) (fun cc => ?_) (fun cc => ?_)
  · exact absurd (h.symm.trans cc) (by decide)
  · refine a_iconst (pc := 9) (nI 0) dX11_plate_9 (by decide) ?_
    refine a_goto (pc := 10) 14 dX11_plate_10 (by decide) ?_
    refine a_pi (pc := 14) dX11_plate_14 fX11_104 rfl ?_
    refine a_aload_n (pc := 17) dX11_plate_17 rfl ?_
    refine a_gi (pc := 18) dX11_plate_18 fX11_104 rfl ?_
    simp only [gF_pF, gF_pA, gF_pL, gA_pF, gA_pA, gA_pL, gL_pF, gL_pA, gL_pL, reduceIte, Nat.reduceEqDiff, and_false, false_and, and_true, true_and, and_self]
    refine a_if_leN (pc := 21) 28 dX11_plate_21 (by decide) (by omega) (fun c2 => ?_) (fun c2 => ?_)
    · refine a_aload_n (pc := 28) dX11_plate_28 rfl ?_
      refine a_gr (pc := 29) dX11_plate_29 fX11_7 rfl ?_
      refine a_iconst (pc := 32) (nI 2) dX11_plate_32 (by decide) ?_
      refine a_iload_n (pc := 33) dX11_plate_33 rfl ?_
      refine a_imul (pc := 34) dX11_plate_34 ?_
      try rw [pk_mul]
      refine a_iload_n (pc := 35) dX11_plate_35 rfl ?_
      refine a_iadd (pc := 36) dX11_plate_36 ?_
      try rw [nI_add]
      refine a_ial (pc := 37) _ dX11_plate_37 rfl rfl (by omega) ?_
      refine ret _ _ 38 _ _ dX11_plate_38 rfl ?_
      exact ⟨rfl, rfl, rfl⟩
    · exact absurd c2 (by decide)
