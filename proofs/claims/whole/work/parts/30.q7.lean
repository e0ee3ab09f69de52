/-- what findStates says of a queue -/
def FsP (g : GH) (d n : Nat) (b : Bool) (g' : GH) (St : Nat → Int32) (N : Nat) (o : Nat → Nat) : Prop := ∃ Od B C M W : Nat → Int32, g' = fsG g St Od B C M W (nI N) ∧ N ≤ 4096 ∧ (∀ i, i < N → Od i = nI (o i) ∧ o i < N) ∧ (b = true → Enu (inSt (fun q => gA g 77 (32 * d + q)) (fun k => gA g 78 (60 * d + k)) (fun k => gA g 79 (60 * d + k)) (fun k => gA g 80 (60 * d + k)) n) N (fun i p => St (32 * o i + p))) ∧ (b = false → Mny (inSt (fun q => gA g 77 (32 * d + q)) (fun k => gA g 78 (60 * d + k)) (fun k => gA g 79 (60 * d + k)) (fun k => gA g 80 (60 * d + k)) n))
theorem c_findS {d0 kd kp rp : Nat} {g : GH} (d n : Nat) (hd : d < 3) (hn : gA g 81 d = nI n) (hn60 : n ≤ 60) (hs : ∀ k, k < n → gA g 78 (60 * d + k) = -1 ∨ ∃ s, s < 16 ∧ gA g 78 (60 * d + k) = nI s) : ACi mX11_findStates (d0 + 3) (SS kd kp rp) g [.ref 76, .int (nI d)] (fun r S' g' => S' = SS kd kp rp ∧ ∃ (b : Bool) (St : Nat → Int32) (N : Nat) (o : Nat → Nat), r = bI b ∧ FsP g d n b g' St N o) := by
  have h := c_findStates (d0 := d0) (kd := kd) (kp := kp) (rp := rp) (g := g) d n hd hn hn60 _ _ _ _ rfl rfl rfl rfl hs
  intro l D dA ad sz
  have h2 := h l D dA ad sz
  intro p e ha hc hk s m args below hf hap hP hx
  obtain ⟨k, oc, a1, a2, a3, ⟨⟨⟨r, u, hoc, hpo, hB⟩, hF⟩, hL⟩⟩ := h2 p e ha hc hk s m args below hf hap hP hx
  obtain ⟨q1, b, St, Od, B, C, M, W, N, o, q2, q3, q4, q5, q6, q7⟩ := hpo
  exact ⟨k, oc, a1, a2, a3, ⟨⟨⟨r, u, hoc, ⟨q1, b, St, N, o, q2, Od, B, C, M, W, q3, q4, q5, q6, q7⟩, hB⟩, hF⟩, hL⟩⟩
set_option maxHeartbeats 1000000 in
set_option maxRecDepth 100000 in
theorem c_mstates {d0 kd kp rp : Nat} {g : GH} (n : Nat) (hn : gA g 81 0 = nI n) (hn60 : n ≤ 60) (hs : ∀ k, k < n → gA g 78 (60 * 0 + k) = -1 ∨ ∃ s, s < 16 ∧ gA g 78 (60 * 0 + k) = nI s) : ACi mX11_states (d0 + 4) (SS kd kp rp) g [.ref 76] (fun r S' g' => S' = SS kd kp rp ∧ ∃ (b : Bool) (g1 : GH) (St : Nat → Int32) (N : Nat) (o : Nat → Nat), FsP (th0 g) 0 n b g1 St N o ∧ (b = true → r = nI N ∧ g' = g1) ∧ (b = false → r = -nI 6 ∧ g' = rfu g1 6)) := by
  refine ACi.of lcX11_states rfl rfl (fun X Q ad hR ret => ?_)
  refine AW_ls (ls' := [_]) rfl ?_
  refine a_aload_n (pc := 0) dX11_states_0 rfl ?_
  refine a_iconst (pc := 1) (nI 0) dX11_states_1 (by decide) ?_
  refine a_pi (pc := 2) dX11_states_2 fX11_104 rfl ?_
  refine a_aload_n (pc := 5) dX11_states_5 rfl ?_
  refine a_iconst (pc := 6) (nI 0) dX11_states_6 (by decide) ?_
  refine a_V1i (pc := 7) 10 dX11_states_7 lcX11_findStates lX11_160 rfl rfl rfl (fit_of hR (by omega) rfl) (c_findS (d0 := d0) 0 n (by decide) hn hn60 hs) rfl rfl (fun rr S' g' hS hp => ?_)
  obtain ⟨rfl, b, St, N, o, rfl, hfs⟩ := hp
  have e11 : gF g' 76 11 = nI N := by
    obtain ⟨Od, B, C, M, W, rfl, -⟩ := hfs
    rfl
  refine a_if_eqB (pc := 10) 20 dX11_states_10 (by decide) (fun c1 => ?_) (fun c1 => ?_)
  · refine a_aload_n (pc := 20) dX11_states_20 rfl ?_
    refine a_bipush (pc := 21) (-6) dX11_states_21 (by decide) ?_
    refine a_V1i (pc := 23) 10 dX11_states_23 lcX11_refuse lX11_114 rfl rfl rfl (fit_of hR (by omega) rfl) (c_refuse (d := d0) 6 (by decide)) rfl rfl (ex_i ?_)
    refine ret _ _ 26 _ _ dX11_states_26 rfl ?_
    exact ⟨rfl, b, g', St, N, o, hfs, (fun z => absurd (z.symm.trans c1) (by decide)), fun _ => ⟨rfl, rfl⟩⟩
  · refine a_aload_n (pc := 13) dX11_states_13 rfl ?_
    refine a_gi (pc := 14) dX11_states_14 fX11_137 rfl ?_
    rw [e11]
    refine a_goto (pc := 17) 26 dX11_states_17 (by decide) ?_
    refine ret _ _ 26 _ _ dX11_states_26 rfl ?_
    exact ⟨rfl, b, g', St, N, o, hfs, fun _ => ⟨rfl, rfl⟩, (fun z => absurd (z.symm.trans c1) (by decide))⟩
set_option maxHeartbeats 1000000 in
set_option maxRecDepth 100000 in
theorem c_mstate1 {d0 kd kp rp : Nat} {g : GH} (i s p : Int32) (h : ptI s p = false) : ACi mX11_state (d0 + 4) (SS kd kp rp) g [.ref 76, .int i, .int s, .int p] (fun r S' g' => S' = SS kd kp rp ∧ g' = pF g 76 0 (nI 1) ∧ r = nI 0) := by
  refine ACi.of lcX11_state rfl rfl (fun X Q ad hR ret => ?_)
  refine AW_ls (ls' := [_, _, _, _]) rfl ?_
  refine a_aload_n (pc := 0) dX11_state_0 rfl ?_
  refine a_iload_n (pc := 1) dX11_state_1 rfl ?_
  refine a_iload_n (pc := 2) dX11_state_2 rfl ?_
  refine a_S2i (pc := 3) dX11_state_3 lcX11_isPart lX11_125 (fit_of hR (by omega) rfl) (c_isPart (d0 := d0) s p) rfl rfl (ex_i ?_)
  refine a_if_eqB (pc := 6) 35 dX11_state_6 (by decide) (fun cc => ?_) (fun cc => ?_)
  · refine a_iconst (pc := 35) (nI 1) dX11_state_35 (by decide) ?_
    refine a_pi (pc := 36) dX11_state_36 fX11_104 rfl ?_
    refine a_aload_n (pc := 39) dX11_state_39 rfl ?_
    refine a_gi (pc := 40) dX11_state_40 fX11_104 rfl ?_
    simp only [gF_pF, gF_pA, gF_pL, gA_pF, gA_pA, gA_pL, gL_pF, gL_pA, gL_pL, reduceIte, Nat.reduceEqDiff, and_false, false_and, and_true, true_and, and_self]
    refine a_if_leN (pc := 43) 50 dX11_state_43 (by decide) (by omega) (fun c2 => ?_) (fun c2 => ?_)
    · exact absurd c2 (by decide)
    · refine a_iconst (pc := 46) (nI 0) dX11_state_46 (by decide) ?_
      refine a_goto (pc := 47) 70 dX11_state_47 (by decide) ?_
      refine ret _ _ 70 _ _ dX11_state_70 rfl ?_
      exact ⟨rfl, rfl, rfl⟩
  · exact absurd (cc.symm.trans h) (by decide)
set_option maxHeartbeats 1000000 in
set_option maxRecDepth 100000 in
theorem c_mstate2 {d0 kd kp rp : Nat} {g : GH} (n : Nat) (i : Int32) (s p : Nat) (hs16 : s < 16) (hp2 : p < 2) (hn : gA g 81 0 = nI n) (hn60 : n ≤ 60) (hs : ∀ k, k < n → gA g 78 (60 * 0 + k) = -1 ∨ ∃ s, s < 16 ∧ gA g 78 (60 * 0 + k) = nI s) : ACi mX11_state (d0 + 4) (SS kd kp rp) g [.ref 76, .int i, .int (nI s), .int (nI p)] (fun r S' g' => S' = SS kd kp rp ∧ ∃ (b : Bool) (g1 : GH) (St : Nat → Int32) (N : Nat) (o : Nat → Nat), FsP g 0 n b g1 St N o ∧ (b = false → r = nI 0 ∧ g' = pF g1 76 0 (nI 1)) ∧ (b = true → insQ i (nI 0) (nI N - nI 1) = false → r = nI 0 ∧ g' = pF g1 76 0 (nI 1)) ∧ (b = true → ∀ j, j < N → i = nI j → r = St (32 * o j + (2 * s + p)) ∧ g' = pF g1 76 0 (nI 0))) := by
  have h : ptI (nI s) (nI p) = true := by rw [ptI, (insQ_ok (by decide)).mpr ⟨s, by omega, rfl⟩, (insQ_ok (by decide)).mpr ⟨p, by omega, rfl⟩]; rfl
  refine ACi.of lcX11_state rfl rfl (fun X Q ad hR ret => ?_)
  refine AW_ls (ls' := [_, _, _, _]) rfl ?_
  refine a_aload_n (pc := 0) dX11_state_0 rfl ?_
  refine a_iload_n (pc := 1) dX11_state_1 rfl ?_
  refine a_iload_n (pc := 2) dX11_state_2 rfl ?_
  refine a_S2i (pc := 3) dX11_state_3 lcX11_isPart lX11_125 (fit_of hR (by omega) rfl) (c_isPart (d0 := d0) (nI s) (nI p)) rfl rfl (ex_i ?_)
  refine a_if_eqB (pc := 6) 35 dX11_state_6 (by decide) (fun c0 => ?_) (fun c0 => ?_)
  · exact absurd (h.symm.trans c0) (by decide)
  · refine a_aload_n (pc := 9) dX11_state_9 rfl ?_
    refine a_iconst (pc := 10) (nI 0) dX11_state_10 (by decide) ?_
    refine a_V1i (pc := 11) 10 dX11_state_11 lcX11_findStates lX11_160 rfl rfl rfl (fit_of hR (by omega) rfl) (c_findS (d0 := d0) 0 n (by decide) hn hn60 hs) rfl rfl (fun rr S' g' hS hp => ?_)
    obtain ⟨rfl, b, St, N, o, rfl, hfs⟩ := hp
    obtain ⟨Od, B, C, M, W, rfl, hN, hOd, hq1, hq2⟩ := id hfs
    refine a_if_eqB (pc := 14) 35 dX11_state_14 (by decide) (fun c1 => ?_) (fun c1 => ?_)
    · refine a_iconst (pc := 35) (nI 1) dX11_state_35 (by decide) ?_
      refine a_pi (pc := 36) dX11_state_36 fX11_104 rfl ?_
      refine a_aload_n (pc := 39) dX11_state_39 rfl ?_
      refine a_gi (pc := 40) dX11_state_40 fX11_104 rfl ?_
      simp only [gF_pF, gF_pA, gF_pL, gA_pF, gA_pA, gA_pL, gL_pF, gL_pA, gL_pL, reduceIte, Nat.reduceEqDiff, and_false, false_and, and_true, true_and, and_self]
      refine a_if_leN (pc := 43) 50 dX11_state_43 (by decide) (by omega) (fun c2 => ?_) (fun c2 => ?_)
      · exact absurd c2 (by decide)
      · refine a_iconst (pc := 46) (nI 0) dX11_state_46 (by decide) ?_
        refine a_goto (pc := 47) 70 dX11_state_47 (by decide) ?_
        refine ret _ _ 70 _ _ dX11_state_70 rfl ?_
        exact ⟨rfl, b, _, St, N, o, hfs, fun _ => ⟨rfl, rfl⟩, (fun z => absurd (z.symm.trans c1) (by decide)), (fun z => absurd (z.symm.trans c1) (by decide))⟩
    · refine a_iload_n (pc := 17) dX11_state_17 rfl ?_
      refine a_iconst (pc := 18) (nI 0) dX11_state_18 (by decide) ?_
      refine a_aload_n (pc := 19) dX11_state_19 rfl ?_
      refine a_gi (pc := 20) dX11_state_20 fX11_137 rfl ?_
      rw [show gF (fsG g St Od B C M W (nI N)) 76 11 = nI N from rfl]
      refine a_iconst (pc := 23) (nI 1) dX11_state_23 (by decide) ?_
      refine a_isub (pc := 24) dX11_state_24 ?_
      refine a_S3i (pc := 25) dX11_state_25 lcX11_in lX11_110 (fit_of hR (by omega) rfl) (c_in (d := d0) i (nI 0) (nI N - nI 1)) rfl rfl (ex_i ?_)
      refine a_if_eqB (pc := 28) 35 dX11_state_28 (by decide) (fun c3 => ?_) (fun c3 => ?_)
      · refine a_iconst (pc := 35) (nI 1) dX11_state_35 (by decide) ?_
        refine a_pi (pc := 36) dX11_state_36 fX11_104 rfl ?_
        refine a_aload_n (pc := 39) dX11_state_39 rfl ?_
        refine a_gi (pc := 40) dX11_state_40 fX11_104 rfl ?_
        simp only [gF_pF, gF_pA, gF_pL, gA_pF, gA_pA, gA_pL, gL_pF, gL_pA, gL_pL, reduceIte, Nat.reduceEqDiff, and_false, false_and, and_true, true_and, and_self]
        refine a_if_leN (pc := 43) 50 dX11_state_43 (by decide) (by omega) (fun c2 => ?_) (fun c2 => ?_)
        · exact absurd c2 (by decide)
        · refine a_iconst (pc := 46) (nI 0) dX11_state_46 (by decide) ?_
          refine a_goto (pc := 47) 70 dX11_state_47 (by decide) ?_
          refine ret _ _ 70 _ _ dX11_state_70 rfl ?_
          exact ⟨rfl, b, _, St, N, o, hfs, (fun z => absurd (z.symm.trans c1) (by decide)), fun _ _ => ⟨rfl, rfl⟩, fun _ j hj hi => absurd ((entI_ok (i := i) (n := N) (by omega)).mpr ⟨j, hj, hi⟩) (by
            have c3 : insQ i (nI 0) (nI N - nI 1) = false := c3
            rw [c3]
            decide)⟩
      · obtain ⟨j, hj, rfl⟩ := (entI_ok (i := i) (n := N) (by omega)).mp c3
        obtain ⟨ho1, ho2⟩ := hOd j hj
        refine a_iconst (pc := 31) (nI 0) dX11_state_31 (by decide) ?_
        refine a_goto (pc := 32) 36 dX11_state_32 (by decide) ?_
        refine a_pi (pc := 36) dX11_state_36 fX11_104 rfl ?_
        refine a_aload_n (pc := 39) dX11_state_39 rfl ?_
        refine a_gi (pc := 40) dX11_state_40 fX11_104 rfl ?_
        simp only [gF_pF, gF_pA, gF_pL, gA_pF, gA_pA, gA_pL, gL_pF, gL_pA, gL_pL, reduceIte, Nat.reduceEqDiff, and_false, false_and, and_true, true_and, and_self]
        refine a_if_leN (pc := 43) 50 dX11_state_43 (by decide) (by omega) (fun c2 => ?_) (fun c2 => ?_)
        · refine a_aload_n (pc := 50) dX11_state_50 rfl ?_
          refine a_gr (pc := 51) dX11_state_51 fX11_37 rfl ?_
          refine a_bipush (pc := 54) (nI 32) dX11_state_54 (by decide) ?_
          refine a_aload_n (pc := 56) dX11_state_56 rfl ?_
          refine a_gr (pc := 57) dX11_state_57 fX11_40 rfl ?_
          refine a_iload_n (pc := 60) dX11_state_60 rfl ?_
          refine a_ial (pc := 61) _ dX11_state_61 rfl rfl (by omega) ?_
          rw [show gA (pF (fsG g St Od B C M W (nI N)) 76 0 (nI 0)) 85 j = nI (o j) from ho1]
          refine a_imul (pc := 62) dX11_state_62 ?_
          try rw [pk_mul]
          refine a_iconst (pc := 63) (nI 2) dX11_state_63 (by decide) ?_
          refine a_iload_n (pc := 64) dX11_state_64 rfl ?_
          refine a_imul (pc := 65) dX11_state_65 ?_
          try rw [pk_mul]
          refine a_iadd (pc := 66) dX11_state_66 ?_
          try rw [nI_add]
          refine a_iload_n (pc := 67) dX11_state_67 rfl ?_
          refine a_iadd (pc := 68) dX11_state_68 ?_
          try rw [nI_add]
          refine a_ial (pc := 69) _ dX11_state_69 rfl rfl (by omega) ?_
          refine ret _ _ 70 _ _ dX11_state_70 rfl ?_
          refine ⟨rfl, b, _, St, N, o, hfs, (fun z => absurd (z.symm.trans c1) (by decide)), (fun _ z => absurd (z.symm.trans c3) (by decide)), fun _ j' hj' e => ?_⟩
          rw [nI_eq (by omega) (by omega)] at e
          subst e
          refine ⟨?_, rfl⟩
          show St (32 * o j + 2 * s + p) = _
          rw [Nat.add_assoc]
        · exact absurd c2 (by decide)
set_option maxHeartbeats 1000000 in
set_option maxRecDepth 100000 in
theorem c_mfall {d0 kd kp rp : Nat} {g : GH} (n : Nat) (i : Int32) (hn : gA g 81 0 = nI n) (hn60 : n ≤ 60) (hs : ∀ k, k < n → gA g 78 (60 * 0 + k) = -1 ∨ ∃ s, s < 16 ∧ gA g 78 (60 * 0 + k) = nI s) : ACi mX11_fall (d0 + 4) (SS kd kp rp) g [.ref 76, .int i] (fun r S' g' => S' = SS kd kp rp ∧ ∃ (b : Bool) (g1 : GH) (St : Nat → Int32) (N : Nat) (o : Nat → Nat), FsP (th0 g) 0 n b g1 St N o ∧ (b = false → r = -nI 6 ∧ g' = rfu g1 6) ∧ (b = true → insQ i (nI 0) (nI N - nI 1) = false → r = -nI 1 ∧ g' = rfu g1 1) ∧ (b = true → ∀ j, j < N → i = nI j → r = nI 1 ∧ ∃ P : Nat → Int32, (∀ q, q < 32 → P q = St (32 * o j + q)) ∧ (∀ q, 32 ≤ q → P q = gA g 77 q) ∧ g' = pF (pA (pA g1 77 P) 81 (upd (gA g 81) 0 (nI 0))) 76 9 (gF g 76 9 + nI 1))) := by
  refine ACi.of lcX11_fall rfl rfl (fun X Q ad hR ret => ?_)
  refine AW_ls (ls' := [_, _, _]) rfl ?_
  refine a_aload_n (pc := 0) dX11_fall_0 rfl ?_
  refine a_iconst (pc := 1) (nI 0) dX11_fall_1 (by decide) ?_
  refine a_pi (pc := 2) dX11_fall_2 fX11_104 rfl ?_
  refine a_aload_n (pc := 5) dX11_fall_5 rfl ?_
  refine a_iconst (pc := 6) (nI 0) dX11_fall_6 (by decide) ?_
  refine a_V1i (pc := 7) 10 dX11_fall_7 lcX11_findStates lX11_160 rfl rfl rfl (fit_of hR (by omega) rfl) (c_findS (d0 := d0) 0 n (by decide) hn hn60 hs) rfl rfl (fun rr S' g' hS hp => ?_)
  obtain ⟨rfl, b, St, N, o, rfl, hfs⟩ := hp
  obtain ⟨Od, B, C, M, W, rfl, hN, hOd, hq1, hq2⟩ := id hfs
  refine a_if_neB (pc := 10) 20 dX11_fall_10 (by decide) (fun c1 => ?_) (fun c1 => ?_)
  · refine a_iload_n (pc := 20) dX11_fall_20 rfl ?_
    refine a_iconst (pc := 21) (nI 0) dX11_fall_21 (by decide) ?_
    refine a_aload_n (pc := 22) dX11_fall_22 rfl ?_
    refine a_gi (pc := 23) dX11_fall_23 fX11_137 rfl ?_
    rw [show gF (fsG (pF g 76 0 (nI 0)) St Od B C M W (nI N)) 76 11 = nI N from rfl]
    refine a_iconst (pc := 26) (nI 1) dX11_fall_26 (by decide) ?_
    refine a_isub (pc := 27) dX11_fall_27 ?_
    refine a_S3i (pc := 28) dX11_fall_28 lcX11_in lX11_110 (fit_of hR (by omega) rfl) (c_in (d := d0) i (nI 0) (nI N - nI 1)) rfl rfl (ex_i ?_)
    refine a_if_neB (pc := 31) 40 dX11_fall_31 (by decide) (fun c3 => ?_) (fun c3 => ?_)
    · obtain ⟨j, hj, rfl⟩ := (entI_ok (i := i) (n := N) (by omega)).mp c3
      obtain ⟨ho1, ho2⟩ := hOd j hj
      refine a_iconst (pc := 40) (nI 0) dX11_fall_40 (by decide) ?_
      refine a_istore_n (pc := 41) (ls' := [_, _, _]) dX11_fall_41 (Nat.le_of_ble_eq_true rfl) rfl ?_
      have loop : ∀ t q, 32 = q + t → ∀ P : Nat → Int32, (∀ x, x < q → P x = St (32 * o j + x)) → (∀ x, 32 ≤ x → P x = gA g 77 x) → AW mX11_fall X Q ad 0 0 (conc (SS kd kp rp) (pA (fsG (pF g 76 0 (nI 0)) St Od B C M W (nI N)) 77 P)) 42 [some (.ref 76), some (.int (nI j)), some (.int (nI q))] [] := by
        intro t
        induction t with
        | zero =>
          intro q hq P h1 h2
          obtain rfl : q = 32 := by omega
          refine a_iload_n (pc := 42) dX11_fall_42 rfl ?_
          refine a_bipush (pc := 43) (nI 32) dX11_fall_43 (by decide) ?_
          refine a_icmp_geN (pc := 45) 76 dX11_fall_45 (by decide) (by omega) (by omega) (fun c4 => ?_) (fun c4 => ?_)
          · refine a_aload_n (pc := 76) dX11_fall_76 rfl ?_
            refine a_gr (pc := 77) dX11_fall_77 fX11_22 rfl ?_
            refine a_iconst (pc := 80) (nI 0) dX11_fall_80 (by decide) ?_
            refine a_iconst (pc := 81) (nI 0) dX11_fall_81 (by decide) ?_
            refine a_ast (pc := 82) _ dX11_fall_82 rfl rfl (by omega) ?_
            refine a_aload_n (pc := 83) dX11_fall_83 rfl ?_
            refine a_dup (pc := 84) dX11_fall_84 rfl ?_
            refine a_gi (pc := 85) dX11_fall_85 fX11_164 rfl ?_
            refine a_iconst (pc := 88) (nI 1) dX11_fall_88 (by decide) ?_
            refine a_iadd (pc := 89) dX11_fall_89 ?_
            try rw [nI_add]
            refine a_pi (pc := 90) dX11_fall_90 fX11_164 rfl ?_
            refine a_iconst (pc := 93) (nI 1) dX11_fall_93 (by decide) ?_
            simp only [gF_pF, gF_pA, gF_pL, gA_pF, gA_pA, gA_pL, gL_pF, gL_pA, gL_pL, reduceIte, Nat.reduceEqDiff, and_false, false_and, and_true, true_and, and_self]
            refine ret _ _ 94 _ _ dX11_fall_94 rfl ?_
            refine ⟨rfl, b, _, St, N, o, hfs, (fun z => absurd (z.symm.trans c1) (by decide)), (fun _ z => absurd (z.symm.trans c3) (by decide)), fun _ j' hj' e => ?_⟩
            rw [nI_eq (by omega) (by omega)] at e
            subst e
            exact ⟨rfl, P, h1, h2, rfl⟩
          · exact absurd c4 (by omega)
        | succ t ih =>
          intro q hq P h1 h2
          refine a_iload_n (pc := 42) dX11_fall_42 rfl ?_
          refine a_bipush (pc := 43) (nI 32) dX11_fall_43 (by decide) ?_
          refine a_icmp_geN (pc := 45) 76 dX11_fall_45 (by decide) (by omega) (by omega) (fun c4 => ?_) (fun c4 => ?_)
          · exact absurd c4 (by omega)
          · refine a_aload_n (pc := 48) dX11_fall_48 rfl ?_
            refine a_gr (pc := 49) dX11_fall_49 fX11_7 rfl ?_
            refine a_iload_n (pc := 52) dX11_fall_52 rfl ?_
            refine a_aload_n (pc := 53) dX11_fall_53 rfl ?_
            refine a_gr (pc := 54) dX11_fall_54 fX11_37 rfl ?_
            refine a_bipush (pc := 57) (nI 32) dX11_fall_57 (by decide) ?_
            refine a_aload_n (pc := 59) dX11_fall_59 rfl ?_
            refine a_gr (pc := 60) dX11_fall_60 fX11_40 rfl ?_
            refine a_iload_n (pc := 63) dX11_fall_63 rfl ?_
            refine a_ial (pc := 64) _ dX11_fall_64 rfl rfl (by omega) ?_
            rw [show gA (pA (fsG (pF g 76 0 (nI 0)) St Od B C M W (nI N)) 77 P) 85 j = nI (o j) from ho1]
            refine a_imul (pc := 65) dX11_fall_65 ?_
            try rw [pk_mul]
            refine a_iload_n (pc := 66) dX11_fall_66 rfl ?_
            refine a_iadd (pc := 67) dX11_fall_67 ?_
            try rw [nI_add]
            refine a_ial (pc := 68) _ dX11_fall_68 rfl rfl (by omega) ?_
            rw [show gA (pA (fsG (pF g 76 0 (nI 0)) St Od B C M W (nI N)) 77 P) 84 (32 * o j + q) = St (32 * o j + q) from rfl]
            refine a_ast (pc := 69) _ dX11_fall_69 rfl rfl (by omega) ?_
            refine a_iinc (pc := 70) (ls' := [_, _, _]) (nI 1) dX11_fall_70 (by decide) rfl (Nat.le_of_ble_eq_true rfl) rfl ?_
            try rw [nI_add]
            refine a_goto (pc := 73) 42 dX11_fall_73 (by decide) ?_
            rw [pA_pA]
            refine ih (q + 1) (by omega) _ (fun x hx => ?_) (fun x hx => ?_)
            · show upd P q (St (32 * o j + q)) x = _
              rw [upd]
              by_cases z : x = q
              · rw [if_pos z, z]
              · rw [if_neg z]
                exact h1 x (by omega)
            · show upd P q (St (32 * o j + q)) x = _
              rw [upd, if_neg (by omega)]
              exact h2 x hx
      have h0 := loop 32 0 (by omega) (gA g 77) (fun x h => absurd h (by omega)) (fun _ _ => rfl)
      have e0 : pA (fsG (pF g 76 0 (nI 0)) St Od B C M W (nI N)) 77 (gA g 77) = fsG (pF g 76 0 (nI 0)) St Od B C M W (nI N) := pA_self (fsG (pF g 76 0 (nI 0)) St Od B C M W (nI N)) 77
      rw [e0] at h0
      exact h0
    · refine a_aload_n (pc := 34) dX11_fall_34 rfl ?_
      refine a_iconst (pc := 35) (-1) dX11_fall_35 (by decide) ?_
      refine a_V1i (pc := 36) 10 dX11_fall_36 lcX11_refuse lX11_114 rfl rfl rfl (fit_of hR (by omega) rfl) (c_refuse (d := d0) 1 (by decide)) rfl rfl (ex_i ?_)
      refine ret _ _ 39 _ _ dX11_fall_39 rfl ?_
      exact ⟨rfl, b, _, St, N, o, hfs, (fun z => absurd (z.symm.trans c1) (by decide)), fun _ _ => ⟨rfl, rfl⟩, fun _ j hj hi => absurd ((entI_ok (i := i) (n := N) (by omega)).mpr ⟨j, hj, hi⟩) (by
        have c3 : insQ i (nI 0) (nI N - nI 1) = false := c3
        rw [c3]
        decide)⟩
  · refine a_aload_n (pc := 13) dX11_fall_13 rfl ?_
    refine a_bipush (pc := 14) (-6) dX11_fall_14 (by decide) ?_
    refine a_V1i (pc := 16) 10 dX11_fall_16 lcX11_refuse lX11_114 rfl rfl rfl (fit_of hR (by omega) rfl) (c_refuse (d := d0) 6 (by decide)) rfl rfl (ex_i ?_)
    refine ret _ _ 19 _ _ dX11_fall_19 rfl ?_
    exact ⟨rfl, b, _, St, N, o, hfs, fun _ => ⟨rfl, rfl⟩, (fun z => absurd (z.symm.trans c1) (by decide)), (fun z => absurd (z.symm.trans c1) (by decide))⟩
