/-! filling, formatting, and what else a kind tells -/
section A51
variable {M : Mi} {X : Cx} {Q : State → Prop} {ad : Nat → Nat} {k n : Nat} {S : sH} {g : GH} {pc : Nat} {ls : List (Option Value)} {st : List Value}
theorem lnAt_ai {S : sH} {a m : Nat} (h : aiAt S a 0 = some m) : lnAt S a = some m := by
  unfold aiAt at h
  unfold lnAt
  split at h
  · rename_i hb
    rw [hb]
    dsimp only
    split at h
    · rename_i t n f hx
      rw [hx]
      dsimp only
      split at h
      · rename_i ht
        rw [Bool.and_eq_true] at ht
        have : t = 0 := Nat.eq_of_beq_eq_true ht.1
        subst this
        exact h
      · cases h
    · cases h
  · cases h
end A51
set_option maxHeartbeats 1000000 in
set_option maxRecDepth 100000 in
theorem c_fill {d0 : Nat} {S : sH} {g : GH} (a N : Nat) (x : Int32) (ha : aiAt S a 0 = some N) (hN : N ≤ 1000) : ACv mJ7_fill_53178 d0 S g [.ref a, .int x] (fun S' g' => S' = S ∧ (∀ j, j < N → gA g' a j = x) ∧ Fr [a] g g' ∧ ∀ b k, gF g' b k = gF g b k) := by
  refine ACv.of lcJ7_fill_53178 rfl rfl (fun X Q ad hR ret => ?_)
  refine AW_ls (ls' := [_, _, _, _]) rfl ?_
  refine a_iconst (pc := 0) (nI 0) dJ7_fill_53178_0 (by decide) ?_
  refine a_istore_n (pc := 1) (ls' := [_, _, _, _]) dJ7_fill_53178_1 (Nat.le_of_ble_eq_true rfl) rfl ?_
  refine a_aload_n (pc := 2) dJ7_fill_53178_2 rfl ?_
  refine a_alen (pc := 3) dJ7_fill_53178_3 (lnAt_ai ha) ?_
  refine a_istore_n (pc := 4) (ls' := [_, _, _, _]) dJ7_fill_53178_4 (Nat.le_of_ble_eq_true rfl) rfl ?_
  have loop : ∀ t j, N = j + t → ∀ g1 : GH, (∀ i, i < j → gA g1 a i = x) → Fr [a] g g1 → (∀ b k, gF g1 b k = gF g b k) → AW mJ7_fill_53178 X Q ad 0 0 (conc S g1) 5 [some (.ref a), some (.int x), some (.int (nI j)), some (.int (nI N))] [] := by
    intro t
    induction t with
    | zero =>
      intro j hj g1 h1 hf hF
      refine a_iload_n (pc := 5) dJ7_fill_53178_5 rfl ?_
      refine a_iload_n (pc := 6) dJ7_fill_53178_6 rfl ?_
      refine a_icmp_geN (pc := 7) 20 dJ7_fill_53178_7 (by decide) (by omega) (by omega) (fun c1 => ?_) (fun c1 => ?_)
      · refine ret _ _ 20 _ dJ7_fill_53178_20 rfl ?_
        exact ⟨rfl, fun i hi => h1 i (by omega), hf, hF⟩
      · exact absurd c1 (by omega)
    | succ t ih =>
      intro j hj g1 h1 hf hF
      refine a_iload_n (pc := 5) dJ7_fill_53178_5 rfl ?_
      refine a_iload_n (pc := 6) dJ7_fill_53178_6 rfl ?_
      refine a_icmp_geN (pc := 7) 20 dJ7_fill_53178_7 (by decide) (by omega) (by omega) (fun c1 => ?_) (fun c1 => ?_)
      · exact absurd c1 (by omega)
      · refine a_aload_n (pc := 10) dJ7_fill_53178_10 rfl ?_
        refine a_iload_n (pc := 11) dJ7_fill_53178_11 rfl ?_
        refine a_iload_n (pc := 12) dJ7_fill_53178_12 rfl ?_
        refine a_ast (pc := 13) j dJ7_fill_53178_13 ha rfl (by omega) ?_
        refine a_iinc (pc := 14) (ls' := [_, _, _, _]) (nI 1) dJ7_fill_53178_14 (by decide) rfl (Nat.le_of_ble_eq_true rfl) rfl ?_
        try rw [nI_add]
        refine a_goto (pc := 17) 5 dJ7_fill_53178_17 (by decide) ?_
        refine ih (j + 1) (by omega) _ (fun i hi => ?_) (hf.sA (by simp) _) hF
        rw [gA_pA, if_pos rfl, upd]
        by_cases e : i = j
        · rw [if_pos e]
        · rw [if_neg e]
          exact h1 i (by omega)
  exact loop N 0 (by omega) g (fun i hi => absurd hi (by omega)) (Fr.rf _ g) (fun _ _ => rfl)
set_option maxRecDepth 100000 in
theorem c_lay_3 {d0 kd kp rp : Nat} {g : GH} (a : Nat) : ACv mX1_layOut d0 (SS kd kp rp) g [.ref a, .ref 3] (fun S' g' => S' = SS kd kp rp ∧ g' = g) := by
  refine ACv.of lcX1_layOut rfl rfl (fun X Q ad hR ret => ?_)
  refine AW_ls (ls' := [_, _]) rfl ?_
  refine ret _ _ 0 _ dX1_layOut_0 rfl ?_
  exact ⟨rfl, rfl⟩
set_option maxRecDepth 100000 in
theorem c_lay2_3 {d0 kd kp rp : Nat} {g : GH} : ACv mX8_layOut (d0 + 1) (SS kd kp rp) g [.ref 73, .ref 3] (fun S' g' => S' = SS kd kp rp ∧ g' = pA g 3 (upd (upd (gA g 3) 6 (nI 1)) 7 (nI 38))) := by
  refine ACv.of lcX8_layOut rfl rfl (fun X Q ad hR ret => ?_)
  refine AW_ls (ls' := [_, _]) rfl ?_
  refine a_aload_n (pc := 0) dX8_layOut_0 rfl ?_
  refine a_bipush (pc := 1) (nI 6) dX8_layOut_1 (by decide) ?_
  refine a_iconst (pc := 3) (nI 1) dX8_layOut_3 (by decide) ?_
  refine a_ast (pc := 4) _ dX8_layOut_4 rfl rfl (by omega) ?_
  refine a_aload_n (pc := 5) dX8_layOut_5 rfl ?_
  refine a_bipush (pc := 6) (nI 7) dX8_layOut_6 (by decide) ?_
  refine a_iconst (pc := 8) (nI 1) dX8_layOut_8 (by decide) ?_
  refine a_S1i (pc := 9) dX8_layOut_9 lcX8_seal lX8_47 (fit_of hR (by omega) rfl) (c_seal (d0 := d0) (nI 1)) rfl rfl (ex_i ?_)
  refine a_ast (pc := 12) _ dX8_layOut_12 rfl rfl (by omega) ?_
  refine ret _ _ 13 _ dX8_layOut_13 rfl ?_
  refine ⟨rfl, ?_⟩
  simp only [gF_pF, gF_pA, gF_pL, gA_pF, gA_pA, gA_pL, gL_pF, gL_pA, gL_pL, reduceIte, Nat.reduceEqDiff, and_false, false_and, and_true, true_and, and_self]
  rw [pA_pA]
  rfl
set_option maxRecDepth 100000 in
theorem c_lay_29 {d0 kd kp rp : Nat} {g : GH} (a : Nat) : ACv mX1_layOut d0 (SS kd kp rp) g [.ref a, .ref 29] (fun S' g' => S' = SS kd kp rp ∧ g' = g) := by
  refine ACv.of lcX1_layOut rfl rfl (fun X Q ad hR ret => ?_)
  refine AW_ls (ls' := [_, _]) rfl ?_
  refine ret _ _ 0 _ dX1_layOut_0 rfl ?_
  exact ⟨rfl, rfl⟩
set_option maxRecDepth 100000 in
theorem c_lay2_29 {d0 kd kp rp : Nat} {g : GH} : ACv mX8_layOut (d0 + 1) (SS kd kp rp) g [.ref 73, .ref 29] (fun S' g' => S' = SS kd kp rp ∧ g' = pA g 29 (upd (upd (gA g 29) 6 (nI 1)) 7 (nI 38))) := by
  refine ACv.of lcX8_layOut rfl rfl (fun X Q ad hR ret => ?_)
  refine AW_ls (ls' := [_, _]) rfl ?_
  refine a_aload_n (pc := 0) dX8_layOut_0 rfl ?_
  refine a_bipush (pc := 1) (nI 6) dX8_layOut_1 (by decide) ?_
  refine a_iconst (pc := 3) (nI 1) dX8_layOut_3 (by decide) ?_
  refine a_ast (pc := 4) _ dX8_layOut_4 rfl rfl (by omega) ?_
  refine a_aload_n (pc := 5) dX8_layOut_5 rfl ?_
  refine a_bipush (pc := 6) (nI 7) dX8_layOut_6 (by decide) ?_
  refine a_iconst (pc := 8) (nI 1) dX8_layOut_8 (by decide) ?_
  refine a_S1i (pc := 9) dX8_layOut_9 lcX8_seal lX8_47 (fit_of hR (by omega) rfl) (c_seal (d0 := d0) (nI 1)) rfl rfl (ex_i ?_)
  refine a_ast (pc := 12) _ dX8_layOut_12 rfl rfl (by omega) ?_
  refine ret _ _ 13 _ dX8_layOut_13 rfl ?_
  refine ⟨rfl, ?_⟩
  simp only [gF_pF, gF_pA, gF_pL, gA_pF, gA_pA, gA_pL, gL_pF, gL_pA, gL_pL, reduceIte, Nat.reduceEqDiff, and_false, false_and, and_true, true_and, and_self]
  rw [pA_pA]
  rfl
set_option maxHeartbeats 1000000 in
set_option maxRecDepth 100000 in
theorem c_dformat_1 {d0 kd kp rp : Nat} {g : GH} (st : Nat) (hst : st < 3) : ACv mX0_format (d0 + 2) (SS kd kp rp) g [.ref 1, .ref (71 + st)] (fun S' g' => S' = SS kd kp rp ∧ CD 1 g' (fmtQ st, []) ∧ gF g' 1 11 = gF g 1 11 ∧ gF g' 1 12 = gF g 1 12 + nI 1 ∧ Fr [1, 2, 3, 4, 5, 6, 7] g g') := by
  match st, hst with
  | 0, _ =>
    refine ACv.of lcX0_format rfl rfl (fun X Q ad hR ret => ?_)
    refine AW_ls (ls' := [_, _]) rfl ?_
    refine a_aload_n (pc := 0) dX0_format_0 rfl ?_
    refine a_gr (pc := 1) dX0_format_1 fX0_15 rfl ?_
    refine a_iconst (pc := 4) (nI 0) dX0_format_4 (by decide) ?_
    refine a_S2v (pc := 5) dX0_format_5 lcJ7_fill_53178 lX0_76 (fit_of hR (by omega) rfl) (c_fill (d0 := d0) 3 32 (nI 0) rfl (by decide)) rfl rfl (fun S' g' hS hp => ?_)
    obtain ⟨rfl, h0, hf0, hF0⟩ := hp
    refine a_aload_n (pc := 8) dX0_format_8 rfl ?_
    refine a_aload_n (pc := 9) dX0_format_9 rfl ?_
    refine a_gr (pc := 10) dX0_format_10 fX0_15 rfl ?_
    refine a_U1v (pc := 13) 3 dX0_format_13 rfl lcX1_layOut lX0_82_X4 rfl (fit_of hR (by omega) rfl) (c_lay_3 (d0 := d0) 71) rfl rfl (ex_v ?_)
    refine a_aload_n (pc := 16) dX0_format_16 rfl ?_
    refine a_aload_n (pc := 17) dX0_format_17 rfl ?_
    refine a_gr (pc := 18) dX0_format_18 fX0_15 rfl ?_
    refine a_V1v (pc := 21) 0 dX0_format_21 lcX0_comeUpWith lX0_72 rfl rfl rfl (fit_of hR (by omega) rfl) (c_comeUp_1 (d0 := d0) 3 (fmtQ 0) rfl (by decide) (fun p hp => h0 p hp)) rfl rfl (fun S' g' hS hp => ?_)
    obtain ⟨rfl, y1, y2, y3, y4⟩ := hp
    refine ret _ _ 24 _ dX0_format_24 rfl ?_
    exact ⟨rfl, y1, by rw [y2, hF0], by rw [y3, hF0], (hf0.mono (by decide)).tr y4⟩
  | 1, _ =>
    refine ACv.of lcX0_format rfl rfl (fun X Q ad hR ret => ?_)
    refine AW_ls (ls' := [_, _]) rfl ?_
    refine a_aload_n (pc := 0) dX0_format_0 rfl ?_
    refine a_gr (pc := 1) dX0_format_1 fX0_15 rfl ?_
    refine a_iconst (pc := 4) (nI 0) dX0_format_4 (by decide) ?_
    refine a_S2v (pc := 5) dX0_format_5 lcJ7_fill_53178 lX0_76 (fit_of hR (by omega) rfl) (c_fill (d0 := d0) 3 32 (nI 0) rfl (by decide)) rfl rfl (fun S' g' hS hp => ?_)
    obtain ⟨rfl, h0, hf0, hF0⟩ := hp
    refine a_aload_n (pc := 8) dX0_format_8 rfl ?_
    refine a_aload_n (pc := 9) dX0_format_9 rfl ?_
    refine a_gr (pc := 10) dX0_format_10 fX0_15 rfl ?_
    refine a_U1v (pc := 13) 1 dX0_format_13 rfl lcX1_layOut lX0_82_X2 rfl (fit_of hR (by omega) rfl) (c_lay_3 (d0 := d0) 72) rfl rfl (ex_v ?_)
    refine a_aload_n (pc := 16) dX0_format_16 rfl ?_
    refine a_aload_n (pc := 17) dX0_format_17 rfl ?_
    refine a_gr (pc := 18) dX0_format_18 fX0_15 rfl ?_
    refine a_V1v (pc := 21) 0 dX0_format_21 lcX0_comeUpWith lX0_72 rfl rfl rfl (fit_of hR (by omega) rfl) (c_comeUp_1 (d0 := d0) 3 (fmtQ 1) rfl (by decide) (fun p hp => h0 p hp)) rfl rfl (fun S' g' hS hp => ?_)
    obtain ⟨rfl, y1, y2, y3, y4⟩ := hp
    refine ret _ _ 24 _ dX0_format_24 rfl ?_
    exact ⟨rfl, y1, by rw [y2, hF0], by rw [y3, hF0], (hf0.mono (by decide)).tr y4⟩
  | 2, _ =>
    refine ACv.of lcX0_format rfl rfl (fun X Q ad hR ret => ?_)
    refine AW_ls (ls' := [_, _]) rfl ?_
    refine a_aload_n (pc := 0) dX0_format_0 rfl ?_
    refine a_gr (pc := 1) dX0_format_1 fX0_15 rfl ?_
    refine a_iconst (pc := 4) (nI 0) dX0_format_4 (by decide) ?_
    refine a_S2v (pc := 5) dX0_format_5 lcJ7_fill_53178 lX0_76 (fit_of hR (by omega) rfl) (c_fill (d0 := d0) 3 32 (nI 0) rfl (by decide)) rfl rfl (fun S' g' hS hp => ?_)
    obtain ⟨rfl, h0, hf0, hF0⟩ := hp
    refine a_aload_n (pc := 8) dX0_format_8 rfl ?_
    refine a_aload_n (pc := 9) dX0_format_9 rfl ?_
    refine a_gr (pc := 10) dX0_format_10 fX0_15 rfl ?_
    refine a_U1v (pc := 13) 7 dX0_format_13 rfl lcX8_layOut lX0_82_X8 rfl (fit_of hR (by omega) rfl) (c_lay2_3 (d0 := d0)) rfl rfl (ex_v ?_)
    refine a_aload_n (pc := 16) dX0_format_16 rfl ?_
    refine a_aload_n (pc := 17) dX0_format_17 rfl ?_
    refine a_gr (pc := 18) dX0_format_18 fX0_15 rfl ?_
    have hup : ∀ p, p < 32 → upd (upd (gA g' 3) 6 (nI 1)) 7 (nI 38) p = fmtQ 2 p := by
      intro p hp
      simp only [upd, fmtQ, true_and]
      by_cases e7 : p = 7
      · rw [if_pos e7, if_neg (by omega), if_pos e7]
      · rw [if_neg e7]
        by_cases e6 : p = 6
        · rw [if_pos e6, if_pos e6]
        · rw [if_neg e6, if_neg e6, if_neg e7]
          exact h0 p hp
    refine a_V1v (pc := 21) 0 dX0_format_21 lcX0_comeUpWith lX0_72 rfl rfl rfl (fit_of hR (by omega) rfl) (c_comeUp_1 (d0 := d0) 3 (fmtQ 2) rfl (by decide) (fun p hp => hup p hp)) rfl rfl (fun S' g' hS hp => ?_)
    obtain ⟨rfl, y1, y2, y3, y4⟩ := hp
    refine ret _ _ 24 _ dX0_format_24 rfl ?_
    exact ⟨rfl, y1, by rw [y2]; exact hF0 _ _, by rw [y3]; exact congrArg (· + nI 1) (hF0 _ _), ((hf0.mono (by decide)).sA (by decide) _).tr y4⟩
set_option maxHeartbeats 1000000 in
set_option maxRecDepth 100000 in
theorem c_dformat_27 {d0 kd kp rp : Nat} {g : GH} (st : Nat) (hst : st < 3) : ACv mX0_format (d0 + 2) (SS kd kp rp) g [.ref 27, .ref (71 + st)] (fun S' g' => S' = SS kd kp rp ∧ CD 27 g' (fmtQ st, []) ∧ gF g' 27 11 = gF g 27 11 ∧ gF g' 27 12 = gF g 27 12 + nI 1 ∧ Fr [27, 28, 29, 30, 31, 32, 33] g g') := by
  match st, hst with
  | 0, _ =>
    refine ACv.of lcX0_format rfl rfl (fun X Q ad hR ret => ?_)
    refine AW_ls (ls' := [_, _]) rfl ?_
    refine a_aload_n (pc := 0) dX0_format_0 rfl ?_
    refine a_gr (pc := 1) dX0_format_1 fX0_15 rfl ?_
    refine a_iconst (pc := 4) (nI 0) dX0_format_4 (by decide) ?_
    refine a_S2v (pc := 5) dX0_format_5 lcJ7_fill_53178 lX0_76 (fit_of hR (by omega) rfl) (c_fill (d0 := d0) 29 32 (nI 0) rfl (by decide)) rfl rfl (fun S' g' hS hp => ?_)
    obtain ⟨rfl, h0, hf0, hF0⟩ := hp
    refine a_aload_n (pc := 8) dX0_format_8 rfl ?_
    refine a_aload_n (pc := 9) dX0_format_9 rfl ?_
    refine a_gr (pc := 10) dX0_format_10 fX0_15 rfl ?_
    refine a_U1v (pc := 13) 3 dX0_format_13 rfl lcX1_layOut lX0_82_X4 rfl (fit_of hR (by omega) rfl) (c_lay_29 (d0 := d0) 71) rfl rfl (ex_v ?_)
    refine a_aload_n (pc := 16) dX0_format_16 rfl ?_
    refine a_aload_n (pc := 17) dX0_format_17 rfl ?_
    refine a_gr (pc := 18) dX0_format_18 fX0_15 rfl ?_
    refine a_V1v (pc := 21) 0 dX0_format_21 lcX0_comeUpWith lX0_72 rfl rfl rfl (fit_of hR (by omega) rfl) (c_comeUp_27 (d0 := d0) 29 (fmtQ 0) rfl (by decide) (fun p hp => h0 p hp)) rfl rfl (fun S' g' hS hp => ?_)
    obtain ⟨rfl, y1, y2, y3, y4⟩ := hp
    refine ret _ _ 24 _ dX0_format_24 rfl ?_
    exact ⟨rfl, y1, by rw [y2, hF0], by rw [y3, hF0], (hf0.mono (by decide)).tr y4⟩
  | 1, _ =>
    refine ACv.of lcX0_format rfl rfl (fun X Q ad hR ret => ?_)
    refine AW_ls (ls' := [_, _]) rfl ?_
    refine a_aload_n (pc := 0) dX0_format_0 rfl ?_
    refine a_gr (pc := 1) dX0_format_1 fX0_15 rfl ?_
    refine a_iconst (pc := 4) (nI 0) dX0_format_4 (by decide) ?_
    refine a_S2v (pc := 5) dX0_format_5 lcJ7_fill_53178 lX0_76 (fit_of hR (by omega) rfl) (c_fill (d0 := d0) 29 32 (nI 0) rfl (by decide)) rfl rfl (fun S' g' hS hp => ?_)
    obtain ⟨rfl, h0, hf0, hF0⟩ := hp
    refine a_aload_n (pc := 8) dX0_format_8 rfl ?_
    refine a_aload_n (pc := 9) dX0_format_9 rfl ?_
    refine a_gr (pc := 10) dX0_format_10 fX0_15 rfl ?_
    refine a_U1v (pc := 13) 1 dX0_format_13 rfl lcX1_layOut lX0_82_X2 rfl (fit_of hR (by omega) rfl) (c_lay_29 (d0 := d0) 72) rfl rfl (ex_v ?_)
    refine a_aload_n (pc := 16) dX0_format_16 rfl ?_
    refine a_aload_n (pc := 17) dX0_format_17 rfl ?_
    refine a_gr (pc := 18) dX0_format_18 fX0_15 rfl ?_
    refine a_V1v (pc := 21) 0 dX0_format_21 lcX0_comeUpWith lX0_72 rfl rfl rfl (fit_of hR (by omega) rfl) (c_comeUp_27 (d0 := d0) 29 (fmtQ 1) rfl (by decide) (fun p hp => h0 p hp)) rfl rfl (fun S' g' hS hp => ?_)
    obtain ⟨rfl, y1, y2, y3, y4⟩ := hp
    refine ret _ _ 24 _ dX0_format_24 rfl ?_
    exact ⟨rfl, y1, by rw [y2, hF0], by rw [y3, hF0], (hf0.mono (by decide)).tr y4⟩
  | 2, _ =>
    refine ACv.of lcX0_format rfl rfl (fun X Q ad hR ret => ?_)
    refine AW_ls (ls' := [_, _]) rfl ?_
    refine a_aload_n (pc := 0) dX0_format_0 rfl ?_
    refine a_gr (pc := 1) dX0_format_1 fX0_15 rfl ?_
    refine a_iconst (pc := 4) (nI 0) dX0_format_4 (by decide) ?_
    refine a_S2v (pc := 5) dX0_format_5 lcJ7_fill_53178 lX0_76 (fit_of hR (by omega) rfl) (c_fill (d0 := d0) 29 32 (nI 0) rfl (by decide)) rfl rfl (fun S' g' hS hp => ?_)
    obtain ⟨rfl, h0, hf0, hF0⟩ := hp
    refine a_aload_n (pc := 8) dX0_format_8 rfl ?_
    refine a_aload_n (pc := 9) dX0_format_9 rfl ?_
    refine a_gr (pc := 10) dX0_format_10 fX0_15 rfl ?_
    refine a_U1v (pc := 13) 7 dX0_format_13 rfl lcX8_layOut lX0_82_X8 rfl (fit_of hR (by omega) rfl) (c_lay2_29 (d0 := d0)) rfl rfl (ex_v ?_)
    refine a_aload_n (pc := 16) dX0_format_16 rfl ?_
    refine a_aload_n (pc := 17) dX0_format_17 rfl ?_
    refine a_gr (pc := 18) dX0_format_18 fX0_15 rfl ?_
    have hup : ∀ p, p < 32 → upd (upd (gA g' 29) 6 (nI 1)) 7 (nI 38) p = fmtQ 2 p := by
      intro p hp
      simp only [upd, fmtQ, true_and]
      by_cases e7 : p = 7
      · rw [if_pos e7, if_neg (by omega), if_pos e7]
      · rw [if_neg e7]
        by_cases e6 : p = 6
        · rw [if_pos e6, if_pos e6]
        · rw [if_neg e6, if_neg e6, if_neg e7]
          exact h0 p hp
    refine a_V1v (pc := 21) 0 dX0_format_21 lcX0_comeUpWith lX0_72 rfl rfl rfl (fit_of hR (by omega) rfl) (c_comeUp_27 (d0 := d0) 29 (fmtQ 2) rfl (by decide) (fun p hp => hup p hp)) rfl rfl (fun S' g' hS hp => ?_)
    obtain ⟨rfl, y1, y2, y3, y4⟩ := hp
    refine ret _ _ 24 _ dX0_format_24 rfl ?_
    exact ⟨rfl, y1, by rw [y2]; exact hF0 _ _, by rw [y3]; exact congrArg (· + nI 1) (hF0 _ _), ((hf0.mono (by decide)).sA (by decide) _).tr y4⟩
set_option maxRecDepth 100000 in
theorem c_prisN {d0 kd kp rp : Nat} {g : GH} (a c p : Nat) : ACv mX1_planRising d0 (SS kd kp rp) g [.ref a, .ref c, .ref p] (fun S' g' => S' = SS kd kp rp ∧ g' = g) := by
  refine ACv.of lcX1_planRising rfl rfl (fun X Q ad hR ret => ?_)
  refine AW_ls (ls' := [_, _, _]) rfl ?_
  refine ret _ _ 0 _ dX1_planRising_0 rfl ?_
  exact ⟨rfl, rfl⟩
set_option maxRecDepth 100000 in
theorem c_kverN {d0 kd kp rp : Nat} {g : GH} (a c : Nat) : ACi mX1_version d0 (SS kd kp rp) g [.ref a, .ref c] (fun r S' g' => S' = SS kd kp rp ∧ g' = g ∧ r = nI 0) := by
  refine ACi.of lcX1_version rfl rfl (fun X Q ad hR ret => ?_)
  refine AW_ls (ls' := [_, _]) rfl ?_
  refine a_iconst (pc := 0) (nI 0) dX1_version_0 (by decide) ?_
  refine ret _ _ 1 _ _ dX1_version_1 rfl ?_
  exact ⟨rfl, rfl, rfl⟩
set_option maxRecDepth 100000 in
theorem c_fences0 {d0 kd kp rp : Nat} {g : GH} : ACi mX4_fences d0 (SS kd kp rp) g [.ref 71] (fun r S' g' => S' = SS kd kp rp ∧ g' = g ∧ r = nI (fnN 0)) := by
  refine ACi.of lcX4_fences rfl rfl (fun X Q ad hR ret => ?_)
  refine AW_ls (ls' := [_]) rfl ?_
  refine a_iconst (pc := 0) (nI 0) dX4_fences_0 (by decide) ?_
  refine ret _ _ 1 _ _ dX4_fences_1 rfl ?_
  exact ⟨rfl, rfl, rfl⟩
set_option maxRecDepth 100000 in
theorem c_fences1 {d0 kd kp rp : Nat} {g : GH} : ACi mX2_fences d0 (SS kd kp rp) g [.ref 72] (fun r S' g' => S' = SS kd kp rp ∧ g' = g ∧ r = nI (fnN 1)) := by
  refine ACi.of lcX2_fences rfl rfl (fun X Q ad hR ret => ?_)
  refine AW_ls (ls' := [_]) rfl ?_
  refine a_iconst (pc := 0) (nI 4) dX2_fences_0 (by decide) ?_
  refine ret _ _ 1 _ _ dX2_fences_1 rfl ?_
  exact ⟨rfl, rfl, rfl⟩
set_option maxRecDepth 100000 in
theorem c_fences2 {d0 kd kp rp : Nat} {g : GH} : ACi mX8_fences d0 (SS kd kp rp) g [.ref 73] (fun r S' g' => S' = SS kd kp rp ∧ g' = g ∧ r = nI (fnN 2)) := by
  refine ACi.of lcX8_fences rfl rfl (fun X Q ad hR ret => ?_)
  refine AW_ls (ls' := [_]) rfl ?_
  refine a_iconst (pc := 0) (nI 2) dX8_fences_0 (by decide) ?_
  refine ret _ _ 1 _ _ dX8_fences_1 rfl ?_
  exact ⟨rfl, rfl, rfl⟩
set_option maxRecDepth 100000 in
theorem c_well0 {d0 kd kp rp : Nat} {g : GH} (c : Nat) : ACi mX4_allIsWell d0 (SS kd kp rp) g [.ref 71, .ref c] (fun r S' g' => S' = SS kd kp rp ∧ g' = g ∧ r = bI true) := by
  refine ACz.of lcX4_allIsWell rfl rfl (fun X Q ad hR ret => ?_)
  refine AW_ls (ls' := [_, _]) rfl ?_
  refine a_iconst (pc := 0) (nI 1) dX4_allIsWell_0 (by decide) ?_
  refine ret _ _ 1 _ _ dX4_allIsWell_1 rfl (by first | exact Or.inl rfl | exact Or.inr rfl | exact bI_01 _) ?_
  exact ⟨rfl, rfl, rfl⟩
set_option maxRecDepth 100000 in
theorem c_well2 {d0 kd kp rp : Nat} {g : GH} : ACi mX8_allIsWell (d0 + 2) (SS kd kp rp) g [.ref 73, .ref 3] (fun r S' g' => S' = SS kd kp rp ∧ g' = g ∧ r = bI (decide (0 < verQ (gA g 3, [])))) := by
  refine ACz.of lcX8_allIsWell rfl rfl (fun X Q ad hR ret => ?_)
  refine AW_ls (ls' := [_, _]) rfl ?_
  refine a_aload_n (pc := 0) dX8_allIsWell_0 rfl ?_
  refine a_aload_n (pc := 1) dX8_allIsWell_1 rfl ?_
  refine a_V1i (pc := 2) 7 dX8_allIsWell_2 lcX8_version lX8_9 rfl rfl rfl (fit_of hR (by omega) rfl) (c_kver_3 (d0 := d0)) rfl rfl (ex_i ?_)
  refine a_if_le (pc := 5) 12 dX8_allIsWell_5 (by decide) (fun c1 => ?_) (fun c1 => ?_)
  · refine a_iconst (pc := 12) (nI 0) dX8_allIsWell_12 (by decide) ?_
    refine ret _ _ 13 _ _ dX8_allIsWell_13 rfl (by first | exact Or.inl rfl | exact Or.inr rfl | exact bI_01 _) ?_
    exact ⟨rfl, rfl, (bI_ndec _ (Int32.not_lt.mpr c1)).symm⟩
  · refine a_iconst (pc := 8) (nI 1) dX8_allIsWell_8 (by decide) ?_
    refine a_goto (pc := 9) 13 dX8_allIsWell_9 (by decide) ?_
    refine ret _ _ 13 _ _ dX8_allIsWell_13 rfl (by first | exact Or.inl rfl | exact Or.inr rfl | exact bI_01 _) ?_
    exact ⟨rfl, rfl, (bI_dec _ (Int32.not_le.mp c1)).symm⟩
