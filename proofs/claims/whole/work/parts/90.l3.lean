section L90
variable {X : Cx} {Q : State → Prop} {ad : Nat → Nat} {b L : Nat} {zs : Nat → Int32}
theorem CI.n {S : sH} {g : GH} {y : Sy} {n n' : Nat} (h : CI S g y n) (hn : n ≤ n') : CI S g y n' := by
  obtain ⟨kd, k, r, hk, hS, hb⟩ := h
  exact ⟨kd, k, r, hk, hS, hb.n hn⟩
theorem lt32 {j : Nat} {p : Nat → Prop} (hj : j < 32) (h : p 0 ∧ p 1 ∧ p 2 ∧ p 3 ∧ p 4 ∧ p 5 ∧ p 6 ∧ p 7 ∧ p 8 ∧ p 9 ∧ p 10 ∧ p 11 ∧ p 12 ∧ p 13 ∧ p 14 ∧ p 15 ∧ p 16 ∧ p 17 ∧ p 18 ∧ p 19 ∧ p 20 ∧ p 21 ∧ p 22 ∧ p 23 ∧ p 24 ∧ p 25 ∧ p 26 ∧ p 27 ∧ p 28 ∧ p 29 ∧ p 30 ∧ p 31) : p j := by
  obtain ⟨h0, h1, h2, h3, h4, h5, h6, h7, h8, h9, h10, h11, h12, h13, h14, h15, h16, h17, h18, h19, h20, h21, h22, h23, h24, h25, h26, h27, h28, h29, h30, h31⟩ := h
  have : j = 0 ∨ j = 1 ∨ j = 2 ∨ j = 3 ∨ j = 4 ∨ j = 5 ∨ j = 6 ∨ j = 7 ∨ j = 8 ∨ j = 9 ∨ j = 10 ∨ j = 11 ∨ j = 12 ∨ j = 13 ∨ j = 14 ∨ j = 15 ∨ j = 16 ∨ j = 17 ∨ j = 18 ∨ j = 19 ∨ j = 20 ∨ j = 21 ∨ j = 22 ∨ j = 23 ∨ j = 24 ∨ j = 25 ∨ j = 26 ∨ j = 27 ∨ j = 28 ∨ j = 29 ∨ j = 30 ∨ j = 31 := by omega
  rcases this with rfl | rfl | rfl | rfl | rfl | rfl | rfl | rfl | rfl | rfl | rfl | rfl | rfl | rfl | rfl | rfl | rfl | rfl | rfl | rfl | rfl | rfl | rfl | rfl | rfl | rfl | rfl | rfl | rfl | rfl | rfl | rfl
  · exact h0
  · exact h1
  · exact h2
  · exact h3
  · exact h4
  · exact h5
  · exact h6
  · exact h7
  · exact h8
  · exact h9
  · exact h10
  · exact h11
  · exact h12
  · exact h13
  · exact h14
  · exact h15
  · exact h16
  · exact h17
  · exact h18
  · exact h19
  · exact h20
  · exact h21
  · exact h22
  · exact h23
  · exact h24
  · exact h25
  · exact h26
  · exact h27
  · exact h28
  · exact h29
  · exact h30
  · exact h31
set_option maxHeartbeats 1000000 in
set_option maxRecDepth 100000 in
theorem w_disp {k n c i : Nat} {S : sH} {g : GH} {y : Sy} (hL : Lw b L zs X ad) (hc : CI S g y c) (hm : MI g y) (hy : Yok y) (hn : c < 512) (hi : i + 4 ≤ L) (hk : k ≤ 700) (hn2 : n ≤ 190000) (kk : LwK X Q ad k n c i) : AW mL_law X Q ad k n (conc S g) 39 (lls i) [.int (zs i &&& nI 31)] := by
  obtain ⟨j, hj, e⟩ := and31 (zs i)
  rw [e]
  have dfl : AW mL_law X Q ad k n (conc S g) 1093 (lls i) [] := AW_wid (Nat.le_add_right _ _) (Nat.le_add_right _ _) (kk _ _ _ (hc.n (Nat.le_succ _)) hm hy)
  refine lt32 (p := fun j => AW mL_law X Q ad k n (conc S g) 39 (lls i) [.int (nI j)]) hj ⟨?_, ?_, ?_, ?_, ?_, ?_, ?_, ?_, ?_, ?_, ?_, ?_, ?_, ?_, ?_, ?_, ?_, ?_, ?_, ?_, ?_, ?_, ?_, ?_, ?_, ?_, ?_, ?_, ?_, ?_, ?_, ?_⟩
  · exact a_tabIn (pc := 39) 156 dL_law_39 (by decide) (by decide) rfl (by decide) (w_write hL hc hm hy hn hi hk hn2 kk)
  · exact a_tabIn (pc := 39) 205 dL_law_39 (by decide) (by decide) rfl (by decide) (w_fence hL hc hm hy hn hi hk hn2 kk)
  · exact a_tabIn (pc := 39) 218 dL_law_39 (by decide) (by decide) rfl (by decide) (w_flush hL hc hm hy hn hi hk hn2 kk)
  · exact a_tabIn (pc := 39) 231 dL_law_39 (by decide) (by decide) rfl (by decide) (w_read hL hc hm hy hn hi hk hn2 kk)
  · exact a_tabIn (pc := 39) 299 dL_law_39 (by decide) (by decide) rfl (by decide) (w_plate hL hc hm hy hn hi hk hn2 kk)
  · exact a_tabIn (pc := 39) 367 dL_law_39 (by decide) (by decide) rfl (by decide) (w_entry hL hc hm hy hn hi hk hn2 kk)
  · exact a_tabIn (pc := 39) 404 dL_law_39 (by decide) (by decide) rfl (by decide) (w_states hL hc hm hy hn hi hk hn2 kk)
  · exact a_tabIn (pc := 39) 417 dL_law_39 (by decide) (by decide) rfl (by decide) (w_state hL hc hm hy hn hi hk hn2 kk)
  · exact a_tabIn (pc := 39) 497 dL_law_39 (by decide) (by decide) rfl (by decide) (w_fall hL hc hm hy hn hi hk hn2 kk)
  · exact a_tabIn (pc := 39) 522 dL_law_39 (by decide) (by decide) rfl (by decide) (w_store hL hc hm hy hn hi hk hn2 kk)
  · exact a_tabIn (pc := 39) 547 dL_law_39 (by decide) (by decide) rfl (by decide) (w_put hL hc hm hy hn hi hk hn2 kk)
  · exact a_tabIn (pc := 39) 616 dL_law_39 (by decide) (by decide) rfl (by decide) (w_move hL hc hm hy hn hi hk hn2 kk)
  · exact a_tabIn (pc := 39) 653 dL_law_39 (by decide) (by decide) rfl (by decide) (w_get hL hc hm hy hn hi hk hn2 kk)
  · exact a_tabIn (pc := 39) 708 dL_law_39 (by decide) (by decide) rfl (by decide) (w_rise hL hc hm hy hn hi hk hn2 kk)
  · exact a_tabIn (pc := 39) 721 dL_law_39 (by decide) (by decide) rfl (by decide) (w_isSound hL hc hm hy hn hi hk hn2 kk)
  · exact a_tabIn (pc := 39) 734 dL_law_39 (by decide) (by decide) rfl (by decide) (w_addPut hL hc hm hy hn hi hk hn2 kk)
  · exact a_tabIn (pc := 39) 803 dL_law_39 (by decide) (by decide) rfl (by decide) (w_addMove hL hc hm hy hn hi hk hn2 kk)
  · exact a_tabIn (pc := 39) 840 dL_law_39 (by decide) (by decide) rfl (by decide) (w_addSure hL hc hm hy hn hi hk hn2 kk)
  · exact a_tabIn (pc := 39) 853 dL_law_39 (by decide) (by decide) rfl (by decide) (w_clear hL hc hm hy hn hi hk hn2 kk)
  · exact a_tabIn (pc := 39) 866 dL_law_39 (by decide) (by decide) rfl (by decide) (w_through hL hc hm hy hn hi hk hn2 kk)
  · exact a_tabIn (pc := 39) 891 dL_law_39 (by decide) (by decide) rfl (by decide) (w_gone hL hc hm hy hn hi hk hn2 kk)
  · exact a_tabIn (pc := 39) 916 dL_law_39 (by decide) (by decide) rfl (by decide) (w_bad hL hc hm hy hn hi hk hn2 kk)
  · exact a_tabIn (pc := 39) 953 dL_law_39 (by decide) (by decide) rfl (by decide) (w_spare hL hc hm hy hn hi hk hn2 kk)
  · exact a_tabIn (pc := 39) 1018 dL_law_39 (by decide) (by decide) rfl (by decide) (w_least hL hc hm hy hn hi hk hn2 kk)
  · exact a_tabIn (pc := 39) 1043 dL_law_39 (by decide) (by decide) rfl (by decide) (w_digest hL hc hm hy hn hi hk hn2 kk)
  · exact a_tabIn (pc := 39) 1068 dL_law_39 (by decide) (by decide) rfl (by decide) (w_status hL hc hm hy hn hi hk hn2 kk)
  · exact a_tabOut (pc := 39) 1093 dL_law_39 (Or.inr (by decide)) (by decide) dfl
  · exact a_tabOut (pc := 39) 1093 dL_law_39 (Or.inr (by decide)) (by decide) dfl
  · exact a_tabOut (pc := 39) 1093 dL_law_39 (Or.inr (by decide)) (by decide) dfl
  · exact a_tabOut (pc := 39) 1093 dL_law_39 (Or.inr (by decide)) (by decide) dfl
  · exact a_tabOut (pc := 39) 1093 dL_law_39 (Or.inr (by decide)) (by decide) dfl
  · exact a_tabOut (pc := 39) 1093 dL_law_39 (Or.inr (by decide)) (by decide) dfl
set_option maxHeartbeats 1000000 in
set_option maxRecDepth 100000 in
theorem w_loop (hL : Lw b L zs X ad) (hend : ∀ (k n : Nat) (h : sH) (ls : List (Option Value)), k ≤ 601024 → n ≤ 7293034 → AW mL_law X Q ad k n h 1100 ls [.int 1]) : ∀ (f c k n : Nat) (S : sH) (g : GH) (y : Sy), L ≤ 4 * c + 4 * f → c ≤ 512 → k ≤ 107 + c → n ≤ 143968 + 6 * c → CI S g y c → MI g y → Yok y → AW mL_law X Q ad k n (conc S g) 23 (lls (4 * c)) [] := by
  intro f
  induction f with
  | zero =>
    intro c k n S g y hf hc hk hn h1 h2 h3
    refine a_iload (pc := 23) dL_law_23 rfl ?_
    refine a_aload_n (pc := 25) dL_law_25 rfl ?_
    refine s_alen (pc := 26) hL dL_law_26 ?_
    refine a_iconst (pc := 27) (nI 4) dL_law_27 (by decide) ?_
    refine a_isub (pc := 28) dL_law_28 ?_
    refine a_icmp_gt (pc := 29) 1099 dL_law_29 (by decide) (fun _ => ?_) (fun z => ?_)
    · refine a_iconst (pc := 1099) 1 dL_law_1099 (by decide) ?_
      exact hend _ _ _ _ (by omega) (by omega)
    · have := lend hL.2.2.2.2.2 (by omega) z
      omega
  | succ f ih =>
    intro c k n S g y hf hc hk hn h1 h2 h3
    refine a_iload (pc := 23) dL_law_23 rfl ?_
    refine a_aload_n (pc := 25) dL_law_25 rfl ?_
    refine s_alen (pc := 26) hL dL_law_26 ?_
    refine a_iconst (pc := 27) (nI 4) dL_law_27 (by decide) ?_
    refine a_isub (pc := 28) dL_law_28 ?_
    refine a_icmp_gt (pc := 29) 1099 dL_law_29 (by decide) (fun _ => ?_) (fun z => ?_)
    · refine a_iconst (pc := 1099) 1 dL_law_1099 (by decide) ?_
      exact hend _ _ _ _ (by omega) (by omega)
    · have hi := lend hL.2.2.2.2.2 (by omega) z
      have hL2 := hL.2.2.2.2.2
      refine a_aload_n (pc := 32) dL_law_32 rfl ?_
      refine a_iload (pc := 33) dL_law_33 rfl ?_
      refine s_ial (pc := 35) (4 * c) hL dL_law_35 rfl (by omega) ?_
      refine a_bipush (pc := 36) (nI 31) dL_law_36 (by decide) ?_
      refine a_iand (pc := 38) dL_law_38 ?_
      refine w_disp hL h1 h2 h3 (by omega) hi (by omega) (by omega) (fun S' g' y' i1 i2 i3 => ?_)
      refine a_iincN (pc := 1093) (ls' := lls (4 * (c + 1))) dL_law_1093 (by decide) rfl (Nat.le_of_ble_eq_true rfl) rfl ?_
      refine a_goto (pc := 1096) 23 dL_law_1096 (by decide) ?_
      exact ih (c + 1) _ _ S' g' y' (by omega) (by omega) (by omega) (by omega) i1 i2 i3
end L90
