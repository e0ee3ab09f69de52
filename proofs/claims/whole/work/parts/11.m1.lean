set_option maxRecDepth 100000 in
theorem c_in {d : Nat} {S : sH} {g : GH} (v lo hi : Int32) : ACi mX11_in d S g [.int v, .int lo, .int hi] (fun r S' g' => S' = S ∧ g' = g ∧ r = bI (decide (lo ≤ v) && decide (v ≤ hi))) := by
  refine ACz.of lcX11_in rfl rfl (fun X Q ad hR ret => ?_)
  refine AW_ls (ls' := [_, _, _]) rfl ?_
  refine a_iload_n (pc := 0) dX11_in_0 rfl ?_
  refine a_iload_n (pc := 1) dX11_in_1 rfl ?_
  refine a_icmp_lt (pc := 2) 14 dX11_in_2 (by decide) (fun cc => ?_) (fun cc => ?_)
  · refine a_iconst (pc := 14) (nI 0) dX11_in_14 (by decide) ?_
    refine ret _ _ 15 _ _ dX11_in_15 rfl (by first | exact Or.inl rfl | exact Or.inr rfl | exact bI_01 _) ?_
    exact ⟨rfl, rfl, by simp [bI, Int32.not_le.mpr cc]⟩
  · refine a_iload_n (pc := 5) dX11_in_5 rfl ?_
    refine a_iload_n (pc := 6) dX11_in_6 rfl ?_
    refine a_icmp_gt (pc := 7) 14 dX11_in_7 (by decide) (fun cc => ?_) (fun cc => ?_)
    · refine a_iconst (pc := 14) (nI 0) dX11_in_14 (by decide) ?_
      refine ret _ _ 15 _ _ dX11_in_15 rfl (by first | exact Or.inl rfl | exact Or.inr rfl | exact bI_01 _) ?_
      exact ⟨rfl, rfl, by simp [bI, Int32.not_le.mpr cc]⟩
    · rename_i c1
      refine a_iconst (pc := 10) (nI 1) dX11_in_10 (by decide) ?_
      refine a_goto (pc := 11) 15 dX11_in_11 (by decide) ?_
      refine ret _ _ 15 _ _ dX11_in_15 rfl (by first | exact Or.inl rfl | exact Or.inr rfl | exact bI_01 _) ?_
      exact ⟨rfl, rfl, by simp [bI, Int32.not_lt.mp c1, Int32.not_lt.mp cc]⟩
set_option maxRecDepth 100000 in
theorem c_thrown {d kd kp rp : Nat} {g : GH} : ACi mX11_thrown d (SS kd kp rp) g [.ref 76] (fun r S' g' => S' = SS kd kp rp ∧ g' = g ∧ r = gF g 76 0) := by
  refine ACi.of lcX11_thrown rfl rfl (fun X Q ad hR ret => ?_)
  refine AW_ls (ls' := [_]) rfl ?_
  refine a_aload_n (pc := 0) dX11_thrown_0 rfl ?_
  refine a_gi (pc := 1) dX11_thrown_1 fX11_104 rfl ?_
  refine ret _ _ 4 _ _ dX11_thrown_4 rfl ?_
  exact ⟨rfl, rfl, rfl⟩
set_option maxRecDepth 100000 in
theorem c_refuse {d kd kp rp : Nat} {g : GH} (w : Nat) (hw : w < 7) : ACi mX11_refuse d (SS kd kp rp) g [.ref 76, .int (-nI w)] (fun r S' g' => S' = SS kd kp rp ∧ g' = pA g 83 (upd (gA g 83) w (gA g 83 w + nI 1)) ∧ r = -nI w) := by
  refine ACi.of lcX11_refuse rfl rfl (fun X Q ad hR ret => ?_)
  refine AW_ls (ls' := [_, _]) rfl ?_
  refine a_aload_n (pc := 0) dX11_refuse_0 rfl ?_
  refine a_gr (pc := 1) dX11_refuse_1 fX11_33 rfl ?_
  refine a_iload_n (pc := 4) dX11_refuse_4 rfl ?_
  refine a_ineg (pc := 5) dX11_refuse_5 ?_
  refine a_dup2 (pc := 6) dX11_refuse_6 rfl rfl ?_
  refine a_ial (pc := 7) (w) dX11_refuse_7 rfl (Int32.neg_neg) (by omega) ?_
  refine a_iconst (pc := 8) (nI 1) dX11_refuse_8 (by decide) ?_
  refine a_iadd (pc := 9) dX11_refuse_9 ?_
  try rw [nI_add]
  refine a_ast (pc := 10) (w) dX11_refuse_10 rfl (Int32.neg_neg) (by omega) ?_
  refine a_iload_n (pc := 11) dX11_refuse_11 rfl ?_
  refine ret _ _ 12 _ _ dX11_refuse_12 rfl ?_
  exact ⟨rfl, rfl, rfl⟩
