/-! the class's reports -/
def RpC (r : Nat) (g : GH) (rp : Rp) : Prop := (∀ j, j < 7 → gA g (r + 1) j = nI (rp.1 j)) ∧ gF g r 2 = nI rp.2.length ∧ rp.2.length = min (rp.1 2) 50 ∧ ∀ i row, rp.2[i]? = some row → ∀ w, w < 10 → gA g (r + 2) (10 * i + w) = row.getD w 0
theorem RpC.keep {r : Nat} {g g' : GH} {rp : Rp} (h : RpC r g rp) (e : gF g' r 2 = gF g r 2) (e1 : gA g' (r + 1) = gA g (r + 1)) (e2 : gA g' (r + 2) = gA g (r + 2)) : RpC r g' rp := by
  unfold RpC at h ⊢
  rw [e, e1, e2]
  exact h
theorem RpC.fr {r : Nat} {g g' : GH} {rp : Rp} {B : List Nat} (h : RpC r g rp) (f : Fr B g g') (h0 : r ∉ B) (h1 : r + 1 ∉ B) (h2 : r + 2 ∉ B) : RpC r g' rp := h.keep (f.f h0 _) (f.a h1) (f.a h2)
theorem RpC.add {r : Nat} {g g' : GH} {rp : Rp} {row : List Int32} (h : RpC r g rp) (hl : rp.2.length < 50) (e2 : gF g' r 2 = nI (rp.2.length + 1)) (e1 : ∀ j, j < 7 → gA g' (r + 1) j = if j = 2 then nI (rp.1 2 + 1) else gA g (r + 1) j) (hin : ∀ w, w < 10 → gA g' (r + 2) (10 * rp.2.length + w) = row.getD w 0) (hout : ∀ i, ¬ (10 * rp.2.length ≤ i ∧ i < 10 * rp.2.length + 10) → gA g' (r + 2) i = gA g (r + 2) i) : RpC r g' (addBad rp row) := by
  obtain ⟨h1, h2, h3, h4⟩ := h
  have hlen : (addBad rp row).2 = rp.2 ++ [row] := if_pos hl
  refine ⟨fun j hj => ?_, ?_, ?_, fun i x hx w hw => ?_⟩
  · rw [e1 j hj]
    by_cases z : j = 2
    · rw [if_pos z, z, addBad_2]
    · rw [if_neg z, addBad_t _ _ _ z]
      exact h1 j hj
  · rw [e2, hlen, List.length_append, List.length_singleton]
  · rw [hlen, List.length_append, List.length_singleton, addBad_2]
    omega
  · rw [hlen] at hx
    by_cases z : i = rp.2.length
    · subst z
      rw [List.getElem?_concat_length] at hx
      cases hx
      exact hin w hw
    · have hi : i < rp.2.length := by
        have : i < (rp.2 ++ [row]).length := (List.getElem?_eq_some_iff.mp hx).1
        rw [List.length_append, List.length_singleton] at this
        omega
      rw [List.getElem?_append_left hi] at hx
      rw [hout _ (by omega)]
      exact h4 i x hx w hw
theorem RpC.add0 {r : Nat} {g g' : GH} {rp : Rp} {row : List Int32} (h : RpC r g rp) (hl : 50 ≤ rp.2.length) (e2 : gF g' r 2 = gF g r 2) (e1 : ∀ j, j < 7 → gA g' (r + 1) j = if j = 2 then nI (rp.1 2 + 1) else gA g (r + 1) j) (ea : gA g' (r + 2) = gA g (r + 2)) : RpC r g' (addBad rp row) := by
  obtain ⟨h1, h2, h3, h4⟩ := h
  have hlen : (addBad rp row).2 = rp.2 := if_neg (by omega)
  refine ⟨fun j hj => ?_, ?_, ?_, fun i x hx w hw => ?_⟩
  · rw [e1 j hj]
    by_cases z : j = 2
    · rw [if_pos z, z, addBad_2]
    · rw [if_neg z, addBad_t _ _ _ z]
      exact h1 j hj
  · rw [e2, hlen]
    exact h2
  · rw [hlen, addBad_2]
    omega
  · rw [hlen] at hx
    rw [ea]
    exact h4 i x hx w hw
theorem badRow_at {f : Nat → Int32} {mo i be su : Nat} {cam : Nat → Int64} {a : Nat} (h0 : f a = nI mo) (h1 : f (a + 1) = nI i) (h2 : f (a + 2) = nI be) (h3 : f (a + 3) = nI su) (h4 : ∀ j, j < 6 → f (a + 4 + j) = (if j % 2 = 0 then hi32 (cam (j / 2)) else (cam (j / 2)).toInt32)) : ∀ w, w < 10 → f (a + w) = (badRow mo i be su cam).getD w 0
  | 0, _ => h0
  | 1, _ => h1
  | 2, _ => h2
  | 3, _ => h3
  | 4, _ => h4 0 (by decide)
  | 5, _ => h4 1 (by decide)
  | 6, _ => h4 2 (by decide)
  | 7, _ => h4 3 (by decide)
  | 8, _ => h4 4 (by decide)
  | 9, _ => h4 5 (by decide)
  | n + 10, h => absurd h (by omega)
set_option maxRecDepth 100000 in
theorem c_rbegin_67 {d0 kd : Nat} {g : GH} : ACv mX6_begin (d0 + 1) (SS kd 64 67) g [.ref 67] (fun S' g' => S' = SS kd 64 67 ∧ RpC 67 g' (fun _ => 0, []) ∧ Fr [67, 68] g g') := by
  refine ACv.of lcX6_begin rfl rfl (fun X Q ad hR ret => ?_)
  refine AW_ls (ls' := [_]) rfl ?_
  refine a_aload_n (pc := 0) dX6_begin_0 rfl ?_
  refine a_gr (pc := 1) dX6_begin_1 fX6_11 rfl ?_
  refine a_iconst (pc := 4) (nI 0) dX6_begin_4 (by decide) ?_
  refine a_S2v (pc := 5) dX6_begin_5 lcJ7_fill_53178 lX6_22 (fit_of hR (by omega) rfl) (c_fill (d0 := d0) 68 7 (nI 0) rfl (by decide)) rfl rfl (fun S' g' hS hp => ?_)
  obtain ⟨rfl, hz, hf0, -⟩ := hp
  refine a_aload_n (pc := 8) dX6_begin_8 rfl ?_
  refine a_iconst (pc := 9) (nI 0) dX6_begin_9 (by decide) ?_
  refine a_pi (pc := 10) dX6_begin_10 fX6_18 rfl ?_
  refine ret _ _ 13 _ dX6_begin_13 rfl ?_
  refine ⟨rfl, ⟨fun j hj => hz j hj, ?_, rfl, fun i row h => by cases h⟩, (hf0.mono (by decide)).sF (by decide) _ _⟩
  simp only [gF_pF, gF_pA, gF_pL, gA_pF, gA_pA, gA_pL, gL_pF, gL_pA, gL_pL, reduceIte, Nat.reduceEqDiff, and_false, false_and, and_true, true_and, and_self]
  rfl
set_option maxHeartbeats 1000000 in
set_option maxRecDepth 100000 in
theorem c_keepBad_67 {d0 kd : Nat} {g : GH} (rp : Rp) (i be su : Nat) (cam : Nat → Int64) (h : RpC 67 g rp) (h11 : gF g 26 11 = nI be) (h12 : gF g 26 12 = nI su) (hc : rowD (gA g 62) cam) : ACv mX3_keepBad (d0 + 1) (SS kd 64 67) g [.ref 26, .int (nI i)] (fun S' g' => S' = SS kd 64 67 ∧ RpC 67 g' (addBad rp (badRow (rp.1 0) i be su cam)) ∧ Fr [67, 68, 69] g g') := by
  have hlen := h.2.2.1
  have h50 : rp.2.length ≤ 50 := by omega
  refine ACv.of lcX3_keepBad rfl rfl (fun X Q ad hR ret => ?_)
  refine AW_ls (ls' := [_, _, _]) rfl ?_
  refine a_aload_n (pc := 0) dX3_keepBad_0 rfl ?_
  refine a_gr (pc := 1) dX3_keepBad_1 fX3_61 rfl ?_
  refine a_gr (pc := 4) dX3_keepBad_4 fX3_111 rfl ?_
  refine a_iconst (pc := 7) (nI 2) dX3_keepBad_7 (by decide) ?_
  refine a_dup2 (pc := 8) dX3_keepBad_8 rfl rfl ?_
  refine a_ial (pc := 9) _ dX3_keepBad_9 rfl rfl (by omega) ?_
  rw [h.1 2 (by decide)]
  refine a_iconst (pc := 10) (nI 1) dX3_keepBad_10 (by decide) ?_
  refine a_iadd (pc := 11) dX3_keepBad_11 ?_
  try rw [nI_add]
  refine a_ast (pc := 12) _ dX3_keepBad_12 rfl rfl (by omega) ?_
  refine a_aload_n (pc := 13) dX3_keepBad_13 rfl ?_
  refine a_gr (pc := 14) dX3_keepBad_14 fX3_61 rfl ?_
  refine a_gi (pc := 17) dX3_keepBad_17 fX3_200 rfl ?_
  simp only [gF_pF, gF_pA, gF_pL, gA_pF, gA_pA, gA_pL, gL_pF, gL_pA, gL_pL, reduceIte, Nat.reduceEqDiff, and_false, false_and, and_true, true_and, and_self, h.2.1]
  refine a_bipush (pc := 20) (nI 50) dX3_keepBad_20 (by decide) ?_
  have et : ∀ j, j < 7 → upd (gA g 68) 2 (nI (rp.1 2 + 1)) j = if j = 2 then nI (rp.1 2 + 1) else gA g 68 j := fun j _ => rfl
  refine a_icmp_geN (pc := 22) 129 dX3_keepBad_22 (by decide) (by omega) (by omega) (fun c1 => ?_) (fun c1 => ?_)
  · refine ret _ _ 129 _ dX3_keepBad_129 rfl ?_
    refine ⟨rfl, h.add0 c1 rfl (fun j hj => ?_) ?_, (Fr.rf _ g).sA (by decide) _⟩
    · simp only [gF_pF, gF_pA, gF_pL, gA_pF, gA_pA, gA_pL, gL_pF, gL_pA, gL_pL, reduceIte, Nat.reduceEqDiff, and_false, false_and, and_true, true_and, and_self]
      exact et j hj
    · simp only [gF_pF, gF_pA, gF_pL, gA_pF, gA_pA, gA_pL, gL_pF, gL_pA, gL_pL, reduceIte, Nat.reduceEqDiff, and_false, false_and, and_true, true_and, and_self]
  · refine a_aload_n (pc := 25) dX3_keepBad_25 rfl ?_
    refine a_gr (pc := 26) dX3_keepBad_26 fX3_61 rfl ?_
    refine a_gi (pc := 29) dX3_keepBad_29 fX3_200 rfl ?_
    simp only [gF_pF, gF_pA, gF_pL, gA_pF, gA_pA, gA_pL, gL_pF, gL_pA, gL_pL, reduceIte, Nat.reduceEqDiff, and_false, false_and, and_true, true_and, and_self, h.2.1]
    refine a_bipush (pc := 32) (nI 10) dX3_keepBad_32 (by decide) ?_
    refine a_imul (pc := 34) dX3_keepBad_34 ?_
    try rw [pk_mul]
    refine a_istore_n (pc := 35) (ls' := [_, _, _]) dX3_keepBad_35 (Nat.le_of_ble_eq_true rfl) rfl ?_
    refine a_aload_n (pc := 36) dX3_keepBad_36 rfl ?_
    refine a_gr (pc := 37) dX3_keepBad_37 fX3_61 rfl ?_
    refine a_gr (pc := 40) dX3_keepBad_40 fX3_203 rfl ?_
    refine a_iload_n (pc := 43) dX3_keepBad_43 rfl ?_
    refine a_aload_n (pc := 44) dX3_keepBad_44 rfl ?_
    refine a_gr (pc := 45) dX3_keepBad_45 fX3_61 rfl ?_
    refine a_gr (pc := 48) dX3_keepBad_48 fX3_111 rfl ?_
    refine a_iconst (pc := 51) (nI 0) dX3_keepBad_51 (by decide) ?_
    refine a_ial (pc := 52) _ dX3_keepBad_52 rfl rfl (by omega) ?_
    rw [show gA (pA g 68 (upd (gA g 68) 2 (nI (rp.1 2 + 1)))) 68 0 = nI (rp.1 0) by rw [gA_pA, if_pos rfl, upd, if_neg (by decide)]; exact h.1 0 (by decide)]
    refine a_ast (pc := 53) _ dX3_keepBad_53 rfl rfl (by omega) ?_
    refine a_aload_n (pc := 54) dX3_keepBad_54 rfl ?_
    refine a_gr (pc := 55) dX3_keepBad_55 fX3_61 rfl ?_
    refine a_gr (pc := 58) dX3_keepBad_58 fX3_203 rfl ?_
    refine a_iload_n (pc := 61) dX3_keepBad_61 rfl ?_
    refine a_iconst (pc := 62) (nI 1) dX3_keepBad_62 (by decide) ?_
    refine a_iadd (pc := 63) dX3_keepBad_63 ?_
    try rw [nI_add]
    refine a_iload_n (pc := 64) dX3_keepBad_64 rfl ?_
    refine a_ast (pc := 65) _ dX3_keepBad_65 rfl rfl (by omega) ?_
    refine a_aload_n (pc := 66) dX3_keepBad_66 rfl ?_
    refine a_gr (pc := 67) dX3_keepBad_67 fX3_61 rfl ?_
    refine a_gr (pc := 70) dX3_keepBad_70 fX3_203 rfl ?_
    refine a_iload_n (pc := 73) dX3_keepBad_73 rfl ?_
    refine a_iconst (pc := 74) (nI 2) dX3_keepBad_74 (by decide) ?_
    refine a_iadd (pc := 75) dX3_keepBad_75 ?_
    try rw [nI_add]
    refine a_aload_n (pc := 76) dX3_keepBad_76 rfl ?_
    refine a_gi (pc := 77) dX3_keepBad_77 fX3_68 rfl ?_
    simp only [gF_pF, gF_pA, gF_pL, gA_pF, gA_pA, gA_pL, gL_pF, gL_pA, gL_pL, reduceIte, Nat.reduceEqDiff, and_false, false_and, and_true, true_and, and_self, h11]
    refine a_ast (pc := 80) _ dX3_keepBad_80 rfl rfl (by omega) ?_
    refine a_aload_n (pc := 81) dX3_keepBad_81 rfl ?_
    refine a_gr (pc := 82) dX3_keepBad_82 fX3_61 rfl ?_
    refine a_gr (pc := 85) dX3_keepBad_85 fX3_203 rfl ?_
    refine a_iload_n (pc := 88) dX3_keepBad_88 rfl ?_
    refine a_iconst (pc := 89) (nI 3) dX3_keepBad_89 (by decide) ?_
    refine a_iadd (pc := 90) dX3_keepBad_90 ?_
    try rw [nI_add]
    refine a_aload_n (pc := 91) dX3_keepBad_91 rfl ?_
    refine a_gi (pc := 92) dX3_keepBad_92 fX3_71 rfl ?_
    simp only [gF_pF, gF_pA, gF_pL, gA_pF, gA_pA, gA_pL, gL_pF, gL_pA, gL_pL, reduceIte, Nat.reduceEqDiff, and_false, false_and, and_true, true_and, and_self, h12]
    refine a_ast (pc := 95) _ dX3_keepBad_95 rfl rfl (by omega) ?_
    refine a_aload_n (pc := 96) dX3_keepBad_96 rfl ?_
    refine a_gr (pc := 97) dX3_keepBad_97 fX3_44 rfl ?_
    refine a_iconst (pc := 100) (nI 0) dX3_keepBad_100 (by decide) ?_
    refine a_aload_n (pc := 101) dX3_keepBad_101 rfl ?_
    refine a_gr (pc := 102) dX3_keepBad_102 fX3_61 rfl ?_
    refine a_gr (pc := 105) dX3_keepBad_105 fX3_203 rfl ?_
    refine a_iload_n (pc := 108) dX3_keepBad_108 rfl ?_
    refine a_iconst (pc := 109) (nI 4) dX3_keepBad_109 (by decide) ?_
    refine a_iadd (pc := 110) dX3_keepBad_110 ?_
    try rw [nI_add]
    refine a_bipush (pc := 111) (nI 6) dX3_keepBad_111 (by decide) ?_
    refine a_copy (pc := 113) 0 (rp.2.length * 10 + 4) 6 dX3_keepBad_113 lX3_187 hR (by omega) (a0 := 62) (n0 := 6) (n1 := 500) rfl rfl (by decide) (by omega) rfl ?_
    refine a_aload_n (pc := 116) dX3_keepBad_116 rfl ?_
    refine a_gr (pc := 117) dX3_keepBad_117 fX3_61 rfl ?_
    refine a_dup (pc := 120) dX3_keepBad_120 rfl ?_
    refine a_gi (pc := 121) dX3_keepBad_121 fX3_200 rfl ?_
    simp only [gF_pF, gF_pA, gF_pL, gA_pF, gA_pA, gA_pL, gL_pF, gL_pA, gL_pL, reduceIte, Nat.reduceEqDiff, and_false, false_and, and_true, true_and, and_self, h.2.1]
    refine a_iconst (pc := 124) (nI 1) dX3_keepBad_124 (by decide) ?_
    refine a_iadd (pc := 125) dX3_keepBad_125 ?_
    try rw [nI_add]
    refine a_pi (pc := 126) dX3_keepBad_126 fX3_200 rfl ?_
    refine ret _ _ 129 _ dX3_keepBad_129 rfl ?_
    refine ⟨rfl, h.add (by omega) ?_ (fun j hj => ?_) (badRow_at ?_ ?_ ?_ ?_ (fun j hj => ?_)) (fun x hx => ?_), (((((((Fr.rf _ g).sA (by decide) _).sA (by decide) _).sA (by decide) _).sA (by decide) _).sA (by decide) _).sA (by decide) _).sF (by decide) _ _⟩
    · simp only [gF_pF, gF_pA, gF_pL, gA_pF, gA_pA, gA_pL, gL_pF, gL_pA, gL_pL, reduceIte, Nat.reduceEqDiff, and_false, false_and, and_true, true_and, and_self]
    · simp only [gF_pF, gF_pA, gF_pL, gA_pF, gA_pA, gA_pL, gL_pF, gL_pA, gL_pL, reduceIte, Nat.reduceEqDiff, and_false, false_and, and_true, true_and, and_self]
      exact et j hj
    · simp only [gF_pF, gF_pA, gF_pL, gA_pF, gA_pA, gA_pL, gL_pF, gL_pA, gL_pL, reduceIte, Nat.reduceEqDiff, and_false, false_and, and_true, true_and, and_self]
      rw [pk_cpy_out (by omega)]
      simp only [upd]
      rw [if_neg (by omega), if_neg (by omega), if_neg (by omega), if_pos (by omega)]
    · simp only [gF_pF, gF_pA, gF_pL, gA_pF, gA_pA, gA_pL, gL_pF, gL_pA, gL_pL, reduceIte, Nat.reduceEqDiff, and_false, false_and, and_true, true_and, and_self]
      rw [pk_cpy_out (by omega)]
      simp only [upd]
      rw [if_neg (by omega), if_neg (by omega), if_pos (by omega)]
    · simp only [gF_pF, gF_pA, gF_pL, gA_pF, gA_pA, gA_pL, gL_pF, gL_pA, gL_pL, reduceIte, Nat.reduceEqDiff, and_false, false_and, and_true, true_and, and_self]
      rw [pk_cpy_out (by omega)]
      simp only [upd]
      rw [if_neg (by omega), if_pos (by omega)]
    · simp only [gF_pF, gF_pA, gF_pL, gA_pF, gA_pA, gA_pL, gL_pF, gL_pA, gL_pL, reduceIte, Nat.reduceEqDiff, and_false, false_and, and_true, true_and, and_self]
      rw [pk_cpy_out (by omega)]
      simp only [upd]
      rw [if_pos (by omega)]
    · simp only [gF_pF, gF_pA, gF_pL, gA_pF, gA_pA, gA_pL, gL_pF, gL_pA, gL_pL, reduceIte, Nat.reduceEqDiff, and_false, false_and, and_true, true_and, and_self]
      rw [pk_cpy_in (by omega) (by omega), show 0 + (10 * rp.2.length + 4 + j - (rp.2.length * 10 + 4)) = j by omega]
      have h2 := hc (j / 2) (by omega)
      by_cases z : j % 2 = 0
      · rw [if_pos z, ← h2.1]
        congr 1
        omega
      · rw [if_neg z, ← h2.2]
        congr 1
        omega
    · simp only [gF_pF, gF_pA, gF_pL, gA_pF, gA_pA, gA_pL, gL_pF, gL_pA, gL_pL, reduceIte, Nat.reduceEqDiff, and_false, false_and, and_true, true_and, and_self]
      rw [pk_cpy_out (by omega)]
      simp only [upd]
      rw [if_neg (by omega), if_neg (by omega), if_neg (by omega), if_neg (by omega)]
set_option maxRecDepth 100000 in
theorem c_rbegin_64 {d0 kd : Nat} {g : GH} : ACv mX6_begin (d0 + 1) (SS kd 67 64) g [.ref 64] (fun S' g' => S' = SS kd 67 64 ∧ RpC 64 g' (fun _ => 0, []) ∧ Fr [64, 65] g g') := by
  refine ACv.of lcX6_begin rfl rfl (fun X Q ad hR ret => ?_)
  refine AW_ls (ls' := [_]) rfl ?_
  refine a_aload_n (pc := 0) dX6_begin_0 rfl ?_
  refine a_gr (pc := 1) dX6_begin_1 fX6_11 rfl ?_
  refine a_iconst (pc := 4) (nI 0) dX6_begin_4 (by decide) ?_
  refine a_S2v (pc := 5) dX6_begin_5 lcJ7_fill_53178 lX6_22 (fit_of hR (by omega) rfl) (c_fill (d0 := d0) 65 7 (nI 0) rfl (by decide)) rfl rfl (fun S' g' hS hp => ?_)
  obtain ⟨rfl, hz, hf0, -⟩ := hp
  refine a_aload_n (pc := 8) dX6_begin_8 rfl ?_
  refine a_iconst (pc := 9) (nI 0) dX6_begin_9 (by decide) ?_
  refine a_pi (pc := 10) dX6_begin_10 fX6_18 rfl ?_
  refine ret _ _ 13 _ dX6_begin_13 rfl ?_
  refine ⟨rfl, ⟨fun j hj => hz j hj, ?_, rfl, fun i row h => by cases h⟩, (hf0.mono (by decide)).sF (by decide) _ _⟩
  simp only [gF_pF, gF_pA, gF_pL, gA_pF, gA_pA, gA_pL, gL_pF, gL_pA, gL_pL, reduceIte, Nat.reduceEqDiff, and_false, false_and, and_true, true_and, and_self]
  rfl
set_option maxHeartbeats 1000000 in
set_option maxRecDepth 100000 in
theorem c_keepBad_64 {d0 kd : Nat} {g : GH} (rp : Rp) (i be su : Nat) (cam : Nat → Int64) (h : RpC 64 g rp) (h11 : gF g 26 11 = nI be) (h12 : gF g 26 12 = nI su) (hc : rowD (gA g 62) cam) : ACv mX3_keepBad (d0 + 1) (SS kd 67 64) g [.ref 26, .int (nI i)] (fun S' g' => S' = SS kd 67 64 ∧ RpC 64 g' (addBad rp (badRow (rp.1 0) i be su cam)) ∧ Fr [64, 65, 66] g g') := by
  have hlen := h.2.2.1
  have h50 : rp.2.length ≤ 50 := by omega
  refine ACv.of lcX3_keepBad rfl rfl (fun X Q ad hR ret => ?_)
  refine AW_ls (ls' := [_, _, _]) rfl ?_
  refine a_aload_n (pc := 0) dX3_keepBad_0 rfl ?_
  refine a_gr (pc := 1) dX3_keepBad_1 fX3_61 rfl ?_
  refine a_gr (pc := 4) dX3_keepBad_4 fX3_111 rfl ?_
  refine a_iconst (pc := 7) (nI 2) dX3_keepBad_7 (by decide) ?_
  refine a_dup2 (pc := 8) dX3_keepBad_8 rfl rfl ?_
  refine a_ial (pc := 9) _ dX3_keepBad_9 rfl rfl (by omega) ?_
  rw [h.1 2 (by decide)]
  refine a_iconst (pc := 10) (nI 1) dX3_keepBad_10 (by decide) ?_
  refine a_iadd (pc := 11) dX3_keepBad_11 ?_
  try rw [nI_add]
  refine a_ast (pc := 12) _ dX3_keepBad_12 rfl rfl (by omega) ?_
  refine a_aload_n (pc := 13) dX3_keepBad_13 rfl ?_
  refine a_gr (pc := 14) dX3_keepBad_14 fX3_61 rfl ?_
  refine a_gi (pc := 17) dX3_keepBad_17 fX3_200 rfl ?_
  simp only [gF_pF, gF_pA, gF_pL, gA_pF, gA_pA, gA_pL, gL_pF, gL_pA, gL_pL, reduceIte, Nat.reduceEqDiff, and_false, false_and, and_true, true_and, and_self, h.2.1]
  refine a_bipush (pc := 20) (nI 50) dX3_keepBad_20 (by decide) ?_
  have et : ∀ j, j < 7 → upd (gA g 65) 2 (nI (rp.1 2 + 1)) j = if j = 2 then nI (rp.1 2 + 1) else gA g 65 j := fun j _ => rfl
  refine a_icmp_geN (pc := 22) 129 dX3_keepBad_22 (by decide) (by omega) (by omega) (fun c1 => ?_) (fun c1 => ?_)
  · refine ret _ _ 129 _ dX3_keepBad_129 rfl ?_
    refine ⟨rfl, h.add0 c1 rfl (fun j hj => ?_) ?_, (Fr.rf _ g).sA (by decide) _⟩
    · simp only [gF_pF, gF_pA, gF_pL, gA_pF, gA_pA, gA_pL, gL_pF, gL_pA, gL_pL, reduceIte, Nat.reduceEqDiff, and_false, false_and, and_true, true_and, and_self]
      exact et j hj
    · simp only [gF_pF, gF_pA, gF_pL, gA_pF, gA_pA, gA_pL, gL_pF, gL_pA, gL_pL, reduceIte, Nat.reduceEqDiff, and_false, false_and, and_true, true_and, and_self]
  · refine a_aload_n (pc := 25) dX3_keepBad_25 rfl ?_
    refine a_gr (pc := 26) dX3_keepBad_26 fX3_61 rfl ?_
    refine a_gi (pc := 29) dX3_keepBad_29 fX3_200 rfl ?_
    simp only [gF_pF, gF_pA, gF_pL, gA_pF, gA_pA, gA_pL, gL_pF, gL_pA, gL_pL, reduceIte, Nat.reduceEqDiff, and_false, false_and, and_true, true_and, and_self, h.2.1]
    refine a_bipush (pc := 32) (nI 10) dX3_keepBad_32 (by decide) ?_
    refine a_imul (pc := 34) dX3_keepBad_34 ?_
    try rw [pk_mul]
    refine a_istore_n (pc := 35) (ls' := [_, _, _]) dX3_keepBad_35 (Nat.le_of_ble_eq_true rfl) rfl ?_
    refine a_aload_n (pc := 36) dX3_keepBad_36 rfl ?_
    refine a_gr (pc := 37) dX3_keepBad_37 fX3_61 rfl ?_
    refine a_gr (pc := 40) dX3_keepBad_40 fX3_203 rfl ?_
    refine a_iload_n (pc := 43) dX3_keepBad_43 rfl ?_
    refine a_aload_n (pc := 44) dX3_keepBad_44 rfl ?_
    refine a_gr (pc := 45) dX3_keepBad_45 fX3_61 rfl ?_
    refine a_gr (pc := 48) dX3_keepBad_48 fX3_111 rfl ?_
    refine a_iconst (pc := 51) (nI 0) dX3_keepBad_51 (by decide) ?_
    refine a_ial (pc := 52) _ dX3_keepBad_52 rfl rfl (by omega) ?_
    rw [show gA (pA g 65 (upd (gA g 65) 2 (nI (rp.1 2 + 1)))) 65 0 = nI (rp.1 0) by rw [gA_pA, if_pos rfl, upd, if_neg (by decide)]; exact h.1 0 (by decide)]
    refine a_ast (pc := 53) _ dX3_keepBad_53 rfl rfl (by omega) ?_
    refine a_aload_n (pc := 54) dX3_keepBad_54 rfl ?_
    refine a_gr (pc := 55) dX3_keepBad_55 fX3_61 rfl ?_
    refine a_gr (pc := 58) dX3_keepBad_58 fX3_203 rfl ?_
    refine a_iload_n (pc := 61) dX3_keepBad_61 rfl ?_
    refine a_iconst (pc := 62) (nI 1) dX3_keepBad_62 (by decide) ?_
    refine a_iadd (pc := 63) dX3_keepBad_63 ?_
    try rw [nI_add]
    refine a_iload_n (pc := 64) dX3_keepBad_64 rfl ?_
    refine a_ast (pc := 65) _ dX3_keepBad_65 rfl rfl (by omega) ?_
    refine a_aload_n (pc := 66) dX3_keepBad_66 rfl ?_
    refine a_gr (pc := 67) dX3_keepBad_67 fX3_61 rfl ?_
    refine a_gr (pc := 70) dX3_keepBad_70 fX3_203 rfl ?_
    refine a_iload_n (pc := 73) dX3_keepBad_73 rfl ?_
    refine a_iconst (pc := 74) (nI 2) dX3_keepBad_74 (by decide) ?_
    refine a_iadd (pc := 75) dX3_keepBad_75 ?_
    try rw [nI_add]
    refine a_aload_n (pc := 76) dX3_keepBad_76 rfl ?_
    refine a_gi (pc := 77) dX3_keepBad_77 fX3_68 rfl ?_
    simp only [gF_pF, gF_pA, gF_pL, gA_pF, gA_pA, gA_pL, gL_pF, gL_pA, gL_pL, reduceIte, Nat.reduceEqDiff, and_false, false_and, and_true, true_and, and_self, h11]
    refine a_ast (pc := 80) _ dX3_keepBad_80 rfl rfl (by omega) ?_
    refine a_aload_n (pc := 81) dX3_keepBad_81 rfl ?_
    refine a_gr (pc := 82) dX3_keepBad_82 fX3_61 rfl ?_
    refine a_gr (pc := 85) dX3_keepBad_85 fX3_203 rfl ?_
    refine a_iload_n (pc := 88) dX3_keepBad_88 rfl ?_
    refine a_iconst (pc := 89) (nI 3) dX3_keepBad_89 (by decide) ?_
    refine a_iadd (pc := 90) dX3_keepBad_90 ?_
    try rw [nI_add]
    refine a_aload_n (pc := 91) dX3_keepBad_91 rfl ?_
    refine a_gi (pc := 92) dX3_keepBad_92 fX3_71 rfl ?_
    simp only [gF_pF, gF_pA, gF_pL, gA_pF, gA_pA, gA_pL, gL_pF, gL_pA, gL_pL, reduceIte, Nat.reduceEqDiff, and_false, false_and, and_true, true_and, and_self, h12]
    refine a_ast (pc := 95) _ dX3_keepBad_95 rfl rfl (by omega) ?_
    refine a_aload_n (pc := 96) dX3_keepBad_96 rfl ?_
    refine a_gr (pc := 97) dX3_keepBad_97 fX3_44 rfl ?_
    refine a_iconst (pc := 100) (nI 0) dX3_keepBad_100 (by decide) ?_
    refine a_aload_n (pc := 101) dX3_keepBad_101 rfl ?_
    refine a_gr (pc := 102) dX3_keepBad_102 fX3_61 rfl ?_
    refine a_gr (pc := 105) dX3_keepBad_105 fX3_203 rfl ?_
    refine a_iload_n (pc := 108) dX3_keepBad_108 rfl ?_
    refine a_iconst (pc := 109) (nI 4) dX3_keepBad_109 (by decide) ?_
    refine a_iadd (pc := 110) dX3_keepBad_110 ?_
    try rw [nI_add]
    refine a_bipush (pc := 111) (nI 6) dX3_keepBad_111 (by decide) ?_
    refine a_copy (pc := 113) 0 (rp.2.length * 10 + 4) 6 dX3_keepBad_113 lX3_187 hR (by omega) (a0 := 62) (n0 := 6) (n1 := 500) rfl rfl (by decide) (by omega) rfl ?_
    refine a_aload_n (pc := 116) dX3_keepBad_116 rfl ?_
    refine a_gr (pc := 117) dX3_keepBad_117 fX3_61 rfl ?_
    refine a_dup (pc := 120) dX3_keepBad_120 rfl ?_
    refine a_gi (pc := 121) dX3_keepBad_121 fX3_200 rfl ?_
    simp only [gF_pF, gF_pA, gF_pL, gA_pF, gA_pA, gA_pL, gL_pF, gL_pA, gL_pL, reduceIte, Nat.reduceEqDiff, and_false, false_and, and_true, true_and, and_self, h.2.1]
    refine a_iconst (pc := 124) (nI 1) dX3_keepBad_124 (by decide) ?_
    refine a_iadd (pc := 125) dX3_keepBad_125 ?_
    try rw [nI_add]
    refine a_pi (pc := 126) dX3_keepBad_126 fX3_200 rfl ?_
    refine ret _ _ 129 _ dX3_keepBad_129 rfl ?_
    refine ⟨rfl, h.add (by omega) ?_ (fun j hj => ?_) (badRow_at ?_ ?_ ?_ ?_ (fun j hj => ?_)) (fun x hx => ?_), (((((((Fr.rf _ g).sA (by decide) _).sA (by decide) _).sA (by decide) _).sA (by decide) _).sA (by decide) _).sA (by decide) _).sF (by decide) _ _⟩
    · simp only [gF_pF, gF_pA, gF_pL, gA_pF, gA_pA, gA_pL, gL_pF, gL_pA, gL_pL, reduceIte, Nat.reduceEqDiff, and_false, false_and, and_true, true_and, and_self]
    · simp only [gF_pF, gF_pA, gF_pL, gA_pF, gA_pA, gA_pL, gL_pF, gL_pA, gL_pL, reduceIte, Nat.reduceEqDiff, and_false, false_and, and_true, true_and, and_self]
      exact et j hj
    · simp only [gF_pF, gF_pA, gF_pL, gA_pF, gA_pA, gA_pL, gL_pF, gL_pA, gL_pL, reduceIte, Nat.reduceEqDiff, and_false, false_and, and_true, true_and, and_self]
      rw [pk_cpy_out (by omega)]
      simp only [upd]
      rw [if_neg (by omega), if_neg (by omega), if_neg (by omega), if_pos (by omega)]
    · simp only [gF_pF, gF_pA, gF_pL, gA_pF, gA_pA, gA_pL, gL_pF, gL_pA, gL_pL, reduceIte, Nat.reduceEqDiff, and_false, false_and, and_true, true_and, and_self]
      rw [pk_cpy_out (by omega)]
      simp only [upd]
      rw [if_neg (by omega), if_neg (by omega), if_pos (by omega)]
    · simp only [gF_pF, gF_pA, gF_pL, gA_pF, gA_pA, gA_pL, gL_pF, gL_pA, gL_pL, reduceIte, Nat.reduceEqDiff, and_false, false_and, and_true, true_and, and_self]
      rw [pk_cpy_out (by omega)]
      simp only [upd]
      rw [if_neg (by omega), if_pos (by omega)]
    · simp only [gF_pF, gF_pA, gF_pL, gA_pF, gA_pA, gA_pL, gL_pF, gL_pA, gL_pL, reduceIte, Nat.reduceEqDiff, and_false, false_and, and_true, true_and, and_self]
      rw [pk_cpy_out (by omega)]
      simp only [upd]
      rw [if_pos (by omega)]
    · simp only [gF_pF, gF_pA, gF_pL, gA_pF, gA_pA, gA_pL, gL_pF, gL_pA, gL_pL, reduceIte, Nat.reduceEqDiff, and_false, false_and, and_true, true_and, and_self]
      rw [pk_cpy_in (by omega) (by omega), show 0 + (10 * rp.2.length + 4 + j - (rp.2.length * 10 + 4)) = j by omega]
      have h2 := hc (j / 2) (by omega)
      by_cases z : j % 2 = 0
      · rw [if_pos z, ← h2.1]
        congr 1
        omega
      · rw [if_neg z, ← h2.2]
        congr 1
        omega
    · simp only [gF_pF, gF_pA, gF_pL, gA_pF, gA_pA, gA_pL, gL_pF, gL_pA, gL_pL, reduceIte, Nat.reduceEqDiff, and_false, false_and, and_true, true_and, and_self]
      rw [pk_cpy_out (by omega)]
      simp only [upd]
      rw [if_neg (by omega), if_neg (by omega), if_neg (by omega), if_neg (by omega)]
