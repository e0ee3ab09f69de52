/-! what the class keeps of the levels -/
def StD (b : Nat) (g : GH) (L E : Nat) (op s lv : Nat → Nat) : Prop := (gF g b 8 = nI L ∧ L ≤ 32) ∧ (gF g b 10 = nI E ∧ 1 ≤ E ∧ E ≤ 30) ∧ (∀ l, l < L → gA g (b + 2) l = nI (op l) ∧ op l < 32) ∧ (∀ l, l ≤ L → gA g (b + 3) l = nI (s l)) ∧ (s L ≤ 152 ∧ ∀ l, l < L → s l ≤ s (l + 1)) ∧ ∀ j, j < s L → gA g (b + 5) j = nI (lv j) ∧ lv j < 2 ^ 30
theorem StD.keep {b : Nat} {g g' : GH} {L E : Nat} {op s lv : Nat → Nat} (h : StD b g L E op s lv) (e8 : gF g' b 8 = gF g b 8) (e10 : gF g' b 10 = gF g b 10) (a2 : gA g' (b + 2) = gA g (b + 2)) (a3 : gA g' (b + 3) = gA g (b + 3)) (a5 : gA g' (b + 5) = gA g (b + 5)) : StD b g' L E op s lv := by
  unfold StD at h ⊢
  rw [e8, e10, a2, a3, a5]
  exact h
theorem StD.fr {b : Nat} {g g' : GH} {L E : Nat} {op s lv : Nat → Nat} {A : List Nat} (h : StD b g L E op s lv) (f : Fr A g g') (h0 : b ∉ A) (h2 : b + 2 ∉ A) (h3 : b + 3 ∉ A) (h5 : b + 5 ∉ A) : StD b g' L E op s lv := h.keep (f.f h0 _) (f.f h0 _) (f.a h2) (f.a h3) (f.a h5)
theorem StD.sm {b : Nat} {g : GH} {L E : Nat} {op s lv : Nat → Nat} (h : StD b g L E op s lv) : ∀ t l, l + t ≤ L → s l ≤ s (l + t)
  | 0, l, _ => Nat.le_refl _
  | t + 1, l, ht => Nat.le_trans (StD.sm h t l (by omega)) (h.2.2.2.2.1.2 (l + t) (by omega))
theorem StD.le {b : Nat} {g : GH} {L E : Nat} {op s lv : Nat → Nat} (h : StD b g L E op s lv) {l m : Nat} (hl : l ≤ m) (hm : m ≤ L) : s l ≤ s m := by
  have := h.sm (m - l) l (by omega)
  rw [show l + (m - l) = m by omega] at this
  exact this
def chN (lv : Nat → Nat) (e a k : Nat) : Nat := sU (fun j => bt1 (lv j) e) a k
theorem bt1_le (x e : Nat) : bt1 x e ≤ 1 := by unfold bt1; split <;> omega
theorem chN_le (lv : Nat → Nat) (e a : Nat) : ∀ k, chN lv e a k ≤ k
  | 0 => Nat.le_refl _
  | k + 1 => by
    have := chN_le lv e a k
    have := bt1_le (lv k) e
    unfold chN at *
    rw [sU]
    split <;> omega
theorem ct_one {s lv : Nat → Nat} {L l : Nat} (hl : l < L) (e : Nat) : ct s lv L l (2 ^ e) = chN lv e (s l) (s (l + 1)) * ct s lv L (l + 1) (2 ^ e) := by
  rw [ct_s s lv hl]
  have : ∀ k, sU (fun j => ct s lv L (l + 1) (2 ^ e &&& lv j)) (s l) k = chN lv e (s l) k * ct s lv L (l + 1) (2 ^ e) := by
    intro k
    induction k with
    | zero => simp [chN, sU]
    | succ k ih =>
      by_cases h : s l ≤ k
      · unfold chN at ih ⊢
        rw [sU_s h, sU_s h, ih, Nat.add_mul, pow_and]
        unfold bt1
        split
        · rw [Nat.one_mul]
        · rw [Nat.zero_mul, ct_0]
      · unfold chN
        rw [sU_e (by omega), sU_e (by omega), Nat.zero_mul]
  exact this _
theorem min_mul (a c : Nat) : min 4097 (min 4097 a * c) = min 4097 (a * c) := by
  by_cases h : a ≤ 4097
  · rw [Nat.min_eq_right h]
  · rw [Nat.min_eq_left (by omega : 4097 ≤ a)]
    by_cases hc : c = 0
    · rw [hc, Nat.mul_zero, Nat.mul_zero]
    · have h1 : 4097 * 1 ≤ 4097 * c := Nat.mul_le_mul_left _ (by omega)
      have h2 : 4097 * c ≤ a * c := Nat.mul_le_mul_right _ (by omega)
      rw [Nat.min_eq_left (by omega), Nat.min_eq_left (by omega)]
theorem min_sum (F : Nat → Nat) (a : Nat) : ∀ k, min 4097 (sU (fun j => min 4097 (F j)) a k) = min 4097 (sU F a k)
  | 0 => rfl
  | k + 1 => by
    have ih := min_sum F a k
    by_cases h : a ≤ k
    · rw [sU_s h, sU_s h]
      omega
    · rw [sU_e (by omega), sU_e (by omega)]
def AlD (b : Nat) (g : GH) (L E : Nat) (s lv : Nat → Nat) : Prop := ∀ e, e < E → ∀ l, l ≤ L → gA g (b + 6) (e * 33 + l) = nI (min 4097 (ct s lv L l (2 ^ e)))
set_option maxHeartbeats 1000000 in
set_option maxRecDepth 100000 in
theorem c_choices_8 {d0 kd kp rp : Nat} {g : GH} {L E : Nat} {op s lv : Nat → Nat} (h : StD 8 g L E op s lv) (e l : Nat) (he : e < E) (hl : l < L) : ACi mX9_choicesOf d0 (SS kd kp rp) g [.ref 8, .int (nI e), .int (nI l)] (fun r S' g' => S' = SS kd kp rp ∧ g' = g ∧ r = nI (chN lv e (s l) (s (l + 1)))) := by
  have hL := h.1.2
  have hE := h.2.1.2.2
  have hsl := h.2.2.2.1 l (by omega)
  have hsl1 := h.2.2.2.1 (l + 1) (by omega)
  have hs152 := h.2.2.2.2.1.1
  have hle := h.le (l := l + 1) (m := L) (by omega) (Nat.le_refl _)
  have hle2 := h.le (l := l) (m := l + 1) (by omega) (by omega)
  refine ACi.of lcX9_choicesOf rfl rfl (fun X Q ad hR ret => ?_)
  refine AW_ls (ls' := [_, _, _, _, _]) rfl ?_
  refine a_iconst (pc := 0) (nI 0) dX9_choicesOf_0 (by decide) ?_
  refine a_istore_n (pc := 1) (ls' := [_, _, _, _, _]) dX9_choicesOf_1 (Nat.le_of_ble_eq_true rfl) rfl ?_
  refine a_aload_n (pc := 2) dX9_choicesOf_2 rfl ?_
  refine a_gr (pc := 3) dX9_choicesOf_3 fX9_18 rfl ?_
  refine a_iload_n (pc := 6) dX9_choicesOf_6 rfl ?_
  refine a_ial (pc := 7) _ dX9_choicesOf_7 rfl rfl (by omega) ?_
  rw [hsl]
  refine a_istore (pc := 8) (ls' := [_, _, _, _, _]) dX9_choicesOf_8 (Nat.le_of_ble_eq_true rfl) rfl ?_
  have loop : ∀ t j, s (l + 1) = j + t → s l ≤ j → AW mX9_choicesOf X Q ad 0 0 (conc (SS kd kp rp) g) 10 [some (.ref 8), some (.int (nI e)), some (.int (nI l)), some (.int (nI (chN lv e (s l) j))), some (.int (nI j))] [] := by
    intro t
    induction t with
    | zero =>
      intro j hj hsj
      refine a_iload (pc := 10) dX9_choicesOf_10 rfl ?_
      refine a_aload_n (pc := 12) dX9_choicesOf_12 rfl ?_
      refine a_gr (pc := 13) dX9_choicesOf_13 fX9_18 rfl ?_
      refine a_iload_n (pc := 16) dX9_choicesOf_16 rfl ?_
      refine a_iconst (pc := 17) (nI 1) dX9_choicesOf_17 (by decide) ?_
      refine a_iadd (pc := 18) dX9_choicesOf_18 ?_
      try rw [nI_add]
      refine a_ial (pc := 19) _ dX9_choicesOf_19 rfl rfl (by omega) ?_
      rw [hsl1]
      refine a_icmp_geN (pc := 20) 43 dX9_choicesOf_20 (by decide) (by omega) (by omega) (fun c1 => ?_) (fun c1 => ?_)
      · refine a_iload_n (pc := 43) dX9_choicesOf_43 rfl ?_
        refine ret _ _ 44 _ _ dX9_choicesOf_44 rfl ?_
        exact ⟨rfl, rfl, by rw [show s (l + 1) = j by omega]⟩
      · exact absurd c1 (by omega)
    | succ t ih =>
      intro j hj hsj
      obtain ⟨hv, hv30⟩ := h.2.2.2.2.2 j (by omega)
      refine a_iload (pc := 10) dX9_choicesOf_10 rfl ?_
      refine a_aload_n (pc := 12) dX9_choicesOf_12 rfl ?_
      refine a_gr (pc := 13) dX9_choicesOf_13 fX9_18 rfl ?_
      refine a_iload_n (pc := 16) dX9_choicesOf_16 rfl ?_
      refine a_iconst (pc := 17) (nI 1) dX9_choicesOf_17 (by decide) ?_
      refine a_iadd (pc := 18) dX9_choicesOf_18 ?_
      try rw [nI_add]
      refine a_ial (pc := 19) _ dX9_choicesOf_19 rfl rfl (by omega) ?_
      rw [hsl1]
      refine a_icmp_geN (pc := 20) 43 dX9_choicesOf_20 (by decide) (by omega) (by omega) (fun c1 => ?_) (fun c1 => ?_)
      · exact absurd c1 (by omega)
      · refine a_iload_n (pc := 23) dX9_choicesOf_23 rfl ?_
        refine a_aload_n (pc := 24) dX9_choicesOf_24 rfl ?_
        refine a_gr (pc := 25) dX9_choicesOf_25 fX9_24 rfl ?_
        refine a_iload (pc := 28) dX9_choicesOf_28 rfl ?_
        refine a_ial (pc := 30) _ dX9_choicesOf_30 rfl rfl (by omega) ?_
        rw [hv]
        refine a_iload_n (pc := 31) dX9_choicesOf_31 rfl ?_
        refine a_ishr (pc := 32) dX9_choicesOf_32 ?_
        refine a_iconst (pc := 33) (nI 1) dX9_choicesOf_33 (by decide) ?_
        refine a_iand (pc := 34) dX9_choicesOf_34 ?_
        rw [sh_bit (by omega) (by omega)]
        refine a_iadd (pc := 35) dX9_choicesOf_35 ?_
        try rw [nI_add]
        refine a_istore_n (pc := 36) (ls' := [_, _, _, _, _]) dX9_choicesOf_36 (Nat.le_of_ble_eq_true rfl) rfl ?_
        refine a_iinc (pc := 37) (ls' := [_, _, _, _, _]) (nI 1) dX9_choicesOf_37 (by decide) rfl (Nat.le_of_ble_eq_true rfl) rfl ?_
        try rw [nI_add]
        refine a_goto (pc := 40) 10 dX9_choicesOf_40 (by decide) ?_
        rw [show chN lv e (s l) j + bt1 (lv j) e = chN lv e (s l) (j + 1) from (sU_s hsj).symm]
        exact ih (j + 1) (by omega) (by omega)
  refine AW_ls ?_ (loop (s (l + 1) - s l) (s l) (by omega) (Nat.le_refl _))
  rw [show chN lv e (s l) (s l) = 0 from sU_e (Nat.le_refl _)]
set_option maxHeartbeats 1000000 in
set_option maxRecDepth 100000 in
theorem c_countAlone_8 {d0 kd kp rp : Nat} {g : GH} {L E : Nat} {op s lv : Nat → Nat} (h : StD 8 g L E op s lv) : ACv mX9_countAlone (d0 + 1) (SS kd kp rp) g [.ref 8] (fun S' g' => S' = SS kd kp rp ∧ AlD 8 g' L E s lv ∧ Fr [14] g g') := by
  have hL := h.1.2
  have hE := h.2.1.2.2
  have hs152 := h.2.2.2.2.1.1
  refine ACv.of lcX9_countAlone rfl rfl (fun X Q ad hR ret => ?_)
  refine AW_ls (ls' := [_, _, _, _, _]) rfl ?_
  refine a_iconst (pc := 0) (nI 0) dX9_countAlone_0 (by decide) ?_
  refine a_istore_n (pc := 1) (ls' := [_, _, _, _, _]) dX9_countAlone_1 (Nat.le_of_ble_eq_true rfl) rfl ?_
  have outer : ∀ t e, E = e + t → ∀ (g1 : GH) (w2 w3 w4 : Option Value), Fr [14] g g1 → (∀ e', e' < e → ∀ l, l ≤ L → gA g1 14 (e' * 33 + l) = nI (min 4097 (ct s lv L l (2 ^ e')))) → AW mX9_countAlone X Q ad 0 0 (conc (SS kd kp rp) g1) 2 [some (.ref 8), some (.int (nI e)), w2, w3, w4] [] := by
    intro t
    induction t with
    | zero =>
      intro e he g1 w2 w3 w4 hfr ha
      have hD := h.fr hfr (by decide) (by decide) (by decide) (by decide)
      refine a_iload_n (pc := 2) dX9_countAlone_2 rfl ?_
      refine a_aload_n (pc := 3) dX9_countAlone_3 rfl ?_
      refine a_gi (pc := 4) dX9_countAlone_4 fX9_43 rfl ?_
      rw [hD.2.1.1]
      refine a_icmp_geN (pc := 7) 85 dX9_countAlone_7 (by decide) (by omega) (by omega) (fun c1 => ?_) (fun c1 => ?_)
      · refine ret _ _ 85 _ dX9_countAlone_85 rfl ?_
        exact ⟨rfl, fun e' he' l hl => ha e' (by omega) l hl, hfr⟩
      · exact absurd c1 (by omega)
    | succ t ih =>
      intro e he g1 w2 w3 w4 hfr ha
      have hD := h.fr hfr (by decide) (by decide) (by decide) (by decide)
      refine a_iload_n (pc := 2) dX9_countAlone_2 rfl ?_
      refine a_aload_n (pc := 3) dX9_countAlone_3 rfl ?_
      refine a_gi (pc := 4) dX9_countAlone_4 fX9_43 rfl ?_
      rw [hD.2.1.1]
      refine a_icmp_geN (pc := 7) 85 dX9_countAlone_7 (by decide) (by omega) (by omega) (fun c1 => ?_) (fun c1 => ?_)
      · exact absurd c1 (by omega)
      · refine a_iload_n (pc := 10) dX9_countAlone_10 rfl ?_
        refine a_bipush (pc := 11) (nI 33) dX9_countAlone_11 (by decide) ?_
        refine a_imul (pc := 13) dX9_countAlone_13 ?_
        try rw [pk_mul]
        refine a_istore_n (pc := 14) (ls' := [_, _, _, _, _]) dX9_countAlone_14 (Nat.le_of_ble_eq_true rfl) rfl ?_
        refine a_aload_n (pc := 15) dX9_countAlone_15 rfl ?_
        refine a_gr (pc := 16) dX9_countAlone_16 fX9_27 rfl ?_
        refine a_iload_n (pc := 19) dX9_countAlone_19 rfl ?_
        refine a_aload_n (pc := 20) dX9_countAlone_20 rfl ?_
        refine a_gi (pc := 21) dX9_countAlone_21 fX9_36 rfl ?_
        rw [hD.1.1]
        refine a_iadd (pc := 24) dX9_countAlone_24 ?_
        try rw [nI_add]
        refine a_iconst (pc := 25) (nI 1) dX9_countAlone_25 (by decide) ?_
        refine a_ast (pc := 26) _ dX9_countAlone_26 rfl rfl (by omega) ?_
        refine a_aload_n (pc := 27) dX9_countAlone_27 rfl ?_
        refine a_gi (pc := 28) dX9_countAlone_28 fX9_36 rfl ?_
        simp only [gF_pF, gF_pA, gF_pL, gA_pF, gA_pA, gA_pL, gL_pF, gL_pA, gL_pL, reduceIte, Nat.reduceEqDiff, and_false, false_and, and_true, true_and, and_self, hD.1.1]
        refine a_iconst (pc := 31) (nI 1) dX9_countAlone_31 (by decide) ?_
        refine a_isub (pc := 32) dX9_countAlone_32 ?_
        refine a_istore_n (pc := 33) (ls' := [_, _, _, _, _]) dX9_countAlone_33 (Nat.le_of_ble_eq_true rfl) rfl ?_
        have inner : ∀ l, l ≤ L → ∀ (g2 : GH) (w4 : Option Value), Fr [14] g g2 → (∀ e', e' < e → ∀ l, l ≤ L → gA g2 14 (e' * 33 + l) = nI (min 4097 (ct s lv L l (2 ^ e')))) → (∀ l', l ≤ l' → l' ≤ L → gA g2 14 (e * 33 + l') = nI (min 4097 (ct s lv L l' (2 ^ e)))) → AW mX9_countAlone X Q ad 0 0 (conc (SS kd kp rp) g2) 34 [some (.ref 8), some (.int (nI e)), some (.int (nI (e * 33))), some (.int (nI l - nI 1)), w4] [] := by
          intro l
          induction l with
          | zero =>
            intro _ g2 w4 hfr2 ha2 hb2
            refine a_iload_n (pc := 34) dX9_countAlone_34 rfl ?_
            refine a_if_lt (pc := 35) 79 dX9_countAlone_35 (by decide) (fun c2 => ?_) (fun c2 => ?_)
            · refine a_iinc (pc := 79) (ls' := [_, _, _, _, _]) (nI 1) dX9_countAlone_79 (by decide) rfl (Nat.le_of_ble_eq_true rfl) rfl ?_
              try rw [nI_add]
              refine a_goto (pc := 82) 2 dX9_countAlone_82 (by decide) ?_
              refine ih (e + 1) (by omega) g2 _ _ _ hfr2 (fun e' he' l hl => ?_)
              by_cases z : e' = e
              · rw [z]
                exact hb2 l (by omega) hl
              · exact ha2 e' (by omega) l hl
            · exact absurd (by decide) c2
          | succ l ihl =>
            intro hl g2 w4 hfr2 ha2 hb2
            have hD2 := h.fr hfr2 (by decide) (by decide) (by decide) (by decide)
            have hch := chN_le lv e (s l) (s (l + 1))
            have hle := h.le (l := l + 1) (m := L) (by omega) (Nat.le_refl _)
            rw [show nI (l + 1) - nI 1 = nI l from nI_pred l]
            refine a_iload_n (pc := 34) dX9_countAlone_34 rfl ?_
            refine a_if_ltN (pc := 35) 79 dX9_countAlone_35 (by decide) (by omega) (fun c2 => ?_) (fun c2 => ?_)
            · exact absurd c2 (by omega)
            · refine a_aload_n (pc := 38) dX9_countAlone_38 rfl ?_
              refine a_gr (pc := 39) dX9_countAlone_39 fX9_27 rfl ?_
              refine a_iload_n (pc := 42) dX9_countAlone_42 rfl ?_
              refine a_iload_n (pc := 43) dX9_countAlone_43 rfl ?_
              refine a_iadd (pc := 44) dX9_countAlone_44 ?_
              try rw [nI_add]
              refine a_iconst (pc := 45) (nI 1) dX9_countAlone_45 (by decide) ?_
              refine a_iadd (pc := 46) dX9_countAlone_46 ?_
              try rw [nI_add]
              refine a_ial (pc := 47) _ dX9_countAlone_47 rfl rfl (by omega) ?_
              rw [show e * 33 + l + 1 = e * 33 + (l + 1) by omega, hb2 (l + 1) (by omega) (by omega)]
              refine a_aload_n (pc := 48) dX9_countAlone_48 rfl ?_
              refine a_iload_n (pc := 49) dX9_countAlone_49 rfl ?_
              refine a_iload_n (pc := 50) dX9_countAlone_50 rfl ?_
              refine a_V2i (pc := 51) 8 dX9_countAlone_51 lcX9_choicesOf lX9_108 rfl rfl rfl (fit_of hR (by omega) rfl) (c_choices_8 (d0 := d0) hD2 e l (by omega) (by omega)) rfl rfl (ex_i ?_)
              refine a_imul (pc := 54) dX9_countAlone_54 ?_
              try rw [pk_mul]
              refine a_istore (pc := 55) (ls' := [_, _, _, _, _]) dX9_countAlone_55 (Nat.le_of_ble_eq_true rfl) rfl ?_
              refine a_aload_n (pc := 57) dX9_countAlone_57 rfl ?_
              refine a_gr (pc := 58) dX9_countAlone_58 fX9_27 rfl ?_
              refine a_iload_n (pc := 61) dX9_countAlone_61 rfl ?_
              refine a_iload_n (pc := 62) dX9_countAlone_62 rfl ?_
              refine a_iadd (pc := 63) dX9_countAlone_63 ?_
              try rw [nI_add]
              refine a_sipush (pc := 64) (nI 4097) dX9_countAlone_64 (by decide) ?_
              refine a_iload (pc := 67) dX9_countAlone_67 rfl ?_
              have hprod : min 4097 (ct s lv L (l + 1) (2 ^ e)) * chN lv e (s l) (s (l + 1)) ≤ 4097 * 152 := Nat.mul_le_mul (Nat.min_le_left _ _) (by omega)
              refine a_mminN (pc := 69) dX9_countAlone_69 lX9_67 hR (by omega) rfl (by omega) (by omega) ?_
              rw [min_mul, Nat.mul_comm (ct s lv L (l + 1) (2 ^ e)) (chN lv e (s l) (s (l + 1))), ← ct_one (by omega) e]
              refine a_ast (pc := 72) _ dX9_countAlone_72 rfl rfl (by omega) ?_
              refine a_iinc (pc := 73) (ls' := [_, _, _, _, _]) (-1) dX9_countAlone_73 (by decide) rfl (Nat.le_of_ble_eq_true rfl) rfl ?_
              rw [i_m1]
              refine AW_ls (ls' := [some (.ref 8), some (.int (nI e)), some (.int (nI (e * 33))), some (.int (nI l - nI 1)), some (.int (nI (min 4097 (ct s lv L (l + 1) (2 ^ e)) * chN lv e (s l) (s (l + 1)))))]) rfl ?_
              refine a_goto (pc := 76) 34 dX9_countAlone_76 (by decide) ?_
              refine ihl (by omega) _ _ (hfr2.sA (by decide) _) (fun e' he' l' hl' => ?_) (fun l' h1 h2 => ?_)
              · rw [gA_pA, if_pos rfl, upd, if_neg (by omega)]
                exact ha2 e' he' l' hl'
              · rw [gA_pA, if_pos rfl, upd]
                by_cases z : l' = l
                · rw [if_pos (by omega), z]
                · rw [if_neg (by omega)]
                  exact hb2 l' (by omega) h2
        refine inner L (Nat.le_refl _) _ _ (hfr.sA (by decide) _) (fun e' he' l' hl' => ?_) (fun l' h1 h2 => ?_)
        · rw [gA_pA, if_pos rfl, upd, if_neg (by omega)]
          exact ha e' he' l' hl'
        · obtain rfl : l' = L := by omega
          rw [gA_pA, if_pos rfl, upd, if_pos rfl, ct_L, if_neg (Nat.pos_iff_ne_zero.mp (Nat.two_pow_pos e))]
          rfl
  exact outer E 0 (by omega) g _ _ _ (Fr.rf _ g) (fun e' he' => absurd he' (by omega))
set_option maxHeartbeats 1000000 in
set_option maxRecDepth 100000 in
theorem c_countFrom_8 {d0 kd kp rp : Nat} {g : GH} {L E : Nat} {op s lv : Nat → Nat} (h : StD 8 g L E op s lv) (ha : AlD 8 g L E s lv) : ∀ t l c, l + t = L → c < 2 ^ E → ACi mX9_countFrom (d0 + 1 + t) (SS kd kp rp) g [.ref 8, .int (nI l), .int (nI c)] (fun r S' g' => S' = SS kd kp rp ∧ g' = g ∧ r = nI (min 4097 (ct s lv L l c))) := by
  have hL := h.1.2
  have hE := h.2.1.2.2
  have hE30 : 2 ^ E ≤ 2 ^ 30 := Nat.pow_le_pow_right (by decide) hE
  have hs152 := h.2.2.2.2.1.1
  intro t
  induction t with
  | zero =>
    intro l c hl hc
    obtain rfl : l = L := by omega
    refine ACi.of lcX9_countFrom rfl rfl (fun X Q ad hR ret => ?_)
    refine AW_ls (ls' := [_, _, _, _, _]) rfl ?_
    refine a_iload_n (pc := 0) dX9_countFrom_0 rfl ?_
    refine a_if_neN (pc := 1) 6 dX9_countFrom_1 (by decide) (by omega) (fun c1 => ?_) (fun c1 => ?_)
    · refine a_iload_n (pc := 6) dX9_countFrom_6 rfl ?_
      refine a_aload_n (pc := 7) dX9_countFrom_7 rfl ?_
      refine a_gi (pc := 8) dX9_countFrom_8 fX9_36 rfl ?_
      rw [h.1.1]
      refine a_icmp_ltN (pc := 11) 16 dX9_countFrom_11 (by decide) (by omega) (by omega) (fun c2 => ?_) (fun c2 => ?_)
      · exact absurd c2 (by omega)
      · refine a_iconst (pc := 14) (nI 1) dX9_countFrom_14 (by decide) ?_
        refine ret _ _ 15 _ _ dX9_countFrom_15 rfl ?_
        exact ⟨rfl, rfl, by rw [ct_L, if_neg c1]; rfl⟩
    · refine a_iconst (pc := 4) (nI 0) dX9_countFrom_4 (by decide) ?_
      refine ret _ _ 5 _ _ dX9_countFrom_5 rfl ?_
      exact ⟨rfl, rfl, by rw [c1, ct_0]; rfl⟩
  | succ t ih =>
    intro l c hl hc
    have hsl := h.2.2.2.1 l (by omega)
    have hsl1 := h.2.2.2.1 (l + 1) (by omega)
    have hle := h.le (l := l + 1) (m := L) (by omega) (Nat.le_refl _)
    have hle2 := h.le (l := l) (m := l + 1) (by omega) (by omega)
    refine ACi.of lcX9_countFrom rfl rfl (fun X Q ad hR ret => ?_)
    refine AW_ls (ls' := [_, _, _, _, _]) rfl ?_
    refine a_iload_n (pc := 0) dX9_countFrom_0 rfl ?_
    refine a_if_neN (pc := 1) 6 dX9_countFrom_1 (by decide) (by omega) (fun c1 => ?_) (fun c1 => ?_)
    · refine a_iload_n (pc := 6) dX9_countFrom_6 rfl ?_
      refine a_aload_n (pc := 7) dX9_countFrom_7 rfl ?_
      refine a_gi (pc := 8) dX9_countFrom_8 fX9_36 rfl ?_
      rw [h.1.1]
      refine a_icmp_ltN (pc := 11) 16 dX9_countFrom_11 (by decide) (by omega) (by omega) (fun c2 => ?_) (fun c2 => ?_)
      · refine a_iload_n (pc := 16) dX9_countFrom_16 rfl ?_
        refine a_iload_n (pc := 17) dX9_countFrom_17 rfl ?_
        refine a_iconst (pc := 18) (nI 1) dX9_countFrom_18 (by decide) ?_
        refine a_isub (pc := 19) dX9_countFrom_19 ?_
        rw [pk_sub (by omega : 1 ≤ c)]
        have hand : c &&& (c - 1) ≤ c := Nat.and_le_left
        refine a_iand (pc := 20) dX9_countFrom_20 ?_
        rw [nI_and]
        refine a_if_neN (pc := 21) 41 dX9_countFrom_21 (by decide) (by omega) (fun c3 => ?_) (fun c3 => ?_)
        · refine a_iconst (pc := 41) (nI 0) dX9_countFrom_41 (by decide) ?_
          refine a_istore_n (pc := 42) (ls' := [_, _, _, _, _]) dX9_countFrom_42 (Nat.le_of_ble_eq_true rfl) rfl ?_
          refine a_aload_n (pc := 43) dX9_countFrom_43 rfl ?_
          refine a_gr (pc := 44) dX9_countFrom_44 fX9_18 rfl ?_
          refine a_iload_n (pc := 47) dX9_countFrom_47 rfl ?_
          refine a_ial (pc := 48) _ dX9_countFrom_48 rfl rfl (by omega) ?_
          rw [hsl]
          refine a_istore (pc := 49) (ls' := [_, _, _, _, _]) dX9_countFrom_49 (Nat.le_of_ble_eq_true rfl) rfl ?_
          have fin : ∀ (T : Nat) (w4 : Option Value), T ≤ 8200 → min 4097 T = min 4097 (ct s lv L l c) → AW mX9_countFrom X Q ad 0 0 (conc (SS kd kp rp) g) 96 [some (.ref 8), some (.int (nI l)), some (.int (nI c)), some (.int (nI T)), w4] [] := by
            intro T w4 hT e
            refine a_sipush (pc := 96) (nI 4097) dX9_countFrom_96 (by decide) ?_
            refine a_iload_n (pc := 99) dX9_countFrom_99 rfl ?_
            refine a_mminN (pc := 100) dX9_countFrom_100 lX9_67 hR (by omega) rfl (by omega) (by omega) ?_
            refine ret _ _ 103 _ _ dX9_countFrom_103 rfl ?_
            exact ⟨rfl, rfl, by rw [e]⟩
          have loop : ∀ m j, s (l + 1) = j + m → s l ≤ j → sU (fun j => min 4097 (ct s lv L (l + 1) (c &&& lv j))) (s l) j ≤ 8200 → AW mX9_countFrom X Q ad 0 0 (conc (SS kd kp rp) g) 51 [some (.ref 8), some (.int (nI l)), some (.int (nI c)), some (.int (nI (sU (fun j => min 4097 (ct s lv L (l + 1) (c &&& lv j))) (s l) j))), some (.int (nI j))] [] := by
            intro m
            induction m with
            | zero =>
              intro j hj hsj hT
              refine a_iload (pc := 51) dX9_countFrom_51 rfl ?_
              refine a_aload_n (pc := 53) dX9_countFrom_53 rfl ?_
              refine a_gr (pc := 54) dX9_countFrom_54 fX9_18 rfl ?_
              refine a_iload_n (pc := 57) dX9_countFrom_57 rfl ?_
              refine a_iconst (pc := 58) (nI 1) dX9_countFrom_58 (by decide) ?_
              refine a_iadd (pc := 59) dX9_countFrom_59 ?_
              try rw [nI_add]
              refine a_ial (pc := 60) _ dX9_countFrom_60 rfl rfl (by omega) ?_
              rw [hsl1]
              refine a_icmp_geN (pc := 61) 96 dX9_countFrom_61 (by decide) (by omega) (by omega) (fun c4 => ?_) (fun c4 => ?_)
              · refine fin _ _ hT ?_
                rw [min_sum, ct_s s lv (by omega : l < L), show j = s (l + 1) by omega]
              · exact absurd c4 (by omega)
            | succ m ihm =>
              intro j hj hsj hT
              obtain ⟨hv, hv30⟩ := h.2.2.2.2.2 j (by omega)
              refine a_iload (pc := 51) dX9_countFrom_51 rfl ?_
              refine a_aload_n (pc := 53) dX9_countFrom_53 rfl ?_
              refine a_gr (pc := 54) dX9_countFrom_54 fX9_18 rfl ?_
              refine a_iload_n (pc := 57) dX9_countFrom_57 rfl ?_
              refine a_iconst (pc := 58) (nI 1) dX9_countFrom_58 (by decide) ?_
              refine a_iadd (pc := 59) dX9_countFrom_59 ?_
              try rw [nI_add]
              refine a_ial (pc := 60) _ dX9_countFrom_60 rfl rfl (by omega) ?_
              rw [hsl1]
              refine a_icmp_geN (pc := 61) 96 dX9_countFrom_61 (by decide) (by omega) (by omega) (fun c4 => ?_) (fun c4 => ?_)
              · exact absurd c4 (by omega)
              · refine a_iload_n (pc := 64) dX9_countFrom_64 rfl ?_
                refine a_sipush (pc := 65) (nI 4096) dX9_countFrom_65 (by decide) ?_
                refine a_icmp_gtN (pc := 68) 96 dX9_countFrom_68 (by decide) (by omega) (by omega) (fun c5 => ?_) (fun c5 => ?_)
                · refine fin _ _ hT ?_
                  have m1 := sU_mono (f := fun j => min 4097 (ct s lv L (l + 1) (c &&& lv j))) (a := s l) (j := j) (k := s (l + 1)) (by omega)
                  have m2 := min_sum (fun j => ct s lv L (l + 1) (c &&& lv j)) (s l) (s (l + 1))
                  rw [ct_s s lv (by omega : l < L), ← m2]
                  omega
                · refine a_iload_n (pc := 71) dX9_countFrom_71 rfl ?_
                  refine a_aload_n (pc := 72) dX9_countFrom_72 rfl ?_
                  refine a_iload_n (pc := 73) dX9_countFrom_73 rfl ?_
                  refine a_iconst (pc := 74) (nI 1) dX9_countFrom_74 (by decide) ?_
                  refine a_iadd (pc := 75) dX9_countFrom_75 ?_
                  try rw [nI_add]
                  refine a_iload_n (pc := 76) dX9_countFrom_76 rfl ?_
                  refine a_aload_n (pc := 77) dX9_countFrom_77 rfl ?_
                  refine a_gr (pc := 78) dX9_countFrom_78 fX9_24 rfl ?_
                  refine a_iload (pc := 81) dX9_countFrom_81 rfl ?_
                  refine a_ial (pc := 83) _ dX9_countFrom_83 rfl rfl (by omega) ?_
                  rw [hv]
                  refine a_iand (pc := 84) dX9_countFrom_84 ?_
                  rw [nI_and]
                  have hand2 : c &&& lv j ≤ c := Nat.and_le_left
                  refine a_V2i (pc := 85) 8 dX9_countFrom_85 lcX9_countFrom lX9_86 rfl rfl rfl (fit_of hR (by omega) rfl) (ih (l + 1) (c &&& lv j) (by omega) (by omega)) rfl rfl (ex_i ?_)
                  refine a_iadd (pc := 88) dX9_countFrom_88 ?_
                  try rw [nI_add]
                  refine a_istore_n (pc := 89) (ls' := [_, _, _, _, _]) dX9_countFrom_89 (Nat.le_of_ble_eq_true rfl) rfl ?_
                  refine a_iinc (pc := 90) (ls' := [_, _, _, _, _]) (nI 1) dX9_countFrom_90 (by decide) rfl (Nat.le_of_ble_eq_true rfl) rfl ?_
                  try rw [nI_add]
                  refine a_goto (pc := 93) 51 dX9_countFrom_93 (by decide) ?_
                  rw [show sU (fun j => min 4097 (ct s lv L (l + 1) (c &&& lv j))) (s l) j + min 4097 (ct s lv L (l + 1) (c &&& lv j)) = sU (fun j => min 4097 (ct s lv L (l + 1) (c &&& lv j))) (s l) (j + 1) from (sU_s hsj).symm]
                  refine ihm (j + 1) (by omega) (by omega) ?_
                  rw [sU_s hsj]
                  have := Nat.min_le_left 4097 (ct s lv L (l + 1) (c &&& lv j))
                  omega
          refine AW_ls ?_ (loop (s (l + 1) - s l) (s l) (by omega) (Nat.le_refl _) (by rw [sU_e (Nat.le_refl _)]; omega))
          rw [sU_e (Nat.le_refl _)]
        · obtain ⟨e, rfl⟩ := is_pow c1 c3
          have he : e < E := (Nat.pow_lt_pow_iff_right (by decide)).mp hc
          refine a_aload_n (pc := 24) dX9_countFrom_24 rfl ?_
          refine a_gr (pc := 25) dX9_countFrom_25 fX9_27 rfl ?_
          refine a_iload_n (pc := 28) dX9_countFrom_28 rfl ?_
          refine a_iconst (pc := 29) (nI 1) dX9_countFrom_29 (by decide) ?_
          refine a_isub (pc := 30) dX9_countFrom_30 ?_
          refine a_S1i (pc := 31) dX9_countFrom_31 lcJ6_bitCount_0f7a4 lX9_111 (fit_of hR (by omega) rfl) (c_bitCount (d0 := d0) _) rfl rfl (ex_i ?_)
          rw [bcF_pow e (by omega)]
          refine a_bipush (pc := 34) (nI 33) dX9_countFrom_34 (by decide) ?_
          refine a_imul (pc := 36) dX9_countFrom_36 ?_
          try rw [pk_mul]
          refine a_iload_n (pc := 37) dX9_countFrom_37 rfl ?_
          refine a_iadd (pc := 38) dX9_countFrom_38 ?_
          try rw [nI_add]
          refine a_ial (pc := 39) (e * 33 + l) dX9_countFrom_39 rfl rfl (by omega) ?_
          rw [ha e he l (by omega)]
          refine ret _ _ 40 _ _ dX9_countFrom_40 rfl ?_
          exact ⟨rfl, rfl, rfl⟩
      · exact absurd c2 (by omega)
    · refine a_iconst (pc := 4) (nI 0) dX9_countFrom_4 (by decide) ?_
      refine ret _ _ 5 _ _ dX9_countFrom_5 rfl ?_
      exact ⟨rfl, rfl, by rw [c1, ct_0]; rfl⟩
set_option maxHeartbeats 1000000 in
set_option maxRecDepth 100000 in
theorem c_choices_34 {d0 kd kp rp : Nat} {g : GH} {L E : Nat} {op s lv : Nat → Nat} (h : StD 34 g L E op s lv) (e l : Nat) (he : e < E) (hl : l < L) : ACi mX9_choicesOf d0 (SS kd kp rp) g [.ref 34, .int (nI e), .int (nI l)] (fun r S' g' => S' = SS kd kp rp ∧ g' = g ∧ r = nI (chN lv e (s l) (s (l + 1)))) := by
  have hL := h.1.2
  have hE := h.2.1.2.2
  have hsl := h.2.2.2.1 l (by omega)
  have hsl1 := h.2.2.2.1 (l + 1) (by omega)
  have hs152 := h.2.2.2.2.1.1
  have hle := h.le (l := l + 1) (m := L) (by omega) (Nat.le_refl _)
  have hle2 := h.le (l := l) (m := l + 1) (by omega) (by omega)
  refine ACi.of lcX9_choicesOf rfl rfl (fun X Q ad hR ret => ?_)
  refine AW_ls (ls' := [_, _, _, _, _]) rfl ?_
  refine a_iconst (pc := 0) (nI 0) dX9_choicesOf_0 (by decide) ?_
  refine a_istore_n (pc := 1) (ls' := [_, _, _, _, _]) dX9_choicesOf_1 (Nat.le_of_ble_eq_true rfl) rfl ?_
  refine a_aload_n (pc := 2) dX9_choicesOf_2 rfl ?_
  refine a_gr (pc := 3) dX9_choicesOf_3 fX9_18 rfl ?_
  refine a_iload_n (pc := 6) dX9_choicesOf_6 rfl ?_
  refine a_ial (pc := 7) _ dX9_choicesOf_7 rfl rfl (by omega) ?_
  rw [hsl]
  refine a_istore (pc := 8) (ls' := [_, _, _, _, _]) dX9_choicesOf_8 (Nat.le_of_ble_eq_true rfl) rfl ?_
  have loop : ∀ t j, s (l + 1) = j + t → s l ≤ j → AW mX9_choicesOf X Q ad 0 0 (conc (SS kd kp rp) g) 10 [some (.ref 34), some (.int (nI e)), some (.int (nI l)), some (.int (nI (chN lv e (s l) j))), some (.int (nI j))] [] := by
    intro t
    induction t with
    | zero =>
      intro j hj hsj
      refine a_iload (pc := 10) dX9_choicesOf_10 rfl ?_
      refine a_aload_n (pc := 12) dX9_choicesOf_12 rfl ?_
      refine a_gr (pc := 13) dX9_choicesOf_13 fX9_18 rfl ?_
      refine a_iload_n (pc := 16) dX9_choicesOf_16 rfl ?_
      refine a_iconst (pc := 17) (nI 1) dX9_choicesOf_17 (by decide) ?_
      refine a_iadd (pc := 18) dX9_choicesOf_18 ?_
      try rw [nI_add]
      refine a_ial (pc := 19) _ dX9_choicesOf_19 rfl rfl (by omega) ?_
      rw [hsl1]
      refine a_icmp_geN (pc := 20) 43 dX9_choicesOf_20 (by decide) (by omega) (by omega) (fun c1 => ?_) (fun c1 => ?_)
      · refine a_iload_n (pc := 43) dX9_choicesOf_43 rfl ?_
        refine ret _ _ 44 _ _ dX9_choicesOf_44 rfl ?_
        exact ⟨rfl, rfl, by rw [show s (l + 1) = j by omega]⟩
      · exact absurd c1 (by omega)
    | succ t ih =>
      intro j hj hsj
      obtain ⟨hv, hv30⟩ := h.2.2.2.2.2 j (by omega)
      refine a_iload (pc := 10) dX9_choicesOf_10 rfl ?_
      refine a_aload_n (pc := 12) dX9_choicesOf_12 rfl ?_
      refine a_gr (pc := 13) dX9_choicesOf_13 fX9_18 rfl ?_
      refine a_iload_n (pc := 16) dX9_choicesOf_16 rfl ?_
      refine a_iconst (pc := 17) (nI 1) dX9_choicesOf_17 (by decide) ?_
      refine a_iadd (pc := 18) dX9_choicesOf_18 ?_
      try rw [nI_add]
      refine a_ial (pc := 19) _ dX9_choicesOf_19 rfl rfl (by omega) ?_
      rw [hsl1]
      refine a_icmp_geN (pc := 20) 43 dX9_choicesOf_20 (by decide) (by omega) (by omega) (fun c1 => ?_) (fun c1 => ?_)
      · exact absurd c1 (by omega)
      · refine a_iload_n (pc := 23) dX9_choicesOf_23 rfl ?_
        refine a_aload_n (pc := 24) dX9_choicesOf_24 rfl ?_
        refine a_gr (pc := 25) dX9_choicesOf_25 fX9_24 rfl ?_
        refine a_iload (pc := 28) dX9_choicesOf_28 rfl ?_
        refine a_ial (pc := 30) _ dX9_choicesOf_30 rfl rfl (by omega) ?_
        rw [hv]
        refine a_iload_n (pc := 31) dX9_choicesOf_31 rfl ?_
        refine a_ishr (pc := 32) dX9_choicesOf_32 ?_
        refine a_iconst (pc := 33) (nI 1) dX9_choicesOf_33 (by decide) ?_
        refine a_iand (pc := 34) dX9_choicesOf_34 ?_
        rw [sh_bit (by omega) (by omega)]
        refine a_iadd (pc := 35) dX9_choicesOf_35 ?_
        try rw [nI_add]
        refine a_istore_n (pc := 36) (ls' := [_, _, _, _, _]) dX9_choicesOf_36 (Nat.le_of_ble_eq_true rfl) rfl ?_
        refine a_iinc (pc := 37) (ls' := [_, _, _, _, _]) (nI 1) dX9_choicesOf_37 (by decide) rfl (Nat.le_of_ble_eq_true rfl) rfl ?_
        try rw [nI_add]
        refine a_goto (pc := 40) 10 dX9_choicesOf_40 (by decide) ?_
        rw [show chN lv e (s l) j + bt1 (lv j) e = chN lv e (s l) (j + 1) from (sU_s hsj).symm]
        exact ih (j + 1) (by omega) (by omega)
  refine AW_ls ?_ (loop (s (l + 1) - s l) (s l) (by omega) (Nat.le_refl _))
  rw [show chN lv e (s l) (s l) = 0 from sU_e (Nat.le_refl _)]
set_option maxHeartbeats 1000000 in
set_option maxRecDepth 100000 in
theorem c_countAlone_34 {d0 kd kp rp : Nat} {g : GH} {L E : Nat} {op s lv : Nat → Nat} (h : StD 34 g L E op s lv) : ACv mX9_countAlone (d0 + 1) (SS kd kp rp) g [.ref 34] (fun S' g' => S' = SS kd kp rp ∧ AlD 34 g' L E s lv ∧ Fr [40] g g') := by
  have hL := h.1.2
  have hE := h.2.1.2.2
  have hs152 := h.2.2.2.2.1.1
  refine ACv.of lcX9_countAlone rfl rfl (fun X Q ad hR ret => ?_)
  refine AW_ls (ls' := [_, _, _, _, _]) rfl ?_
  refine a_iconst (pc := 0) (nI 0) dX9_countAlone_0 (by decide) ?_
  refine a_istore_n (pc := 1) (ls' := [_, _, _, _, _]) dX9_countAlone_1 (Nat.le_of_ble_eq_true rfl) rfl ?_
  have outer : ∀ t e, E = e + t → ∀ (g1 : GH) (w2 w3 w4 : Option Value), Fr [40] g g1 → (∀ e', e' < e → ∀ l, l ≤ L → gA g1 40 (e' * 33 + l) = nI (min 4097 (ct s lv L l (2 ^ e')))) → AW mX9_countAlone X Q ad 0 0 (conc (SS kd kp rp) g1) 2 [some (.ref 34), some (.int (nI e)), w2, w3, w4] [] := by
    intro t
    induction t with
    | zero =>
      intro e he g1 w2 w3 w4 hfr ha
      have hD := h.fr hfr (by decide) (by decide) (by decide) (by decide)
      refine a_iload_n (pc := 2) dX9_countAlone_2 rfl ?_
      refine a_aload_n (pc := 3) dX9_countAlone_3 rfl ?_
      refine a_gi (pc := 4) dX9_countAlone_4 fX9_43 rfl ?_
      rw [hD.2.1.1]
      refine a_icmp_geN (pc := 7) 85 dX9_countAlone_7 (by decide) (by omega) (by omega) (fun c1 => ?_) (fun c1 => ?_)
      · refine ret _ _ 85 _ dX9_countAlone_85 rfl ?_
        exact ⟨rfl, fun e' he' l hl => ha e' (by omega) l hl, hfr⟩
      · exact absurd c1 (by omega)
    | succ t ih =>
      intro e he g1 w2 w3 w4 hfr ha
      have hD := h.fr hfr (by decide) (by decide) (by decide) (by decide)
      refine a_iload_n (pc := 2) dX9_countAlone_2 rfl ?_
      refine a_aload_n (pc := 3) dX9_countAlone_3 rfl ?_
      refine a_gi (pc := 4) dX9_countAlone_4 fX9_43 rfl ?_
      rw [hD.2.1.1]
      refine a_icmp_geN (pc := 7) 85 dX9_countAlone_7 (by decide) (by omega) (by omega) (fun c1 => ?_) (fun c1 => ?_)
      · exact absurd c1 (by omega)
      · refine a_iload_n (pc := 10) dX9_countAlone_10 rfl ?_
        refine a_bipush (pc := 11) (nI 33) dX9_countAlone_11 (by decide) ?_
        refine a_imul (pc := 13) dX9_countAlone_13 ?_
        try rw [pk_mul]
        refine a_istore_n (pc := 14) (ls' := [_, _, _, _, _]) dX9_countAlone_14 (Nat.le_of_ble_eq_true rfl) rfl ?_
        refine a_aload_n (pc := 15) dX9_countAlone_15 rfl ?_
        refine a_gr (pc := 16) dX9_countAlone_16 fX9_27 rfl ?_
        refine a_iload_n (pc := 19) dX9_countAlone_19 rfl ?_
        refine a_aload_n (pc := 20) dX9_countAlone_20 rfl ?_
        refine a_gi (pc := 21) dX9_countAlone_21 fX9_36 rfl ?_
        rw [hD.1.1]
        refine a_iadd (pc := 24) dX9_countAlone_24 ?_
        try rw [nI_add]
        refine a_iconst (pc := 25) (nI 1) dX9_countAlone_25 (by decide) ?_
        refine a_ast (pc := 26) _ dX9_countAlone_26 rfl rfl (by omega) ?_
        refine a_aload_n (pc := 27) dX9_countAlone_27 rfl ?_
        refine a_gi (pc := 28) dX9_countAlone_28 fX9_36 rfl ?_
        simp only [gF_pF, gF_pA, gF_pL, gA_pF, gA_pA, gA_pL, gL_pF, gL_pA, gL_pL, reduceIte, Nat.reduceEqDiff, and_false, false_and, and_true, true_and, and_self, hD.1.1]
        refine a_iconst (pc := 31) (nI 1) dX9_countAlone_31 (by decide) ?_
        refine a_isub (pc := 32) dX9_countAlone_32 ?_
        refine a_istore_n (pc := 33) (ls' := [_, _, _, _, _]) dX9_countAlone_33 (Nat.le_of_ble_eq_true rfl) rfl ?_
        have inner : ∀ l, l ≤ L → ∀ (g2 : GH) (w4 : Option Value), Fr [40] g g2 → (∀ e', e' < e → ∀ l, l ≤ L → gA g2 40 (e' * 33 + l) = nI (min 4097 (ct s lv L l (2 ^ e')))) → (∀ l', l ≤ l' → l' ≤ L → gA g2 40 (e * 33 + l') = nI (min 4097 (ct s lv L l' (2 ^ e)))) → AW mX9_countAlone X Q ad 0 0 (conc (SS kd kp rp) g2) 34 [some (.ref 34), some (.int (nI e)), some (.int (nI (e * 33))), some (.int (nI l - nI 1)), w4] [] := by
          intro l
          induction l with
          | zero =>
            intro _ g2 w4 hfr2 ha2 hb2
            refine a_iload_n (pc := 34) dX9_countAlone_34 rfl ?_
            refine a_if_lt (pc := 35) 79 dX9_countAlone_35 (by decide) (fun c2 => ?_) (fun c2 => ?_)
            · refine a_iinc (pc := 79) (ls' := [_, _, _, _, _]) (nI 1) dX9_countAlone_79 (by decide) rfl (Nat.le_of_ble_eq_true rfl) rfl ?_
              try rw [nI_add]
              refine a_goto (pc := 82) 2 dX9_countAlone_82 (by decide) ?_
              refine ih (e + 1) (by omega) g2 _ _ _ hfr2 (fun e' he' l hl => ?_)
              by_cases z : e' = e
              · rw [z]
                exact hb2 l (by omega) hl
              · exact ha2 e' (by omega) l hl
            · exact absurd (by decide) c2
          | succ l ihl =>
            intro hl g2 w4 hfr2 ha2 hb2
            have hD2 := h.fr hfr2 (by decide) (by decide) (by decide) (by decide)
            have hch := chN_le lv e (s l) (s (l + 1))
            have hle := h.le (l := l + 1) (m := L) (by omega) (Nat.le_refl _)
            rw [show nI (l + 1) - nI 1 = nI l from nI_pred l]
            refine a_iload_n (pc := 34) dX9_countAlone_34 rfl ?_
            refine a_if_ltN (pc := 35) 79 dX9_countAlone_35 (by decide) (by omega) (fun c2 => ?_) (fun c2 => ?_)
            · exact absurd c2 (by omega)
            · refine a_aload_n (pc := 38) dX9_countAlone_38 rfl ?_
              refine a_gr (pc := 39) dX9_countAlone_39 fX9_27 rfl ?_
              refine a_iload_n (pc := 42) dX9_countAlone_42 rfl ?_
              refine a_iload_n (pc := 43) dX9_countAlone_43 rfl ?_
              refine a_iadd (pc := 44) dX9_countAlone_44 ?_
              try rw [nI_add]
              refine a_iconst (pc := 45) (nI 1) dX9_countAlone_45 (by decide) ?_
              refine a_iadd (pc := 46) dX9_countAlone_46 ?_
              try rw [nI_add]
              refine a_ial (pc := 47) _ dX9_countAlone_47 rfl rfl (by omega) ?_
              rw [show e * 33 + l + 1 = e * 33 + (l + 1) by omega, hb2 (l + 1) (by omega) (by omega)]
              refine a_aload_n (pc := 48) dX9_countAlone_48 rfl ?_
              refine a_iload_n (pc := 49) dX9_countAlone_49 rfl ?_
              refine a_iload_n (pc := 50) dX9_countAlone_50 rfl ?_
              refine a_V2i (pc := 51) 8 dX9_countAlone_51 lcX9_choicesOf lX9_108 rfl rfl rfl (fit_of hR (by omega) rfl) (c_choices_34 (d0 := d0) hD2 e l (by omega) (by omega)) rfl rfl (ex_i ?_)
              refine a_imul (pc := 54) dX9_countAlone_54 ?_
              try rw [pk_mul]
              refine a_istore (pc := 55) (ls' := [_, _, _, _, _]) dX9_countAlone_55 (Nat.le_of_ble_eq_true rfl) rfl ?_
              refine a_aload_n (pc := 57) dX9_countAlone_57 rfl ?_
              refine a_gr (pc := 58) dX9_countAlone_58 fX9_27 rfl ?_
              refine a_iload_n (pc := 61) dX9_countAlone_61 rfl ?_
              refine a_iload_n (pc := 62) dX9_countAlone_62 rfl ?_
              refine a_iadd (pc := 63) dX9_countAlone_63 ?_
              try rw [nI_add]
              refine a_sipush (pc := 64) (nI 4097) dX9_countAlone_64 (by decide) ?_
              refine a_iload (pc := 67) dX9_countAlone_67 rfl ?_
              have hprod : min 4097 (ct s lv L (l + 1) (2 ^ e)) * chN lv e (s l) (s (l + 1)) ≤ 4097 * 152 := Nat.mul_le_mul (Nat.min_le_left _ _) (by omega)
              refine a_mminN (pc := 69) dX9_countAlone_69 lX9_67 hR (by omega) rfl (by omega) (by omega) ?_
              rw [min_mul, Nat.mul_comm (ct s lv L (l + 1) (2 ^ e)) (chN lv e (s l) (s (l + 1))), ← ct_one (by omega) e]
              refine a_ast (pc := 72) _ dX9_countAlone_72 rfl rfl (by omega) ?_
              refine a_iinc (pc := 73) (ls' := [_, _, _, _, _]) (-1) dX9_countAlone_73 (by decide) rfl (Nat.le_of_ble_eq_true rfl) rfl ?_
              rw [i_m1]
              refine AW_ls (ls' := [some (.ref 34), some (.int (nI e)), some (.int (nI (e * 33))), some (.int (nI l - nI 1)), some (.int (nI (min 4097 (ct s lv L (l + 1) (2 ^ e)) * chN lv e (s l) (s (l + 1)))))]) rfl ?_
              refine a_goto (pc := 76) 34 dX9_countAlone_76 (by decide) ?_
              refine ihl (by omega) _ _ (hfr2.sA (by decide) _) (fun e' he' l' hl' => ?_) (fun l' h1 h2 => ?_)
              · rw [gA_pA, if_pos rfl, upd, if_neg (by omega)]
                exact ha2 e' he' l' hl'
              · rw [gA_pA, if_pos rfl, upd]
                by_cases z : l' = l
                · rw [if_pos (by omega), z]
                · rw [if_neg (by omega)]
                  exact hb2 l' (by omega) h2
        refine inner L (Nat.le_refl _) _ _ (hfr.sA (by decide) _) (fun e' he' l' hl' => ?_) (fun l' h1 h2 => ?_)
        · rw [gA_pA, if_pos rfl, upd, if_neg (by omega)]
          exact ha e' he' l' hl'
        · obtain rfl : l' = L := by omega
          rw [gA_pA, if_pos rfl, upd, if_pos rfl, ct_L, if_neg (Nat.pos_iff_ne_zero.mp (Nat.two_pow_pos e))]
          rfl
  exact outer E 0 (by omega) g _ _ _ (Fr.rf _ g) (fun e' he' => absurd he' (by omega))
set_option maxHeartbeats 1000000 in
set_option maxRecDepth 100000 in
theorem c_countFrom_34 {d0 kd kp rp : Nat} {g : GH} {L E : Nat} {op s lv : Nat → Nat} (h : StD 34 g L E op s lv) (ha : AlD 34 g L E s lv) : ∀ t l c, l + t = L → c < 2 ^ E → ACi mX9_countFrom (d0 + 1 + t) (SS kd kp rp) g [.ref 34, .int (nI l), .int (nI c)] (fun r S' g' => S' = SS kd kp rp ∧ g' = g ∧ r = nI (min 4097 (ct s lv L l c))) := by
  have hL := h.1.2
  have hE := h.2.1.2.2
  have hE30 : 2 ^ E ≤ 2 ^ 30 := Nat.pow_le_pow_right (by decide) hE
  have hs152 := h.2.2.2.2.1.1
  intro t
  induction t with
  | zero =>
    intro l c hl hc
    obtain rfl : l = L := by omega
    refine ACi.of lcX9_countFrom rfl rfl (fun X Q ad hR ret => ?_)
    refine AW_ls (ls' := [_, _, _, _, _]) rfl ?_
    refine a_iload_n (pc := 0) dX9_countFrom_0 rfl ?_
    refine a_if_neN (pc := 1) 6 dX9_countFrom_1 (by decide) (by omega) (fun c1 => ?_) (fun c1 => ?_)
    · refine a_iload_n (pc := 6) dX9_countFrom_6 rfl ?_
      refine a_aload_n (pc := 7) dX9_countFrom_7 rfl ?_
      refine a_gi (pc := 8) dX9_countFrom_8 fX9_36 rfl ?_
      rw [h.1.1]
      refine a_icmp_ltN (pc := 11) 16 dX9_countFrom_11 (by decide) (by omega) (by omega) (fun c2 => ?_) (fun c2 => ?_)
      · exact absurd c2 (by omega)
      · refine a_iconst (pc := 14) (nI 1) dX9_countFrom_14 (by decide) ?_
        refine ret _ _ 15 _ _ dX9_countFrom_15 rfl ?_
        exact ⟨rfl, rfl, by rw [ct_L, if_neg c1]; rfl⟩
    · refine a_iconst (pc := 4) (nI 0) dX9_countFrom_4 (by decide) ?_
      refine ret _ _ 5 _ _ dX9_countFrom_5 rfl ?_
      exact ⟨rfl, rfl, by rw [c1, ct_0]; rfl⟩
  | succ t ih =>
    intro l c hl hc
    have hsl := h.2.2.2.1 l (by omega)
    have hsl1 := h.2.2.2.1 (l + 1) (by omega)
    have hle := h.le (l := l + 1) (m := L) (by omega) (Nat.le_refl _)
    have hle2 := h.le (l := l) (m := l + 1) (by omega) (by omega)
    refine ACi.of lcX9_countFrom rfl rfl (fun X Q ad hR ret => ?_)
    refine AW_ls (ls' := [_, _, _, _, _]) rfl ?_
    refine a_iload_n (pc := 0) dX9_countFrom_0 rfl ?_
    refine a_if_neN (pc := 1) 6 dX9_countFrom_1 (by decide) (by omega) (fun c1 => ?_) (fun c1 => ?_)
    · refine a_iload_n (pc := 6) dX9_countFrom_6 rfl ?_
      refine a_aload_n (pc := 7) dX9_countFrom_7 rfl ?_
      refine a_gi (pc := 8) dX9_countFrom_8 fX9_36 rfl ?_
      rw [h.1.1]
      refine a_icmp_ltN (pc := 11) 16 dX9_countFrom_11 (by decide) (by omega) (by omega) (fun c2 => ?_) (fun c2 => ?_)
      · refine a_iload_n (pc := 16) dX9_countFrom_16 rfl ?_
        refine a_iload_n (pc := 17) dX9_countFrom_17 rfl ?_
        refine a_iconst (pc := 18) (nI 1) dX9_countFrom_18 (by decide) ?_
        refine a_isub (pc := 19) dX9_countFrom_19 ?_
        rw [pk_sub (by omega : 1 ≤ c)]
        have hand : c &&& (c - 1) ≤ c := Nat.and_le_left
        refine a_iand (pc := 20) dX9_countFrom_20 ?_
        rw [nI_and]
        refine a_if_neN (pc := 21) 41 dX9_countFrom_21 (by decide) (by omega) (fun c3 => ?_) (fun c3 => ?_)
        · refine a_iconst (pc := 41) (nI 0) dX9_countFrom_41 (by decide) ?_
          refine a_istore_n (pc := 42) (ls' := [_, _, _, _, _]) dX9_countFrom_42 (Nat.le_of_ble_eq_true rfl) rfl ?_
          refine a_aload_n (pc := 43) dX9_countFrom_43 rfl ?_
          refine a_gr (pc := 44) dX9_countFrom_44 fX9_18 rfl ?_
          refine a_iload_n (pc := 47) dX9_countFrom_47 rfl ?_
          refine a_ial (pc := 48) _ dX9_countFrom_48 rfl rfl (by omega) ?_
          rw [hsl]
          refine a_istore (pc := 49) (ls' := [_, _, _, _, _]) dX9_countFrom_49 (Nat.le_of_ble_eq_true rfl) rfl ?_
          have fin : ∀ (T : Nat) (w4 : Option Value), T ≤ 8200 → min 4097 T = min 4097 (ct s lv L l c) → AW mX9_countFrom X Q ad 0 0 (conc (SS kd kp rp) g) 96 [some (.ref 34), some (.int (nI l)), some (.int (nI c)), some (.int (nI T)), w4] [] := by
            intro T w4 hT e
            refine a_sipush (pc := 96) (nI 4097) dX9_countFrom_96 (by decide) ?_
            refine a_iload_n (pc := 99) dX9_countFrom_99 rfl ?_
            refine a_mminN (pc := 100) dX9_countFrom_100 lX9_67 hR (by omega) rfl (by omega) (by omega) ?_
            refine ret _ _ 103 _ _ dX9_countFrom_103 rfl ?_
            exact ⟨rfl, rfl, by rw [e]⟩
          have loop : ∀ m j, s (l + 1) = j + m → s l ≤ j → sU (fun j => min 4097 (ct s lv L (l + 1) (c &&& lv j))) (s l) j ≤ 8200 → AW mX9_countFrom X Q ad 0 0 (conc (SS kd kp rp) g) 51 [some (.ref 34), some (.int (nI l)), some (.int (nI c)), some (.int (nI (sU (fun j => min 4097 (ct s lv L (l + 1) (c &&& lv j))) (s l) j))), some (.int (nI j))] [] := by
            intro m
            induction m with
            | zero =>
              intro j hj hsj hT
              refine a_iload (pc := 51) dX9_countFrom_51 rfl ?_
              refine a_aload_n (pc := 53) dX9_countFrom_53 rfl ?_
              refine a_gr (pc := 54) dX9_countFrom_54 fX9_18 rfl ?_
              refine a_iload_n (pc := 57) dX9_countFrom_57 rfl ?_
              refine a_iconst (pc := 58) (nI 1) dX9_countFrom_58 (by decide) ?_
              refine a_iadd (pc := 59) dX9_countFrom_59 ?_
              try rw [nI_add]
              refine a_ial (pc := 60) _ dX9_countFrom_60 rfl rfl (by omega) ?_
              rw [hsl1]
              refine a_icmp_geN (pc := 61) 96 dX9_countFrom_61 (by decide) (by omega) (by omega) (fun c4 => ?_) (fun c4 => ?_)
              · refine fin _ _ hT ?_
                rw [min_sum, ct_s s lv (by omega : l < L), show j = s (l + 1) by omega]
              · exact absurd c4 (by omega)
            | succ m ihm =>
              intro j hj hsj hT
              obtain ⟨hv, hv30⟩ := h.2.2.2.2.2 j (by omega)
              refine a_iload (pc := 51) dX9_countFrom_51 rfl ?_
              refine a_aload_n (pc := 53) dX9_countFrom_53 rfl ?_
              refine a_gr (pc := 54) dX9_countFrom_54 fX9_18 rfl ?_
              refine a_iload_n (pc := 57) dX9_countFrom_57 rfl ?_
              refine a_iconst (pc := 58) (nI 1) dX9_countFrom_58 (by decide) ?_
              refine a_iadd (pc := 59) dX9_countFrom_59 ?_
              try rw [nI_add]
              refine a_ial (pc := 60) _ dX9_countFrom_60 rfl rfl (by omega) ?_
              rw [hsl1]
              refine a_icmp_geN (pc := 61) 96 dX9_countFrom_61 (by decide) (by omega) (by omega) (fun c4 => ?_) (fun c4 => ?_)
              · exact absurd c4 (by omega)
              · refine a_iload_n (pc := 64) dX9_countFrom_64 rfl ?_
                refine a_sipush (pc := 65) (nI 4096) dX9_countFrom_65 (by decide) ?_
                refine a_icmp_gtN (pc := 68) 96 dX9_countFrom_68 (by decide) (by omega) (by omega) (fun c5 => ?_) (fun c5 => ?_)
                · refine fin _ _ hT ?_
                  have m1 := sU_mono (f := fun j => min 4097 (ct s lv L (l + 1) (c &&& lv j))) (a := s l) (j := j) (k := s (l + 1)) (by omega)
                  have m2 := min_sum (fun j => ct s lv L (l + 1) (c &&& lv j)) (s l) (s (l + 1))
                  rw [ct_s s lv (by omega : l < L), ← m2]
                  omega
                · refine a_iload_n (pc := 71) dX9_countFrom_71 rfl ?_
                  refine a_aload_n (pc := 72) dX9_countFrom_72 rfl ?_
                  refine a_iload_n (pc := 73) dX9_countFrom_73 rfl ?_
                  refine a_iconst (pc := 74) (nI 1) dX9_countFrom_74 (by decide) ?_
                  refine a_iadd (pc := 75) dX9_countFrom_75 ?_
                  try rw [nI_add]
                  refine a_iload_n (pc := 76) dX9_countFrom_76 rfl ?_
                  refine a_aload_n (pc := 77) dX9_countFrom_77 rfl ?_
                  refine a_gr (pc := 78) dX9_countFrom_78 fX9_24 rfl ?_
                  refine a_iload (pc := 81) dX9_countFrom_81 rfl ?_
                  refine a_ial (pc := 83) _ dX9_countFrom_83 rfl rfl (by omega) ?_
                  rw [hv]
                  refine a_iand (pc := 84) dX9_countFrom_84 ?_
                  rw [nI_and]
                  have hand2 : c &&& lv j ≤ c := Nat.and_le_left
                  refine a_V2i (pc := 85) 8 dX9_countFrom_85 lcX9_countFrom lX9_86 rfl rfl rfl (fit_of hR (by omega) rfl) (ih (l + 1) (c &&& lv j) (by omega) (by omega)) rfl rfl (ex_i ?_)
                  refine a_iadd (pc := 88) dX9_countFrom_88 ?_
                  try rw [nI_add]
                  refine a_istore_n (pc := 89) (ls' := [_, _, _, _, _]) dX9_countFrom_89 (Nat.le_of_ble_eq_true rfl) rfl ?_
                  refine a_iinc (pc := 90) (ls' := [_, _, _, _, _]) (nI 1) dX9_countFrom_90 (by decide) rfl (Nat.le_of_ble_eq_true rfl) rfl ?_
                  try rw [nI_add]
                  refine a_goto (pc := 93) 51 dX9_countFrom_93 (by decide) ?_
                  rw [show sU (fun j => min 4097 (ct s lv L (l + 1) (c &&& lv j))) (s l) j + min 4097 (ct s lv L (l + 1) (c &&& lv j)) = sU (fun j => min 4097 (ct s lv L (l + 1) (c &&& lv j))) (s l) (j + 1) from (sU_s hsj).symm]
                  refine ihm (j + 1) (by omega) (by omega) ?_
                  rw [sU_s hsj]
                  have := Nat.min_le_left 4097 (ct s lv L (l + 1) (c &&& lv j))
                  omega
          refine AW_ls ?_ (loop (s (l + 1) - s l) (s l) (by omega) (Nat.le_refl _) (by rw [sU_e (Nat.le_refl _)]; omega))
          rw [sU_e (Nat.le_refl _)]
        · obtain ⟨e, rfl⟩ := is_pow c1 c3
          have he : e < E := (Nat.pow_lt_pow_iff_right (by decide)).mp hc
          refine a_aload_n (pc := 24) dX9_countFrom_24 rfl ?_
          refine a_gr (pc := 25) dX9_countFrom_25 fX9_27 rfl ?_
          refine a_iload_n (pc := 28) dX9_countFrom_28 rfl ?_
          refine a_iconst (pc := 29) (nI 1) dX9_countFrom_29 (by decide) ?_
          refine a_isub (pc := 30) dX9_countFrom_30 ?_
          refine a_S1i (pc := 31) dX9_countFrom_31 lcJ6_bitCount_0f7a4 lX9_111 (fit_of hR (by omega) rfl) (c_bitCount (d0 := d0) _) rfl rfl (ex_i ?_)
          rw [bcF_pow e (by omega)]
          refine a_bipush (pc := 34) (nI 33) dX9_countFrom_34 (by decide) ?_
          refine a_imul (pc := 36) dX9_countFrom_36 ?_
          try rw [pk_mul]
          refine a_iload_n (pc := 37) dX9_countFrom_37 rfl ?_
          refine a_iadd (pc := 38) dX9_countFrom_38 ?_
          try rw [nI_add]
          refine a_ial (pc := 39) (e * 33 + l) dX9_countFrom_39 rfl rfl (by omega) ?_
          rw [ha e he l (by omega)]
          refine ret _ _ 40 _ _ dX9_countFrom_40 rfl ?_
          exact ⟨rfl, rfl, rfl⟩
      · exact absurd c2 (by omega)
    · refine a_iconst (pc := 4) (nI 0) dX9_countFrom_4 (by decide) ?_
      refine ret _ _ 5 _ _ dX9_countFrom_5 rfl ?_
      exact ⟨rfl, rfl, by rw [c1, ct_0]; rfl⟩
