set_option maxHeartbeats 1000000 in
set_option maxRecDepth 100000 in
theorem c_keepAll {d0 kd kp rp : Nat} {g : GH} (N : Nat) (m o : Nat → Nat) (hN : N ≤ 4096) (h11 : gF g 76 11 = nI N) (hs : SrtA (gA g 84) (gA g 85) N o) (hm : ∀ p, p < 32 → gA g 88 p = nI (m p) ∧ 1 ≤ m p ∧ m p ≤ 61 ∧ ChS (gA g 87) p (m p)) : ACi mX11_keepAll (d0 + 2) (SS kd kp rp) g [.ref 76] (fun r S' g' => S' = SS kd kp rp ∧ ∃ (b : Bool) (St' Od' Nw : Nat → Int32) (N' : Nat) (o' : Nat → Nat), r = bI b ∧ g' = pF (pA (pA (pA g 84 St') 85 Od') 89 Nw) 76 11 (nI N') ∧ N' ≤ 4096 ∧ SrtA St' Od' N' o' ∧ (b = true → ∀ f0, (∃ i, i < N' ∧ eq32 f0 (fun p => St' (32 * o' i + p))) ↔ ((∃ i, i < N ∧ eq32 f0 (fun p => gA g 84 (32 * o i + p))) ∨ Prod32 (gA g 87) m f0)) ∧ (b = false → ∀ St : (Nat → Int32) → Prop, (∀ f, (∃ i, i < N ∧ eq32 f (fun p => gA g 84 (32 * o i + p))) → St f) → (∀ f, Prod32 (gA g 87) m f → St f) → Mny St)) := by
  have hm1 : ∀ p, p < 32 → 1 ≤ m p := fun p hp => (hm p hp).2.1
  have hm2 : ∀ p, p < 32 → 1 ≤ m p ∧ m p ≤ 61 := fun p hp => ⟨(hm p hp).2.1, (hm p hp).2.2.1⟩
  have hms : ∀ p, p < 32 → ChS (gA g 87) p (m p) := fun p hp => (hm p hp).2.2.2
  obtain ⟨A, hA⟩ : ∃ A, A = prA m 32 := ⟨_, rfl⟩
  have hAb : A ≤ 249856 := by rw [hA]; exact prA_le hm2 32 (Nat.le_refl _)
  have hW0 : A ≤ 4096 → A = wt m 0 := by
    intro hle
    have h1 := (prA_big hm2 32 (Nat.le_refl _)).2 (by rw [← hA]; exact hle)
    have h2 := prd_wt m 32 (Nat.le_refl _)
    rw [wt_32, Nat.mul_one] at h2
    rw [hA, h1, h2]
  have hbig : 4096 < A → ∀ St0 : (Nat → Int32) → Prop, (∀ f, Prod32 (gA g 87) m f → St0 f) → Mny St0 := by
    intro hlt St0 h4
    exact Mny.prod hm2 hms (by rw [← hA]; exact hlt) h4
  refine ACz.of lcX11_keepAll rfl rfl (fun X Q ad hR ret => ?_)
  refine AW_ls (ls' := [_, _, _, _]) rfl ?_
  refine a_iconst (pc := 0) (nI 1) dX11_keepAll_0 (by decide) ?_
  refine a_istore_n (pc := 1) (ls' := [_, _, _, _]) dX11_keepAll_1 (Nat.le_of_ble_eq_true rfl) rfl ?_
  refine a_iconst (pc := 2) (nI 0) dX11_keepAll_2 (by decide) ?_
  refine a_istore_n (pc := 3) (ls' := [_, _, _, _]) dX11_keepAll_3 (Nat.le_of_ble_eq_true rfl) rfl ?_
  have main : ∀ (Nw : Nat → Int32), (∀ p, p < 32 → Nw p = nI 0) → A ≤ 4096 → ∀ (x2 : Int32) (w : Option Value), AW mX11_keepAll X Q ad 0 0 (conc (SS kd kp rp) (pA g 89 Nw)) 52 [some (.ref 76), some (.int (nI A)), some (.int x2), w] [] := by
    intro Nw0 hNw0 hle x2 w0
    have hW := hW0 hle
    refine a_iconst (pc := 52) (nI 0) dX11_keepAll_52 (by decide) ?_
    refine a_istore_n (pc := 53) (ls' := [_, _, _, _]) dX11_keepAll_53 (Nat.le_of_ble_eq_true rfl) rfl ?_
    have loop : ∀ t n, A = n + t → ∀ (St Od Nw : Nat → Int32) (N1 : Nat) (o1 : Nat → Nat), N1 ≤ 4096 → SrtA St Od N1 o1 → (0 < t → ∀ p, p < 32 → Nw p = nI (dg m p n)) → (∀ f0, (∃ i, i < N1 ∧ eq32 f0 (fun p => St (32 * o1 i + p))) ↔ ((∃ i, i < N ∧ eq32 f0 (fun p => gA g 84 (32 * o i + p))) ∨ ∃ k, k < n ∧ eq32 f0 (cmb (gA g 87) m k))) → ∀ w : Option Value, AW mX11_keepAll X Q ad 0 0 (conc (SS kd kp rp) (pF (pA (pA (pA g 84 St) 85 Od) 89 Nw) 76 11 (nI N1))) 54 [some (.ref 76), some (.int (nI A)), some (.int (nI n)), w] [] := by
      intro t
      induction t with
      | zero =>
        intro n hn St Od Nw N1 o1 hN1 hs1 hd1 hq w
        obtain rfl : A = n := by omega
        refine a_iload_n (pc := 54) dX11_keepAll_54 rfl ?_
        refine a_iload_n (pc := 55) dX11_keepAll_55 rfl ?_
        refine a_icmp_geN (pc := 56) 125 dX11_keepAll_56 (by decide) (by omega) (by omega) (fun c1 => ?_) (fun c1 => ?_)
        · refine a_iconst (pc := 125) (nI 1) dX11_keepAll_125 (by decide) ?_
          refine ret _ _ 126 _ _ dX11_keepAll_126 rfl (by first | exact Or.inl rfl | exact Or.inr rfl | exact bI_01 _) ?_
          refine ⟨rfl, true, St, Od, Nw, N1, o1, rfl, rfl, hN1, hs1, fun _ f0 => ?_, fun z => by cases z⟩
          rw [hq f0]
          constructor
          · rintro (z | ⟨k, hk, e⟩)
            · exact Or.inl z
            · refine Or.inr (fun p hp => ?_)
              obtain ⟨a, ha, e2⟩ := cmb_in (C := gA g 87) hm1 k p hp
              exact ⟨a, ha, e2.trans (e p hp).symm⟩
          · rintro (z | z)
            · exact Or.inl z
            · obtain ⟨k, hk, e⟩ := cmb_all hm1 z
              exact Or.inr ⟨k, by omega, e⟩
        · exact absurd c1 (by omega)
      | succ t ih =>
        intro n hn St Od Nw N1 o1 hN1 hs1 hd1 hq w
        have hd := hd1 (by omega)
        refine a_iload_n (pc := 54) dX11_keepAll_54 rfl ?_
        refine a_iload_n (pc := 55) dX11_keepAll_55 rfl ?_
        refine a_icmp_geN (pc := 56) 125 dX11_keepAll_56 (by decide) (by omega) (by omega) (fun c1 => ?_) (fun c1 => ?_)
        · exact absurd c1 (by omega)
        · refine a_aload_n (pc := 59) dX11_keepAll_59 rfl ?_
          refine a_V0i (pc := 60) 10 dX11_keepAll_60 lcX11_keepState lX11_143 rfl rfl rfl (fit_of hR (by omega) rfl) (c_keepState (d0 := d0) N1 (fun p => dg m p n) o1 hN1 rfl (fun p hp => ⟨by simp only [gA_pF, gA_pA, reduceIte]; exact hd p hp, by have := dg_lt hm1 hp n; have := (hm2 p hp).2; omega⟩) hs1) rfl rfl (fun rr S' g' hS hp => ?_)
          obtain ⟨rfl, b, rfl, hb1, hb2⟩ := hp
          refine a_if_neB (pc := 63) 68 dX11_keepAll_63 (by decide) (fun c2 => ?_) (fun c2 => ?_)
          · subst c2
            obtain ⟨St', Od', N', o', rfl, hN', hs', hq'⟩ := hb1 rfl
            have eg : pF (pA (pA (pF (pA (pA (pA g 84 St) 85 Od) 89 Nw) 76 11 (nI N1)) 84 St') 85 Od') 76 11 (nI N') = pF (pA (pA (pA g 84 St') 85 Od') 89 Nw) 76 11 (nI N') := by
              refine GH_ext (fun a j => ?_) (fun a j => ?_) (fun _ _ => rfl)
              · simp only [gF_pF, gF_pA]
                split <;> rfl
              · simp only [gA_pF, gA_pA]
                by_cases h1 : a = 89
                · subst h1
                  simp
                · by_cases h2 : a = 85
                  · subst h2
                    simp
                  · by_cases h3 : a = 84
                    · subst h3
                      simp
                    · simp [h1, h2, h3]
            rw [eg]
            have hq2 : ∀ f0, (∃ i, i < N' ∧ eq32 f0 (fun p => St' (32 * o' i + p))) ↔ ((∃ i, i < N ∧ eq32 f0 (fun p => gA g 84 (32 * o i + p))) ∨ ∃ k, k < n + 1 ∧ eq32 f0 (cmb (gA g 87) m k)) := by
              intro f0
              rw [hq' f0]
              constructor
              · rintro (z | z)
                · rcases (hq f0).mp z with z | ⟨k, hk, e⟩
                  · exact Or.inl z
                  · exact Or.inr ⟨k, by omega, e⟩
                · exact Or.inr ⟨n, by omega, z⟩
              · rintro (z | ⟨k, hk, e⟩)
                · exact Or.inl ((hq f0).mpr (Or.inl z))
                · rcases Nat.lt_or_ge k n with q | q
                  · exact Or.inl ((hq f0).mpr (Or.inr ⟨k, q, e⟩))
                  · obtain rfl : k = n := by omega
                    exact Or.inr e
            -- the counter
            have fin : ∀ (Nw2 : Nat → Int32) (x3 : Int32), (0 < t → ∀ p, p < 32 → Nw2 p = nI (dg m p (n + 1))) → AW mX11_keepAll X Q ad 0 0 (conc (SS kd kp rp) (pF (pA (pA (pA g 84 St') 85 Od') 89 Nw2) 76 11 (nI N'))) 119 [some (.ref 76), some (.int (nI A)), some (.int (nI n)), some (.int x3)] [] := by
              intro Nw2 x3 h2
              refine a_iinc (pc := 119) (ls' := [_, _, _, _]) (nI 1) dX11_keepAll_119 (by decide) rfl (Nat.le_of_ble_eq_true rfl) rfl ?_
              try rw [nI_add]
              refine a_goto (pc := 122) 54 dX11_keepAll_122 (by decide) ?_
              exact ih (n + 1) (by omega) St' Od' Nw2 N' o' hN' hs' h2 hq2 _
            have odo : ∀ j (Nw2 : Nat → Int32), j ≤ 32 → wt m j ∣ n + 1 → (∀ p, p < 32 → Nw2 p = if p < j then nI (dg m p n) else nI 0) → AW mX11_keepAll X Q ad 0 0 (conc (SS kd kp rp) (pF (pA (pA (pA g 84 St') 85 Od') 89 Nw2) 76 11 (nI N'))) 71 [some (.ref 76), some (.int (nI A)), some (.int (nI n)), some (.int (nI j - nI 1))] [] := by
              intro j
              induction j with
              | zero =>
                intro Nw2 _ hdv h2
                refine a_iload_n (pc := 71) dX11_keepAll_71 rfl ?_
                refine a_if_lt (pc := 72) 105 dX11_keepAll_72 (by decide) (fun c3 => ?_) (fun c3 => ?_)
                · refine a_iload_n (pc := 105) dX11_keepAll_105 rfl ?_
                  refine a_if_lt (pc := 106) 119 dX11_keepAll_106 (by decide) (fun c4 => ?_) (fun c4 => ?_)
                  · refine fin Nw2 _ (fun ht p hp => ?_)
                    exfalso
                    have := Nat.le_of_dvd (by omega) hdv
                    omega
                  · exact absurd (by decide) c4
                · exact absurd (by decide) c3
              | succ j ihj =>
                intro Nw2 hj hdv h2
                obtain ⟨hmj, -, -, -⟩ := hm j (by omega)
                have hmj1 := hm1 j (by omega)
                have hmj2 := (hm2 j (by omega)).2
                have hdj := dg_lt hm1 (p := j) (by omega) n
                have hN2 : Nw2 j = nI (dg m j n) := by rw [h2 j (by omega), if_pos (by omega)]
                rw [show nI (j + 1) - nI 1 = nI j from nI_pred j]
                refine a_iload_n (pc := 71) dX11_keepAll_71 rfl ?_
                refine a_if_ltN (pc := 72) 105 dX11_keepAll_72 (by decide) (by omega) (fun c3 => ?_) (fun c3 => ?_)
                · exact absurd c3 (by omega)
                · refine a_aload_n (pc := 75) dX11_keepAll_75 rfl ?_
                  refine a_gr (pc := 76) dX11_keepAll_76 fX11_52 rfl ?_
                  refine a_iload_n (pc := 79) dX11_keepAll_79 rfl ?_
                  refine a_ial (pc := 80) _ dX11_keepAll_80 rfl rfl (by omega) ?_
                  simp only [gF_pF, gF_pA, gF_pL, gA_pF, gA_pA, gA_pL, gL_pF, gL_pA, gL_pL, reduceIte, Nat.reduceEqDiff, and_false, false_and, and_true, true_and, and_self, hN2]
                  refine a_aload_n (pc := 81) dX11_keepAll_81 rfl ?_
                  refine a_gr (pc := 82) dX11_keepAll_82 fX11_49 rfl ?_
                  refine a_iload_n (pc := 85) dX11_keepAll_85 rfl ?_
                  refine a_ial (pc := 86) _ dX11_keepAll_86 rfl rfl (by omega) ?_
                  simp only [gF_pF, gF_pA, gF_pL, gA_pF, gA_pA, gA_pL, gL_pF, gL_pA, gL_pL, reduceIte, Nat.reduceEqDiff, and_false, false_and, and_true, true_and, and_self, hmj]
                  refine a_iconst (pc := 87) (nI 1) dX11_keepAll_87 (by decide) ?_
                  refine a_isub (pc := 88) dX11_keepAll_88 ?_
                  rw [pk_sub (by omega)]
                  refine a_icmp_neN (pc := 89) 105 dX11_keepAll_89 (by decide) (by omega) (by omega) (fun c4 => ?_) (fun c4 => ?_)
                  · refine a_iload_n (pc := 105) dX11_keepAll_105 rfl ?_
                    refine a_if_ltN (pc := 106) 119 dX11_keepAll_106 (by decide) (by omega) (fun c5 => ?_) (fun c5 => ?_)
                    · exact absurd c5 (by omega)
                    · refine a_aload_n (pc := 109) dX11_keepAll_109 rfl ?_
                      refine a_gr (pc := 110) dX11_keepAll_110 fX11_52 rfl ?_
                      refine a_iload_n (pc := 113) dX11_keepAll_113 rfl ?_
                      refine a_dup2 (pc := 114) dX11_keepAll_114 rfl rfl ?_
                      refine a_ial (pc := 115) _ dX11_keepAll_115 rfl rfl (by omega) ?_
                      simp only [gF_pF, gF_pA, gF_pL, gA_pF, gA_pA, gA_pL, gL_pF, gL_pA, gL_pL, reduceIte, Nat.reduceEqDiff, and_false, false_and, and_true, true_and, and_self, hN2]
                      refine a_iconst (pc := 116) (nI 1) dX11_keepAll_116 (by decide) ?_
                      refine a_iadd (pc := 117) dX11_keepAll_117 ?_
                      try rw [nI_add]
                      refine a_ast (pc := 118) _ dX11_keepAll_118 rfl rfl (by omega) ?_
                      simp only [gF_pF, gF_pA, gF_pL, gA_pF, gA_pA, gA_pL, gL_pF, gL_pA, gL_pL, reduceIte, Nat.reduceEqDiff, and_false, false_and, and_true, true_and, and_self]
                      rw [pF_pA, pA_pA]
                      obtain ⟨u1, u2⟩ := dg_up hm1 (by omega : j < 32) hdv c4
                      refine fin _ _ (fun ht p hp => ?_)
                      simp only [upd]
                      by_cases q : p = j
                      · subst q
                        rw [if_pos rfl, u1]
                      · rw [if_neg q, h2 p hp]
                        rcases Nat.lt_or_ge p j with r | r
                        · rw [if_pos (by omega), u2 p r]
                        · rw [if_neg (by omega), dg_zero hm1 (p := j) (q := p) (by omega) hp hdv]
                  · refine a_aload_n (pc := 92) dX11_keepAll_92 rfl ?_
                    refine a_gr (pc := 93) dX11_keepAll_93 fX11_52 rfl ?_
                    refine a_iload_n (pc := 96) dX11_keepAll_96 rfl ?_
                    refine a_iconst (pc := 97) (nI 0) dX11_keepAll_97 (by decide) ?_
                    refine a_ast (pc := 98) _ dX11_keepAll_98 rfl rfl (by omega) ?_
                    simp only [gF_pF, gF_pA, gF_pL, gA_pF, gA_pA, gA_pL, gL_pF, gL_pA, gL_pL, reduceIte, Nat.reduceEqDiff, and_false, false_and, and_true, true_and, and_self]
                    rw [pF_pA, pA_pA]
                    refine a_iinc (pc := 99) (ls' := [_, _, _, _]) (-1) dX11_keepAll_99 (by decide) rfl (Nat.le_of_ble_eq_true rfl) rfl ?_
                    rw [i_m1]
                    refine a_goto (pc := 102) 71 dX11_keepAll_102 (by decide) ?_
                    refine ihj _ (by omega) (dg_carry hm1 (by omega) hdv c4) (fun p hp => ?_)
                    simp only [upd]
                    by_cases q : p = j
                    · subst q
                      rw [if_pos rfl, if_neg (by omega)]
                    · rw [if_neg q, h2 p hp]
                      by_cases r : p < j
                      · rw [if_pos (by omega), if_pos r]
                      · rw [if_neg (by omega), if_neg r]
            refine a_bipush (pc := 68) (nI 31) dX11_keepAll_68 (by decide) ?_
            refine a_istore_n (pc := 70) (ls' := [_, _, _, _]) dX11_keepAll_70 (Nat.le_of_ble_eq_true rfl) rfl ?_
            have h0 := odo 32 Nw (Nat.le_refl _) (by rw [wt_32]; exact Nat.one_dvd _) (fun p hp => by rw [if_pos hp]; exact hd p hp)
            exact h0
          · subst c2
            obtain ⟨e4096, hno, rfl⟩ := hb2 rfl
            refine a_iconst (pc := 66) (nI 0) dX11_keepAll_66 (by decide) ?_
            refine ret _ _ 67 _ _ dX11_keepAll_67 rfl (by first | exact Or.inl rfl | exact Or.inr rfl | exact bI_01 _) ?_
            refine ⟨rfl, false, St, Od, Nw, N1, o1, rfl, rfl, hN1, hs1, (fun z => by cases z), fun _ St0 h1 h2 => ?_⟩
            refine ⟨fun i => if i < 4096 then (fun p => St (32 * o1 i + p)) else cmb (gA g 87) m n, fun i hi => ?_, fun i j hij hj => ?_⟩
            · by_cases q : i < 4096
              · simp only [if_pos q]
                rcases (hq _).mp ⟨i, by omega, eq32.rf _⟩ with z | ⟨k, hk, e⟩
                · exact h1 _ z
                · refine h2 _ (fun p hp => ?_)
                  obtain ⟨a, ha, e2⟩ := cmb_in (C := gA g 87) hm1 k p hp
                  exact ⟨a, ha, e2.trans (e p hp).symm⟩
              · simp only [if_neg q]
                exact h2 _ (cmb_in hm1 n)
            · by_cases q : j < 4096
              · simp only [if_pos q, if_pos (show i < 4096 by omega)]
                exact (hs1.2 i j hij (by omega)).ne
              · simp only [if_neg q, if_pos (show i < 4096 by omega)]
                exact hno i (by omega)
    have h0 := loop A 0 (by omega) (gA g 84) (gA g 85) Nw0 N o hN hs (fun _ p hp => by rw [dg_0]; exact hNw0 p hp) (fun f0 => ⟨Or.inl, fun z => z.elim id (fun ⟨k, hk, _⟩ => absurd hk (by omega))⟩)
    rw [pA_self, pA_self, ← h11] at h0
    have e0 : pF (pA g 89 Nw0) 76 11 (gF g 76 11) = pA g 89 Nw0 := by
      have := pF_self (pA g 89 Nw0) 76 11
      exact this
    rw [e0] at h0
    exact h0 _
  have first : ∀ t i, 32 = i + t → ∀ Nw : Nat → Int32, (∀ p, p < i → Nw p = nI 0) → ∀ w : Option Value, AW mX11_keepAll X Q ad 0 0 (conc (SS kd kp rp) (pA g 89 Nw)) 4 [some (.ref 76), some (.int (nI (prA m i))), some (.int (nI i)), w] [] := by
    intro t
    induction t with
    | zero =>
      intro i hi Nw h1 w
      have hi32 : i = 32 := by omega
      have e32 : prA m i = A := by rw [hA, hi32]
      rw [e32]
      clear e32
      subst hi32
      refine a_iload_n (pc := 4) dX11_keepAll_4 rfl ?_
      refine a_bipush (pc := 5) (nI 32) dX11_keepAll_5 (by decide) ?_
      refine a_icmp_geN (pc := 7) 43 dX11_keepAll_7 (by decide) (by omega) (by omega) (fun c1 => ?_) (fun c1 => ?_)
      · refine a_iload_n (pc := 43) dX11_keepAll_43 rfl ?_
        refine a_sipush (pc := 44) (nI 4096) dX11_keepAll_44 (by decide) ?_
        refine a_icmp_leN (pc := 47) 52 dX11_keepAll_47 (by decide) (by omega) (by omega) (fun c2 => ?_) (fun c2 => ?_)
        · exact main Nw h1 c2 _ _
        · refine a_iconst (pc := 50) (nI 0) dX11_keepAll_50 (by decide) ?_
          refine ret _ _ 51 _ _ dX11_keepAll_51 rfl (by first | exact Or.inl rfl | exact Or.inr rfl | exact bI_01 _) ?_
          refine ⟨rfl, false, gA g 84, gA g 85, Nw, N, o, rfl, ?_, hN, hs, (fun z => by cases z), fun _ St0 h3 h4 => hbig c2 St0 h4⟩
          rw [pA_self, pA_self, ← h11]
          exact (pF_self (pA g 89 Nw) 76 11).symm
      · exact absurd c1 (by omega)
    | succ t ih =>
      intro i hi Nw h1 w
      obtain ⟨hmi, -, -, -⟩ := hm i (by omega)
      have hb := prA_le hm2 i (by omega)
      refine a_iload_n (pc := 4) dX11_keepAll_4 rfl ?_
      refine a_bipush (pc := 5) (nI 32) dX11_keepAll_5 (by decide) ?_
      refine a_icmp_geN (pc := 7) 43 dX11_keepAll_7 (by decide) (by omega) (by omega) (fun c1 => ?_) (fun c1 => ?_)
      · exact absurd c1 (by omega)
      · refine a_aload_n (pc := 10) dX11_keepAll_10 rfl ?_
        refine a_gr (pc := 11) dX11_keepAll_11 fX11_52 rfl ?_
        refine a_iload_n (pc := 14) dX11_keepAll_14 rfl ?_
        refine a_iconst (pc := 15) (nI 0) dX11_keepAll_15 (by decide) ?_
        refine a_ast (pc := 16) _ dX11_keepAll_16 rfl rfl (by omega) ?_
        refine a_iload_n (pc := 17) dX11_keepAll_17 rfl ?_
        refine a_sipush (pc := 18) (nI 4096) dX11_keepAll_18 (by decide) ?_
        simp only [gF_pF, gF_pA, gF_pL, gA_pF, gA_pA, gA_pL, gL_pF, gL_pA, gL_pL, reduceIte, Nat.reduceEqDiff, and_false, false_and, and_true, true_and, and_self]
        rw [pA_pA]
        refine AW_val3 36 (nI (prA m (i + 1))) (fun hJ => ?_) ?_
        · refine a_icmp_leN (pc := 21) 28 dX11_keepAll_21 (by decide) (by omega) (by omega) (fun c2 => ?_) (fun c2 => ?_)
          · refine a_iload_n (pc := 28) dX11_keepAll_28 rfl ?_
            refine a_aload_n (pc := 29) dX11_keepAll_29 rfl ?_
            refine a_gr (pc := 30) dX11_keepAll_30 fX11_49 rfl ?_
            refine a_iload_n (pc := 33) dX11_keepAll_33 rfl ?_
            refine a_ial (pc := 34) _ dX11_keepAll_34 rfl rfl (by omega) ?_
            simp only [gF_pF, gF_pA, gF_pL, gA_pF, gA_pA, gA_pL, gL_pF, gL_pA, gL_pL, reduceIte, Nat.reduceEqDiff, and_false, false_and, and_true, true_and, and_self, hmi]
            refine a_imul (pc := 35) dX11_keepAll_35 ?_
            try rw [pk_mul]
            exact AW_top (by rw [prA, if_neg (by omega)]) hJ
          · refine a_iload_n (pc := 24) dX11_keepAll_24 rfl ?_
            refine a_goto (pc := 25) 36 dX11_keepAll_25 (by decide) ?_
            exact AW_top (by rw [prA, if_pos c2]) hJ
        refine a_istore_n (pc := 36) (ls' := [_, _, _, _]) dX11_keepAll_36 (Nat.le_of_ble_eq_true rfl) rfl ?_
        refine a_iinc (pc := 37) (ls' := [_, _, _, _]) (nI 1) dX11_keepAll_37 (by decide) rfl (Nat.le_of_ble_eq_true rfl) rfl ?_
        try rw [nI_add]
        refine a_goto (pc := 40) 4 dX11_keepAll_40 (by decide) ?_
        refine ih (i + 1) (by omega) _ (fun p hp => ?_) _
        simp only [upd]
        by_cases q : p = i
        · rw [if_pos q]
        · rw [if_neg q]
          exact h1 p (by omega)
  have h0 := first 32 0 (by omega) (gA g 89) (fun p h => absurd h (by omega)) none
  rw [pA_self] at h0
  exact h0
