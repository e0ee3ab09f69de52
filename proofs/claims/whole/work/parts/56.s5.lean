/-! to the next state; seek -/
def PosD (b : Nat) (g : GH) (L E : Nat) (op s lv : Nat → Nat) (P : Nat → Int32) (i : Nat) : Prop := ∃ J, okJ s L J ∧ cm lv (2 ^ E - 1) J L ≠ 0 ∧ rk s lv L (2 ^ E - 1) J L = i ∧ PrJ b g L (2 ^ E - 1) op lv P J L
def NeD (L E : Nat) (s lv : Nat → Nat) : Prop := ∀ l, l < L → ∀ c, c ≠ 0 → c ≤ 2 ^ E - 1 → ∃ j, s l ≤ j ∧ j < s (l + 1) ∧ c &&& lv j ≠ 0
theorem PrJ.pk {b : Nat} {g : GH} {L E0 : Nat} {op lv : Nat → Nat} {P : Nat → Int32} {J : Nat → Nat} {k : Nat} (h : PrJ b g L E0 op lv P J k) (x : Int32) : PrJ b (pA g (b + 7) (upd (gA g (b + 7)) k x)) L E0 op lv P J k := by
  refine ⟨fun l hl => ?_, fun l hl => ?_, fun l hl => ?_, fun p hp hno => ?_⟩
  · rw [gA_pA, if_pos rfl, upd, if_neg (by omega)]
    exact h.1 l hl
  · rw [gA_pA, if_neg (by omega)]
    exact h.2.1 l hl
  · rw [gA_pA, if_neg (by omega), gA_pA, if_neg (by omega)]
    exact h.2.2.1 l hl
  · rw [gA_pA, if_neg (by omega)]
    exact h.2.2.2 p hp hno
set_option maxHeartbeats 1000000 in
set_option maxRecDepth 100000 in
theorem c_advance_8 {d0 kd kp rp : Nat} {g : GH} {L E : Nat} {op s lv : Nat → Nat} {P : Nat → Int32} (h : StD 8 g L E op s lv) (hm : ∀ a b, a < b → b < L → op a < op b) (hne : NeD L E s lv) (i : Nat) (hi : i + 1 < ct s lv L 0 (2 ^ E - 1)) (hp : PosD 8 g L E op s lv P i) : ACv mX9_advance (d0 + 2) (SS kd kp rp) g [.ref 8] (fun S' g' => S' = SS kd kp rp ∧ Fr [9, 15, 16] g g' ∧ PosD 8 g' L E op s lv P (i + 1)) := by
  have hL := h.1.2
  have hE := h.2.1.2.2
  have hE30 : 2 ^ E ≤ 2 ^ 30 := Nat.pow_le_pow_right (by decide) hE
  have hEp := Nat.two_pow_pos E
  have hs152 := h.2.2.2.2.1.1
  obtain ⟨J, hJ, hcJ, hrk, hpr⟩ := hp
  refine ACv.of lcX9_advance rfl rfl (fun X Q ad hR ret => ?_)
  refine AW_ls (ls' := [_, _, _]) rfl ?_
  refine a_aload_n (pc := 0) dX9_advance_0 rfl ?_
  refine a_gi (pc := 1) dX9_advance_1 fX9_36 rfl ?_
  rw [h.1.1]
  refine a_iconst (pc := 4) (nI 1) dX9_advance_4 (by decide) ?_
  refine a_isub (pc := 5) dX9_advance_5 ?_
  refine a_istore_n (pc := 6) (ls' := [_, _, _]) dX9_advance_6 (Nat.le_of_ble_eq_true rfl) rfl ?_
  have up : ∀ t l, l + t = L → ∀ (g1 : GH) (J1 : Nat → Nat) (y1 : Int32), Fr [9, 15, 16] g g1 → PrJ 8 g1 L (2 ^ E - 1) op lv P J1 l → (∀ m, m < l → s m ≤ J1 m ∧ J1 m < s (m + 1)) → rk s lv L (2 ^ E - 1) J1 l = i + 1 → cm lv (2 ^ E - 1) J1 l ≠ 0 → AW mX9_advance X Q ad 0 0 (conc (SS kd kp rp) g1) 29 [some (.ref 8), some (.int y1), some (.int (nI l))] [] := by
    intro t
    induction t with
    | zero =>
      intro l hl g1 J1 y1 hfr hp1 hok hr hc
      obtain rfl : l = L := by omega
      have hD := h.fr hfr (by decide) (by decide) (by decide) (by decide)
      refine a_iload_n (pc := 29) dX9_advance_29 rfl ?_
      refine a_aload_n (pc := 30) dX9_advance_30 rfl ?_
      refine a_gi (pc := 31) dX9_advance_31 fX9_36 rfl ?_
      rw [hD.1.1]
      refine a_icmp_geN (pc := 34) 63 dX9_advance_34 (by decide) (by omega) (by omega) (fun c1 => ?_) (fun c1 => ?_)
      · refine ret _ _ 63 _ dX9_advance_63 rfl ?_
        exact ⟨rfl, hfr, J1, hok, hc, hr, hp1⟩
      · exact absurd c1 (by omega)
    | succ t ih =>
      intro l hl g1 J1 y1 hfr hp1 hok hr hc
      have hD := h.fr hfr (by decide) (by decide) (by decide) (by decide)
      have hsl := hD.2.2.2.1 l (by omega)
      have hle2 := hD.le (l := l) (m := l + 1) (by omega) (by omega)
      have hcl := cm_le (lv := lv) (E0 := 2 ^ E - 1) J1 l
      refine a_iload_n (pc := 29) dX9_advance_29 rfl ?_
      refine a_aload_n (pc := 30) dX9_advance_30 rfl ?_
      refine a_gi (pc := 31) dX9_advance_31 fX9_36 rfl ?_
      rw [hD.1.1]
      refine a_icmp_geN (pc := 34) 63 dX9_advance_34 (by decide) (by omega) (by omega) (fun c1 => ?_) (fun c1 => ?_)
      · exact absurd c1 (by omega)
      · refine a_aload_n (pc := 37) dX9_advance_37 rfl ?_
        refine a_gr (pc := 38) dX9_advance_38 fX9_30 rfl ?_
        refine a_iload_n (pc := 41) dX9_advance_41 rfl ?_
        refine a_aload_n (pc := 42) dX9_advance_42 rfl ?_
        refine a_gr (pc := 43) dX9_advance_43 fX9_18 rfl ?_
        refine a_iload_n (pc := 46) dX9_advance_46 rfl ?_
        refine a_ial (pc := 47) _ dX9_advance_47 rfl rfl (by omega) ?_
        rw [hsl]
        refine a_iconst (pc := 48) (nI 1) dX9_advance_48 (by decide) ?_
        refine a_isub (pc := 49) dX9_advance_49 ?_
        refine a_ast (pc := 50) _ dX9_advance_50 rfl rfl (by omega) ?_
        refine a_aload_n (pc := 51) dX9_advance_51 rfl ?_
        refine a_iload_n (pc := 52) dX9_advance_52 rfl ?_
        have hfr2 := hfr.sA (a := 15) (by decide) (upd (gA g1 15) l (nI (s l) - nI 1))
        have hD2 := h.fr hfr2 (by decide) (by decide) (by decide) (by decide)
        refine a_V1i (pc := 53) 8 dX9_advance_53 lcX9_step lX9_124 rfl rfl rfl (fit_of hR (by omega) rfl) (c_step_8 (d0 := d0) (J := J1) hD2 (E0 := 2 ^ E - 1) (by omega) hm l (s l) (nI (s l) - nI 1) (by omega) (by rw [gA_pA, if_pos rfl, upd, if_pos rfl]) (Int32.sub_add_cancel _ _) (Nat.le_refl _) hle2 (hp1.pk _)) rfl rfl (fun rr S' g' hS hp => ?_)
        obtain ⟨rfl, bb, rfl, hf3, hy, hn⟩ := hp
        refine a_pop (pc := 56) dX9_advance_56 rfl ?_
        refine a_iinc (pc := 57) (ls' := [_, _, _]) (nI 1) dX9_advance_57 (by decide) rfl (Nat.le_of_ble_eq_true rfl) rfl ?_
        try rw [nI_add]
        refine a_goto (pc := 60) 29 dX9_advance_60 (by decide) ?_
        cases bb with
        | false =>
          obtain ⟨-, hz⟩ := hn rfl
          obtain ⟨j, j1, j2, j3⟩ := hne l (by omega) _ hc hcl
          exact absurd (hz j j1 j2) j3
        | true =>
          obtain ⟨j, j1, j2, j3, j4, j5⟩ := hy rfl
          refine ih (l + 1) (by omega) _ (upJ J1 l j) _ (hfr2.tr hf3) j5 (fun m hm => ?_) ?_ (by rw [cm_up]; exact j3)
          · by_cases z : m = l
            · rw [z, upJ_at]
              exact ⟨j1, j2⟩
            · rw [upJ_lt J1 l j m (by omega)]
              exact hok m (by omega)
          · rw [rk_upJ, sU_tl j1 (fun q q1 q2 => by rw [j4 q q1 q2, ct_0]) (Nat.le_refl _), sU_e (Nat.le_refl _), hr]
  have down : ∀ k, k ≤ L → rk s lv L (2 ^ E - 1) J k + ct s lv L k (cm lv (2 ^ E - 1) J k) = i + 1 → AW mX9_advance X Q ad 0 0 (conc (SS kd kp rp) g) 7 [some (.ref 8), some (.int (nI k - nI 1)), none] [] := by
    intro k
    induction k with
    | zero =>
      intro _ e
      have e : 0 + ct s lv L 0 (2 ^ E - 1) = i + 1 := e
      omega
    | succ k ih =>
      intro hk e
      have hJk := hJ k (by omega)
      rw [show nI (k + 1) - nI 1 = nI k from nI_pred k]
      rw [rk_up (by omega) hJk.1] at e
      refine a_iload_n (pc := 7) dX9_advance_7 rfl ?_
      refine a_if_ltN (pc := 8) 25 dX9_advance_8 (by decide) (by omega) (fun c1 => ?_) (fun c1 => ?_)
      · exact absurd c1 (by omega)
      · refine a_aload_n (pc := 11) dX9_advance_11 rfl ?_
        refine a_iload_n (pc := 12) dX9_advance_12 rfl ?_
        refine a_V1i (pc := 13) 8 dX9_advance_13 lcX9_step lX9_124 rfl rfl rfl (fit_of hR (by omega) rfl) (c_step_8 (d0 := d0) (J := J) h (E0 := 2 ^ E - 1) (by omega) hm k (J k + 1) (nI (J k)) (by omega) (hpr.1 k (by omega)) (nI_add _ _) (by omega) (by omega) (hpr.less (by omega))) rfl rfl (fun rr S' g' hS hp => ?_)
        obtain ⟨rfl, bb, rfl, hf3, hy, hn⟩ := hp
        cases bb with
        | false =>
          obtain ⟨hg, hz⟩ := hn rfl
          subst hg
          refine a_if_neB (pc := 16) 25 dX9_advance_16 (by decide) (fun c2 => ?_) (fun c2 => ?_)
          · exact absurd c2 (by decide)
          · refine a_iinc (pc := 19) (ls' := [_, _, _]) (-1) dX9_advance_19 (by decide) rfl (Nat.le_of_ble_eq_true rfl) rfl ?_
            rw [i_m1]
            refine a_goto (pc := 22) 7 dX9_advance_22 (by decide) ?_
            refine ih (by omega) ?_
            rw [ct_s s lv (by omega : k < L), sU_tl (j := J k + 1) (by omega) (fun q q1 q2 => by rw [hz q q1 q2, ct_0]) (by omega)]
            exact e
        | true =>
          obtain ⟨j, j1, j2, j3, j4, j5⟩ := hy rfl
          refine a_if_neB (pc := 16) 25 dX9_advance_16 (by decide) (fun c2 => ?_) (fun c2 => ?_)
          · refine a_iload_n (pc := 25) dX9_advance_25 rfl ?_
            refine a_iconst (pc := 26) (nI 1) dX9_advance_26 (by decide) ?_
            refine a_iadd (pc := 27) dX9_advance_27 ?_
            try rw [nI_add]
            refine a_istore_n (pc := 28) (ls' := [_, _, _]) dX9_advance_28 (Nat.le_of_ble_eq_true rfl) rfl ?_
            refine up (L - (k + 1)) (k + 1) (by omega) _ (upJ J k j) _ hf3 j5 (fun m hm => ?_) ?_ (by rw [cm_up]; exact j3)
            · by_cases z : m = k
              · rw [z, upJ_at]
                exact ⟨by omega, j2⟩
              · rw [upJ_lt J k j m (by omega)]
                exact hJ m (by omega)
            · rw [rk_upJ, sU_tl (j := J k + 1) j1 (fun q q1 q2 => by rw [j4 q q1 q2, ct_0]) (by omega)]
              exact e
          · exact absurd c2 (by decide)
  refine down L (Nat.le_refl _) ?_
  rw [ct_L, if_neg hcJ, hrk]
set_option maxHeartbeats 1000000 in
set_option maxRecDepth 100000 in
theorem c_seek_8 {d0 kd kp rp : Nat} {g : GH} {L E : Nat} {op s lv : Nat → Nat} {P : Nat → Int32} (h : StD 8 g L E op s lv) (ha : AlD 8 g L E s lv) (hm : ∀ a b, a < b → b < L → op a < op b) (hne : NeD L E s lv) (i : Nat) (hi : i < ct s lv L 0 (2 ^ E - 1)) (hN : ct s lv L 0 (2 ^ E - 1) ≤ 4096) (hp : (gF g 8 12 = -1 ∧ PrJ 8 g L (2 ^ E - 1) op lv P (fun _ => 0) 0) ∨ ∃ i0, gF g 8 12 = nI i0 ∧ i0 < 4096 ∧ PosD 8 g L E op s lv P i0) : ACv mX9_seek (d0 + 35) (SS kd kp rp) g [.ref 8, .int (nI i)] (fun S' g' => S' = SS kd kp rp ∧ Fr [8, 9, 15, 16] g g' ∧ (∀ k, k ≠ 12 → gF g' 8 k = gF g 8 k) ∧ gF g' 8 12 = nI i ∧ PosD 8 g' L E op s lv P i) := by
  refine ACv.of lcX9_seek rfl rfl (fun X Q ad hR ret => ?_)
  refine AW_ls (ls' := [_, _]) rfl ?_
  have fin : ∀ g1 : GH, Fr [9, 15, 16] g g1 → PosD 8 g1 L E op s lv P i → AW mX9_seek X Q ad 0 0 (conc (SS kd kp rp) g1) 37 [some (.ref 8), some (.int (nI i))] [] := by
    intro g1 hf hpos
    refine a_aload_n (pc := 37) dX9_seek_37 rfl ?_
    refine a_iload_n (pc := 38) dX9_seek_38 rfl ?_
    refine a_pi (pc := 39) dX9_seek_39 fX9_49 rfl ?_
    refine ret _ _ 42 _ dX9_seek_42 rfl ?_
    refine ⟨rfl, (hf.mono (by decide)).sF (by decide) _ _, fun k hk => ?_, ?_, hpos⟩
    · rw [gF_pF, if_neg (fun z => hk z.2)]
      exact hf.f (by decide) k
    · rw [gF_pF, if_pos ⟨rfl, rfl⟩]
  have desc : PrJ 8 g L (2 ^ E - 1) op lv P (fun _ => 0) 0 → AW mX9_seek X Q ad 0 0 (conc (SS kd kp rp) g) 32 [some (.ref 8), some (.int (nI i))] [] := by
    intro h0
    refine a_aload_n (pc := 32) dX9_seek_32 rfl ?_
    refine a_iload_n (pc := 33) dX9_seek_33 rfl ?_
    refine a_V1v (pc := 34) 8 dX9_seek_34 lcX9_descend lX9_120 rfl rfl rfl (fit_of hR (by omega) rfl) (c_descend_8 (d0 := d0) h ha hm i hi hN h0) rfl rfl (fun S' g' hS hp => ?_)
    obtain ⟨rfl, h1, h2⟩ := hp
    exact fin _ h1 h2
  refine a_aload_n (pc := 0) dX9_seek_0 rfl ?_
  refine a_gi (pc := 1) dX9_seek_1 fX9_49 rfl ?_
  rcases hp with ⟨e, h0⟩ | ⟨i0, e, hi0, hpos⟩
  · rw [e]
    refine a_if_lt (pc := 4) 24 dX9_seek_4 (by decide) (fun c1 => ?_) (fun c1 => ?_)
    · refine a_iload_n (pc := 24) dX9_seek_24 rfl ?_
      refine a_aload_n (pc := 25) dX9_seek_25 rfl ?_
      refine a_gi (pc := 26) dX9_seek_26 fX9_49 rfl ?_
      rw [e]
      refine a_icmp_eq (pc := 29) 37 dX9_seek_29 (by decide) (fun c2 => ?_) (fun c2 => ?_)
      · exact absurd c2 (nI_m1 (by omega))
      · exact desc h0
    · exact absurd (by decide) c1
  · rw [e]
    have h0 : PrJ 8 g L (2 ^ E - 1) op lv P (fun _ => 0) 0 := by
      obtain ⟨J, -, -, -, hpr⟩ := hpos
      exact (hpr.less (Nat.zero_le _)).congr (fun i hi => absurd hi (by omega))
    have low : AW mX9_seek X Q ad 0 0 (conc (SS kd kp rp) g) 24 [some (.ref 8), some (.int (nI i))] [] := by
      refine a_iload_n (pc := 24) dX9_seek_24 rfl ?_
      refine a_aload_n (pc := 25) dX9_seek_25 rfl ?_
      refine a_gi (pc := 26) dX9_seek_26 fX9_49 rfl ?_
      rw [e]
      refine a_icmp_eqN (pc := 29) 37 dX9_seek_29 (by decide) (by omega) (by omega) (fun c2 => ?_) (fun c2 => ?_)
      · exact fin g (Fr.rf _ g) (by rw [c2]; exact hpos)
      · exact desc h0
    refine a_if_ltN (pc := 4) 24 dX9_seek_4 (by decide) (by omega) (fun c1 => ?_) (fun c1 => ?_)
    · exact absurd c1 (by omega)
    · refine a_iload_n (pc := 7) dX9_seek_7 rfl ?_
      refine a_aload_n (pc := 8) dX9_seek_8 rfl ?_
      refine a_gi (pc := 9) dX9_seek_9 fX9_49 rfl ?_
      rw [e]
      refine a_iconst (pc := 12) (nI 1) dX9_seek_12 (by decide) ?_
      refine a_iadd (pc := 13) dX9_seek_13 ?_
      try rw [nI_add]
      refine a_icmp_neN (pc := 14) 24 dX9_seek_14 (by decide) (by omega) (by omega) (fun c2 => ?_) (fun c2 => ?_)
      · exact low
      · refine a_aload_n (pc := 17) dX9_seek_17 rfl ?_
        refine a_V0v (pc := 18) 8 dX9_seek_18 lcX9_advance lX9_117 rfl rfl rfl (fit_of hR (by omega) rfl) (c_advance_8 (d0 := d0) h hm hne i0 (by omega) hpos) rfl rfl (fun S' g' hS hp => ?_)
        obtain ⟨rfl, h1, h2⟩ := hp
        refine a_goto (pc := 21) 37 dX9_seek_21 (by decide) ?_
        exact fin _ h1 (by rw [c2]; exact h2)
set_option maxHeartbeats 1000000 in
set_option maxRecDepth 100000 in
theorem c_advance_34 {d0 kd kp rp : Nat} {g : GH} {L E : Nat} {op s lv : Nat → Nat} {P : Nat → Int32} (h : StD 34 g L E op s lv) (hm : ∀ a b, a < b → b < L → op a < op b) (hne : NeD L E s lv) (i : Nat) (hi : i + 1 < ct s lv L 0 (2 ^ E - 1)) (hp : PosD 34 g L E op s lv P i) : ACv mX9_advance (d0 + 2) (SS kd kp rp) g [.ref 34] (fun S' g' => S' = SS kd kp rp ∧ Fr [35, 41, 42] g g' ∧ PosD 34 g' L E op s lv P (i + 1)) := by
  have hL := h.1.2
  have hE := h.2.1.2.2
  have hE30 : 2 ^ E ≤ 2 ^ 30 := Nat.pow_le_pow_right (by decide) hE
  have hEp := Nat.two_pow_pos E
  have hs152 := h.2.2.2.2.1.1
  obtain ⟨J, hJ, hcJ, hrk, hpr⟩ := hp
  refine ACv.of lcX9_advance rfl rfl (fun X Q ad hR ret => ?_)
  refine AW_ls (ls' := [_, _, _]) rfl ?_
  refine a_aload_n (pc := 0) dX9_advance_0 rfl ?_
  refine a_gi (pc := 1) dX9_advance_1 fX9_36 rfl ?_
  rw [h.1.1]
  refine a_iconst (pc := 4) (nI 1) dX9_advance_4 (by decide) ?_
  refine a_isub (pc := 5) dX9_advance_5 ?_
  refine a_istore_n (pc := 6) (ls' := [_, _, _]) dX9_advance_6 (Nat.le_of_ble_eq_true rfl) rfl ?_
  have up : ∀ t l, l + t = L → ∀ (g1 : GH) (J1 : Nat → Nat) (y1 : Int32), Fr [35, 41, 42] g g1 → PrJ 34 g1 L (2 ^ E - 1) op lv P J1 l → (∀ m, m < l → s m ≤ J1 m ∧ J1 m < s (m + 1)) → rk s lv L (2 ^ E - 1) J1 l = i + 1 → cm lv (2 ^ E - 1) J1 l ≠ 0 → AW mX9_advance X Q ad 0 0 (conc (SS kd kp rp) g1) 29 [some (.ref 34), some (.int y1), some (.int (nI l))] [] := by
    intro t
    induction t with
    | zero =>
      intro l hl g1 J1 y1 hfr hp1 hok hr hc
      obtain rfl : l = L := by omega
      have hD := h.fr hfr (by decide) (by decide) (by decide) (by decide)
      refine a_iload_n (pc := 29) dX9_advance_29 rfl ?_
      refine a_aload_n (pc := 30) dX9_advance_30 rfl ?_
      refine a_gi (pc := 31) dX9_advance_31 fX9_36 rfl ?_
      rw [hD.1.1]
      refine a_icmp_geN (pc := 34) 63 dX9_advance_34 (by decide) (by omega) (by omega) (fun c1 => ?_) (fun c1 => ?_)
      · refine ret _ _ 63 _ dX9_advance_63 rfl ?_
        exact ⟨rfl, hfr, J1, hok, hc, hr, hp1⟩
      · exact absurd c1 (by omega)
    | succ t ih =>
      intro l hl g1 J1 y1 hfr hp1 hok hr hc
      have hD := h.fr hfr (by decide) (by decide) (by decide) (by decide)
      have hsl := hD.2.2.2.1 l (by omega)
      have hle2 := hD.le (l := l) (m := l + 1) (by omega) (by omega)
      have hcl := cm_le (lv := lv) (E0 := 2 ^ E - 1) J1 l
      refine a_iload_n (pc := 29) dX9_advance_29 rfl ?_
      refine a_aload_n (pc := 30) dX9_advance_30 rfl ?_
      refine a_gi (pc := 31) dX9_advance_31 fX9_36 rfl ?_
      rw [hD.1.1]
      refine a_icmp_geN (pc := 34) 63 dX9_advance_34 (by decide) (by omega) (by omega) (fun c1 => ?_) (fun c1 => ?_)
      · exact absurd c1 (by omega)
      · refine a_aload_n (pc := 37) dX9_advance_37 rfl ?_
        refine a_gr (pc := 38) dX9_advance_38 fX9_30 rfl ?_
        refine a_iload_n (pc := 41) dX9_advance_41 rfl ?_
        refine a_aload_n (pc := 42) dX9_advance_42 rfl ?_
        refine a_gr (pc := 43) dX9_advance_43 fX9_18 rfl ?_
        refine a_iload_n (pc := 46) dX9_advance_46 rfl ?_
        refine a_ial (pc := 47) _ dX9_advance_47 rfl rfl (by omega) ?_
        rw [hsl]
        refine a_iconst (pc := 48) (nI 1) dX9_advance_48 (by decide) ?_
        refine a_isub (pc := 49) dX9_advance_49 ?_
        refine a_ast (pc := 50) _ dX9_advance_50 rfl rfl (by omega) ?_
        refine a_aload_n (pc := 51) dX9_advance_51 rfl ?_
        refine a_iload_n (pc := 52) dX9_advance_52 rfl ?_
        have hfr2 := hfr.sA (a := 41) (by decide) (upd (gA g1 41) l (nI (s l) - nI 1))
        have hD2 := h.fr hfr2 (by decide) (by decide) (by decide) (by decide)
        refine a_V1i (pc := 53) 8 dX9_advance_53 lcX9_step lX9_124 rfl rfl rfl (fit_of hR (by omega) rfl) (c_step_34 (d0 := d0) (J := J1) hD2 (E0 := 2 ^ E - 1) (by omega) hm l (s l) (nI (s l) - nI 1) (by omega) (by rw [gA_pA, if_pos rfl, upd, if_pos rfl]) (Int32.sub_add_cancel _ _) (Nat.le_refl _) hle2 (hp1.pk _)) rfl rfl (fun rr S' g' hS hp => ?_)
        obtain ⟨rfl, bb, rfl, hf3, hy, hn⟩ := hp
        refine a_pop (pc := 56) dX9_advance_56 rfl ?_
        refine a_iinc (pc := 57) (ls' := [_, _, _]) (nI 1) dX9_advance_57 (by decide) rfl (Nat.le_of_ble_eq_true rfl) rfl ?_
        try rw [nI_add]
        refine a_goto (pc := 60) 29 dX9_advance_60 (by decide) ?_
        cases bb with
        | false =>
          obtain ⟨-, hz⟩ := hn rfl
          obtain ⟨j, j1, j2, j3⟩ := hne l (by omega) _ hc hcl
          exact absurd (hz j j1 j2) j3
        | true =>
          obtain ⟨j, j1, j2, j3, j4, j5⟩ := hy rfl
          refine ih (l + 1) (by omega) _ (upJ J1 l j) _ (hfr2.tr hf3) j5 (fun m hm => ?_) ?_ (by rw [cm_up]; exact j3)
          · by_cases z : m = l
            · rw [z, upJ_at]
              exact ⟨j1, j2⟩
            · rw [upJ_lt J1 l j m (by omega)]
              exact hok m (by omega)
          · rw [rk_upJ, sU_tl j1 (fun q q1 q2 => by rw [j4 q q1 q2, ct_0]) (Nat.le_refl _), sU_e (Nat.le_refl _), hr]
  have down : ∀ k, k ≤ L → rk s lv L (2 ^ E - 1) J k + ct s lv L k (cm lv (2 ^ E - 1) J k) = i + 1 → AW mX9_advance X Q ad 0 0 (conc (SS kd kp rp) g) 7 [some (.ref 34), some (.int (nI k - nI 1)), none] [] := by
    intro k
    induction k with
    | zero =>
      intro _ e
      have e : 0 + ct s lv L 0 (2 ^ E - 1) = i + 1 := e
      omega
    | succ k ih =>
      intro hk e
      have hJk := hJ k (by omega)
      rw [show nI (k + 1) - nI 1 = nI k from nI_pred k]
      rw [rk_up (by omega) hJk.1] at e
      refine a_iload_n (pc := 7) dX9_advance_7 rfl ?_
      refine a_if_ltN (pc := 8) 25 dX9_advance_8 (by decide) (by omega) (fun c1 => ?_) (fun c1 => ?_)
      · exact absurd c1 (by omega)
      · refine a_aload_n (pc := 11) dX9_advance_11 rfl ?_
        refine a_iload_n (pc := 12) dX9_advance_12 rfl ?_
        refine a_V1i (pc := 13) 8 dX9_advance_13 lcX9_step lX9_124 rfl rfl rfl (fit_of hR (by omega) rfl) (c_step_34 (d0 := d0) (J := J) h (E0 := 2 ^ E - 1) (by omega) hm k (J k + 1) (nI (J k)) (by omega) (hpr.1 k (by omega)) (nI_add _ _) (by omega) (by omega) (hpr.less (by omega))) rfl rfl (fun rr S' g' hS hp => ?_)
        obtain ⟨rfl, bb, rfl, hf3, hy, hn⟩ := hp
        cases bb with
        | false =>
          obtain ⟨hg, hz⟩ := hn rfl
          subst hg
          refine a_if_neB (pc := 16) 25 dX9_advance_16 (by decide) (fun c2 => ?_) (fun c2 => ?_)
          · exact absurd c2 (by decide)
          · refine a_iinc (pc := 19) (ls' := [_, _, _]) (-1) dX9_advance_19 (by decide) rfl (Nat.le_of_ble_eq_true rfl) rfl ?_
            rw [i_m1]
            refine a_goto (pc := 22) 7 dX9_advance_22 (by decide) ?_
            refine ih (by omega) ?_
            rw [ct_s s lv (by omega : k < L), sU_tl (j := J k + 1) (by omega) (fun q q1 q2 => by rw [hz q q1 q2, ct_0]) (by omega)]
            exact e
        | true =>
          obtain ⟨j, j1, j2, j3, j4, j5⟩ := hy rfl
          refine a_if_neB (pc := 16) 25 dX9_advance_16 (by decide) (fun c2 => ?_) (fun c2 => ?_)
          · refine a_iload_n (pc := 25) dX9_advance_25 rfl ?_
            refine a_iconst (pc := 26) (nI 1) dX9_advance_26 (by decide) ?_
            refine a_iadd (pc := 27) dX9_advance_27 ?_
            try rw [nI_add]
            refine a_istore_n (pc := 28) (ls' := [_, _, _]) dX9_advance_28 (Nat.le_of_ble_eq_true rfl) rfl ?_
            refine up (L - (k + 1)) (k + 1) (by omega) _ (upJ J k j) _ hf3 j5 (fun m hm => ?_) ?_ (by rw [cm_up]; exact j3)
            · by_cases z : m = k
              · rw [z, upJ_at]
                exact ⟨by omega, j2⟩
              · rw [upJ_lt J k j m (by omega)]
                exact hJ m (by omega)
            · rw [rk_upJ, sU_tl (j := J k + 1) j1 (fun q q1 q2 => by rw [j4 q q1 q2, ct_0]) (by omega)]
              exact e
          · exact absurd c2 (by decide)
  refine down L (Nat.le_refl _) ?_
  rw [ct_L, if_neg hcJ, hrk]
set_option maxHeartbeats 1000000 in
set_option maxRecDepth 100000 in
theorem c_seek_34 {d0 kd kp rp : Nat} {g : GH} {L E : Nat} {op s lv : Nat → Nat} {P : Nat → Int32} (h : StD 34 g L E op s lv) (ha : AlD 34 g L E s lv) (hm : ∀ a b, a < b → b < L → op a < op b) (hne : NeD L E s lv) (i : Nat) (hi : i < ct s lv L 0 (2 ^ E - 1)) (hN : ct s lv L 0 (2 ^ E - 1) ≤ 4096) (hp : (gF g 34 12 = -1 ∧ PrJ 34 g L (2 ^ E - 1) op lv P (fun _ => 0) 0) ∨ ∃ i0, gF g 34 12 = nI i0 ∧ i0 < 4096 ∧ PosD 34 g L E op s lv P i0) : ACv mX9_seek (d0 + 35) (SS kd kp rp) g [.ref 34, .int (nI i)] (fun S' g' => S' = SS kd kp rp ∧ Fr [34, 35, 41, 42] g g' ∧ (∀ k, k ≠ 12 → gF g' 34 k = gF g 34 k) ∧ gF g' 34 12 = nI i ∧ PosD 34 g' L E op s lv P i) := by
  refine ACv.of lcX9_seek rfl rfl (fun X Q ad hR ret => ?_)
  refine AW_ls (ls' := [_, _]) rfl ?_
  have fin : ∀ g1 : GH, Fr [35, 41, 42] g g1 → PosD 34 g1 L E op s lv P i → AW mX9_seek X Q ad 0 0 (conc (SS kd kp rp) g1) 37 [some (.ref 34), some (.int (nI i))] [] := by
    intro g1 hf hpos
    refine a_aload_n (pc := 37) dX9_seek_37 rfl ?_
    refine a_iload_n (pc := 38) dX9_seek_38 rfl ?_
    refine a_pi (pc := 39) dX9_seek_39 fX9_49 rfl ?_
    refine ret _ _ 42 _ dX9_seek_42 rfl ?_
    refine ⟨rfl, (hf.mono (by decide)).sF (by decide) _ _, fun k hk => ?_, ?_, hpos⟩
    · rw [gF_pF, if_neg (fun z => hk z.2)]
      exact hf.f (by decide) k
    · rw [gF_pF, if_pos ⟨rfl, rfl⟩]
  have desc : PrJ 34 g L (2 ^ E - 1) op lv P (fun _ => 0) 0 → AW mX9_seek X Q ad 0 0 (conc (SS kd kp rp) g) 32 [some (.ref 34), some (.int (nI i))] [] := by
    intro h0
    refine a_aload_n (pc := 32) dX9_seek_32 rfl ?_
    refine a_iload_n (pc := 33) dX9_seek_33 rfl ?_
    refine a_V1v (pc := 34) 8 dX9_seek_34 lcX9_descend lX9_120 rfl rfl rfl (fit_of hR (by omega) rfl) (c_descend_34 (d0 := d0) h ha hm i hi hN h0) rfl rfl (fun S' g' hS hp => ?_)
    obtain ⟨rfl, h1, h2⟩ := hp
    exact fin _ h1 h2
  refine a_aload_n (pc := 0) dX9_seek_0 rfl ?_
  refine a_gi (pc := 1) dX9_seek_1 fX9_49 rfl ?_
  rcases hp with ⟨e, h0⟩ | ⟨i0, e, hi0, hpos⟩
  · rw [e]
    refine a_if_lt (pc := 4) 24 dX9_seek_4 (by decide) (fun c1 => ?_) (fun c1 => ?_)
    · refine a_iload_n (pc := 24) dX9_seek_24 rfl ?_
      refine a_aload_n (pc := 25) dX9_seek_25 rfl ?_
      refine a_gi (pc := 26) dX9_seek_26 fX9_49 rfl ?_
      rw [e]
      refine a_icmp_eq (pc := 29) 37 dX9_seek_29 (by decide) (fun c2 => ?_) (fun c2 => ?_)
      · exact absurd c2 (nI_m1 (by omega))
      · exact desc h0
    · exact absurd (by decide) c1
  · rw [e]
    have h0 : PrJ 34 g L (2 ^ E - 1) op lv P (fun _ => 0) 0 := by
      obtain ⟨J, -, -, -, hpr⟩ := hpos
      exact (hpr.less (Nat.zero_le _)).congr (fun i hi => absurd hi (by omega))
    have low : AW mX9_seek X Q ad 0 0 (conc (SS kd kp rp) g) 24 [some (.ref 34), some (.int (nI i))] [] := by
      refine a_iload_n (pc := 24) dX9_seek_24 rfl ?_
      refine a_aload_n (pc := 25) dX9_seek_25 rfl ?_
      refine a_gi (pc := 26) dX9_seek_26 fX9_49 rfl ?_
      rw [e]
      refine a_icmp_eqN (pc := 29) 37 dX9_seek_29 (by decide) (by omega) (by omega) (fun c2 => ?_) (fun c2 => ?_)
      · exact fin g (Fr.rf _ g) (by rw [c2]; exact hpos)
      · exact desc h0
    refine a_if_ltN (pc := 4) 24 dX9_seek_4 (by decide) (by omega) (fun c1 => ?_) (fun c1 => ?_)
    · exact absurd c1 (by omega)
    · refine a_iload_n (pc := 7) dX9_seek_7 rfl ?_
      refine a_aload_n (pc := 8) dX9_seek_8 rfl ?_
      refine a_gi (pc := 9) dX9_seek_9 fX9_49 rfl ?_
      rw [e]
      refine a_iconst (pc := 12) (nI 1) dX9_seek_12 (by decide) ?_
      refine a_iadd (pc := 13) dX9_seek_13 ?_
      try rw [nI_add]
      refine a_icmp_neN (pc := 14) 24 dX9_seek_14 (by decide) (by omega) (by omega) (fun c2 => ?_) (fun c2 => ?_)
      · exact low
      · refine a_aload_n (pc := 17) dX9_seek_17 rfl ?_
        refine a_V0v (pc := 18) 8 dX9_seek_18 lcX9_advance lX9_117 rfl rfl rfl (fit_of hR (by omega) rfl) (c_advance_34 (d0 := d0) h hm hne i0 (by omega) hpos) rfl rfl (fun S' g' hS hp => ?_)
        obtain ⟨rfl, h1, h2⟩ := hp
        refine a_goto (pc := 21) 37 dX9_seek_21 (by decide) ?_
        exact fin _ h1 (by rw [c2]; exact h2)
