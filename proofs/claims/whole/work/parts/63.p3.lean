/-! rising from a state; what came out; what is right -/
theorem hoO_congr {F F' : Nat → Int32} (h : eq32 F F') (st : Nat) : hoO st F = hoO st F' := by
  unfold hoO
  rw [verQ_nil, verQ_nil, h 6 (by decide), h 7 (by decide), h 14 (by decide), h 15 (by decide)]
def cmJ (F : Nat → Int32) (o : Option Nat) (j : Nat) : Int32 := match o with
  | none => nI 0
  | some h => F (2 * h + j)
theorem cmJ_row {f F F' : Nat → Int32} {st : Nat} (h : eq32 F F') (e : ∀ j, j < 6 → f j = cmJ F (hoO st F) j) : rowD f (fun k => keyQ (F', []) st k) := by
  intro k hk
  show f (2 * k) = hi32 (keyQ (F', []) st k) ∧ f (2 * k + 1) = (keyQ (F', []) st k).toInt32
  rw [e _ (by omega), e _ (by omega), ← vaO_key, ← hoO_congr h st]
  cases ho : hoO st F with
  | none => exact ⟨hi0.symm, lo0.symm⟩
  | some x =>
    have hx := hoO_lt ho
    show F (2 * x + 2 * k) = hi32 (jn64 (F' (2 * (x + k))) (F' (2 * (x + k) + 1))) ∧ F (2 * x + (2 * k + 1)) = (jn64 (F' (2 * (x + k))) (F' (2 * (x + k) + 1))).toInt32
    rw [hi_jn, lo_jn, show 2 * x + 2 * k = 2 * (x + k) by omega, show 2 * x + (2 * k + 1) = 2 * (x + k) + 1 by omega]
    exact ⟨h _ (by omega), h _ (by omega)⟩
theorem flQ_nil (F : Nat → Int32) : flQ (F, []) = F := rfl
set_option maxHeartbeats 1000000 in
set_option maxRecDepth 100000 in
theorem c_riseFrom {d0 kp rp : Nat} {g : GH} (st m : Nat) (hst : st < 3) (hm : m < 16) (h10 : gF g 26 10 = nI m) : ACv mX3_riseFrom (d0 + 3) (SS (71 + st) kp rp) g [.ref 26, .ref 35] (fun S' g' => S' = SS (71 + st) kp rp ∧ rowD (gA g' 62) (camQ (gA g 35) st (spB st m)) ∧ Fr [47, 48, 49, 50, 61, 62] g g') := by
  refine ACv.of lcX3_riseFrom rfl rfl (fun X Q ad hR ret => ?_)
  refine AW_ls (ls' := [_, _, _, _, _]) rfl ?_
  refine a_aload_n (pc := 0) dX3_riseFrom_0 rfl ?_
  refine a_gr (pc := 1) dX3_riseFrom_1 fX3_32 rfl ?_
  refine a_aload_n (pc := 4) dX3_riseFrom_4 rfl ?_
  refine a_gi (pc := 5) dX3_riseFrom_5 fX3_64 rfl ?_
  rw [h10]
  refine a_V1v (pc := 8) 4 dX3_riseFrom_8 lcX5_begin lX3_114 rfl rfl rfl (fit_of hR (by omega) rfl) (c_pbegin_47 (d0 := d0) (nI m)) rfl rfl (fun S' g' hS hp => ?_)
  obtain ⟨rfl, hP0, e4, f0⟩ := hp
  have e35 : gA g' 35 = gA g 35 := f0.a (by decide)
  refine a_aload_n (pc := 11) dX3_riseFrom_11 rfl ?_
  refine a_gr (pc := 12) dX3_riseFrom_12 fX3_50 rfl ?_
  refine a_aload_n (pc := 15) dX3_riseFrom_15 rfl ?_
  refine a_aload_n (pc := 16) dX3_riseFrom_16 rfl ?_
  refine a_gr (pc := 17) dX3_riseFrom_17 fX3_32 rfl ?_
  have tail_35 : ∀ (g3 : GH) (L : List En), Fr [47, 48, 49, 50, 61] g g3 → eq32 (gA g3 35) (flQ (gA g 35, L)) → L = risQ (gA g 35) st (spB st m) → AW mX3_riseFrom X Q ad 0 0 (conc (SS (71 + st) kp rp) g3) 63 [some (.ref 26), some (.ref 35), some (.ref 35), none, none] [] := by
    intro g3 L hfr heq hL
    have hcam : camQ (gA g 35) st (spB st m) = fun k => keyQ (flQ (gA g 35, L), []) st k := by
      rw [hL]
      rfl
    have low : AW mX3_riseFrom X Q ad 0 0 (conc (SS (71 + st) kp rp) g3) 71 [some (.ref 26), some (.ref 35), some (.ref 35), none, none] [.int (hoI (hoO st (gA g3 35)))] := by
      refine a_istore_n (pc := 71) (ls' := [_, _, _, _, _]) dX3_riseFrom_71 (Nat.le_of_ble_eq_true rfl) rfl ?_
      refine a_iconst (pc := 72) (nI 0) dX3_riseFrom_72 (by decide) ?_
      refine a_istore (pc := 73) (ls' := [_, _, _, _, _]) dX3_riseFrom_73 (Nat.le_of_ble_eq_true rfl) rfl ?_
      have loop : ∀ t j, 6 = j + t → ∀ g4 : GH, Fr [62] g3 g4 → (∀ i, i < j → gA g4 62 i = cmJ (gA g3 35) (hoO st (gA g3 35)) i) → AW mX3_riseFrom X Q ad 0 0 (conc (SS (71 + st) kp rp) g4) 75 [some (.ref 26), some (.ref 35), some (.ref 35), some (.int (hoI (hoO st (gA g3 35)))), some (.int (nI j))] [] := by
        intro t
        induction t with
        | zero =>
          intro j hj g4 hf4 hv
          obtain rfl : j = 6 := by omega
          refine a_iload (pc := 75) dX3_riseFrom_75 rfl ?_
          refine a_bipush (pc := 77) (nI 6) dX3_riseFrom_77 (by decide) ?_
          refine a_icmp_geN (pc := 79) 112 dX3_riseFrom_79 (by decide) (by omega) (by omega) (fun c1 => ?_) (fun c1 => ?_)
          · refine ret _ _ 112 _ dX3_riseFrom_112 rfl ?_
            refine ⟨rfl, ?_, (hfr.mono (by decide)).tr (hf4.mono (by decide))⟩
            rw [hcam]
            exact cmJ_row (F' := flQ (gA g 35, L)) heq hv
          · exact absurd c1 (by omega)
        | succ t ih =>
          intro j hj g4 hf4 hv
          have e4c : gA g4 35 = gA g3 35 := hf4.a (by decide)
          have fin : AW mX3_riseFrom X Q ad 0 0 (conc (SS (71 + st) kp rp) g4) 105 [some (.ref 26), some (.ref 35), some (.ref 35), some (.int (hoI (hoO st (gA g3 35)))), some (.int (nI j))] [.int (cmJ (gA g3 35) (hoO st (gA g3 35)) j), .int (nI j), .ref 62] := by
            refine a_ast (pc := 105) _ dX3_riseFrom_105 rfl rfl (by omega) ?_
            refine a_iinc (pc := 106) (ls' := [_, _, _, _, _]) (nI 1) dX3_riseFrom_106 (by decide) rfl (Nat.le_of_ble_eq_true rfl) rfl ?_
            try rw [nI_add]
            refine a_goto (pc := 109) 75 dX3_riseFrom_109 (by decide) ?_
            refine ih (j + 1) (by omega) _ (hf4.sA (by decide) _) (fun i hi => ?_)
            rw [gA_pA, if_pos rfl, upd]
            by_cases z : i = j
            · rw [if_pos z, z]
            · rw [if_neg z]
              exact hv i (by omega)
          refine a_iload (pc := 75) dX3_riseFrom_75 rfl ?_
          refine a_bipush (pc := 77) (nI 6) dX3_riseFrom_77 (by decide) ?_
          refine a_icmp_geN (pc := 79) 112 dX3_riseFrom_79 (by decide) (by omega) (by omega) (fun c1 => ?_) (fun c1 => ?_)
          · exact absurd c1 (by omega)
          · refine a_aload_n (pc := 82) dX3_riseFrom_82 rfl ?_
            refine a_gr (pc := 83) dX3_riseFrom_83 fX3_44 rfl ?_
            refine a_iload (pc := 86) dX3_riseFrom_86 rfl ?_
            refine a_iload_n (pc := 88) dX3_riseFrom_88 rfl ?_
            refine a_iconst (pc := 89) (-1) dX3_riseFrom_89 (by decide) ?_
            cases ho : hoO st (gA g3 35) with
            | none =>
              rw [ho] at fin
              refine a_icmp_ne (pc := 90) 97 dX3_riseFrom_90 (by decide) (fun c2 => ?_) (fun c2 => ?_)
              · exact absurd rfl c2
              · refine a_iconst (pc := 93) (nI 0) dX3_riseFrom_93 (by decide) ?_
                refine a_goto (pc := 94) 105 dX3_riseFrom_94 (by decide) ?_
                exact fin
            | some x =>
              have hx := hoO_lt ho
              rw [ho] at fin
              refine a_icmp_ne (pc := 90) 97 dX3_riseFrom_90 (by decide) (fun c2 => ?_) (fun c2 => ?_)
              · rw [show hoI (some x) = nI x from rfl] at fin ⊢
                refine a_aload_n (pc := 97) dX3_riseFrom_97 rfl ?_
                refine a_iconst (pc := 98) (nI 2) dX3_riseFrom_98 (by decide) ?_
                refine a_iload_n (pc := 99) dX3_riseFrom_99 rfl ?_
                refine a_imul (pc := 100) dX3_riseFrom_100 ?_
                try rw [pk_mul]
                refine a_iload (pc := 101) dX3_riseFrom_101 rfl ?_
                refine a_iadd (pc := 103) dX3_riseFrom_103 ?_
                try rw [nI_add]
                refine a_ial (pc := 104) _ dX3_riseFrom_104 rfl rfl (by omega) ?_
                rw [e4c]
                exact fin
              · exact absurd c2 (nI_m1 (by omega))
      exact loop 6 0 (by omega) g3 (Fr.rf _ g3) (fun i hi => absurd hi (by omega))
    refine a_aload_n (pc := 63) dX3_riseFrom_63 rfl ?_
    refine a_gr (pc := 64) dX3_riseFrom_64 fX3_50 rfl ?_
    refine a_aload_n (pc := 67) dX3_riseFrom_67 rfl ?_
    match st, hst, low with
    | 0, _, low =>
      refine a_U1i (pc := 68) 3 dX3_riseFrom_68 rfl lcX4_homeOfKeys lX3_196_X4 rfl (fit_of hR (by omega) rfl) (c_home0_35 (d0 := d0)) rfl rfl (ex_i ?_)
      exact low
    | 1, _, low =>
      refine a_U1i (pc := 68) 1 dX3_riseFrom_68 rfl lcX2_homeOfKeys lX3_196_X2 rfl (fit_of hR (by omega) rfl) (c_home1_35 (d0 := d0)) rfl rfl (ex_i ?_)
      exact low
    | 2, _, low =>
      refine a_U1i (pc := 68) 7 dX3_riseFrom_68 rfl lcX8_homeOfKeys lX3_196_X8 rfl (fit_of hR (by omega) rfl) (c_home2_35 (d0 := d0)) rfl rfl (ex_i ?_)
      exact low
  have tail_61 : ∀ (g3 : GH) (L : List En), Fr [47, 48, 49, 50, 61] g g3 → eq32 (gA g3 61) (flQ (gA g 35, L)) → L = risQ (gA g 35) st (spB st m) → AW mX3_riseFrom X Q ad 0 0 (conc (SS (71 + st) kp rp) g3) 63 [some (.ref 26), some (.ref 35), some (.ref 61), none, none] [] := by
    intro g3 L hfr heq hL
    have hcam : camQ (gA g 35) st (spB st m) = fun k => keyQ (flQ (gA g 35, L), []) st k := by
      rw [hL]
      rfl
    have low : AW mX3_riseFrom X Q ad 0 0 (conc (SS (71 + st) kp rp) g3) 71 [some (.ref 26), some (.ref 35), some (.ref 61), none, none] [.int (hoI (hoO st (gA g3 61)))] := by
      refine a_istore_n (pc := 71) (ls' := [_, _, _, _, _]) dX3_riseFrom_71 (Nat.le_of_ble_eq_true rfl) rfl ?_
      refine a_iconst (pc := 72) (nI 0) dX3_riseFrom_72 (by decide) ?_
      refine a_istore (pc := 73) (ls' := [_, _, _, _, _]) dX3_riseFrom_73 (Nat.le_of_ble_eq_true rfl) rfl ?_
      have loop : ∀ t j, 6 = j + t → ∀ g4 : GH, Fr [62] g3 g4 → (∀ i, i < j → gA g4 62 i = cmJ (gA g3 61) (hoO st (gA g3 61)) i) → AW mX3_riseFrom X Q ad 0 0 (conc (SS (71 + st) kp rp) g4) 75 [some (.ref 26), some (.ref 35), some (.ref 61), some (.int (hoI (hoO st (gA g3 61)))), some (.int (nI j))] [] := by
        intro t
        induction t with
        | zero =>
          intro j hj g4 hf4 hv
          obtain rfl : j = 6 := by omega
          refine a_iload (pc := 75) dX3_riseFrom_75 rfl ?_
          refine a_bipush (pc := 77) (nI 6) dX3_riseFrom_77 (by decide) ?_
          refine a_icmp_geN (pc := 79) 112 dX3_riseFrom_79 (by decide) (by omega) (by omega) (fun c1 => ?_) (fun c1 => ?_)
          · refine ret _ _ 112 _ dX3_riseFrom_112 rfl ?_
            refine ⟨rfl, ?_, (hfr.mono (by decide)).tr (hf4.mono (by decide))⟩
            rw [hcam]
            exact cmJ_row (F' := flQ (gA g 35, L)) heq hv
          · exact absurd c1 (by omega)
        | succ t ih =>
          intro j hj g4 hf4 hv
          have e4c : gA g4 61 = gA g3 61 := hf4.a (by decide)
          have fin : AW mX3_riseFrom X Q ad 0 0 (conc (SS (71 + st) kp rp) g4) 105 [some (.ref 26), some (.ref 35), some (.ref 61), some (.int (hoI (hoO st (gA g3 61)))), some (.int (nI j))] [.int (cmJ (gA g3 61) (hoO st (gA g3 61)) j), .int (nI j), .ref 62] := by
            refine a_ast (pc := 105) _ dX3_riseFrom_105 rfl rfl (by omega) ?_
            refine a_iinc (pc := 106) (ls' := [_, _, _, _, _]) (nI 1) dX3_riseFrom_106 (by decide) rfl (Nat.le_of_ble_eq_true rfl) rfl ?_
            try rw [nI_add]
            refine a_goto (pc := 109) 75 dX3_riseFrom_109 (by decide) ?_
            refine ih (j + 1) (by omega) _ (hf4.sA (by decide) _) (fun i hi => ?_)
            rw [gA_pA, if_pos rfl, upd]
            by_cases z : i = j
            · rw [if_pos z, z]
            · rw [if_neg z]
              exact hv i (by omega)
          refine a_iload (pc := 75) dX3_riseFrom_75 rfl ?_
          refine a_bipush (pc := 77) (nI 6) dX3_riseFrom_77 (by decide) ?_
          refine a_icmp_geN (pc := 79) 112 dX3_riseFrom_79 (by decide) (by omega) (by omega) (fun c1 => ?_) (fun c1 => ?_)
          · exact absurd c1 (by omega)
          · refine a_aload_n (pc := 82) dX3_riseFrom_82 rfl ?_
            refine a_gr (pc := 83) dX3_riseFrom_83 fX3_44 rfl ?_
            refine a_iload (pc := 86) dX3_riseFrom_86 rfl ?_
            refine a_iload_n (pc := 88) dX3_riseFrom_88 rfl ?_
            refine a_iconst (pc := 89) (-1) dX3_riseFrom_89 (by decide) ?_
            cases ho : hoO st (gA g3 61) with
            | none =>
              rw [ho] at fin
              refine a_icmp_ne (pc := 90) 97 dX3_riseFrom_90 (by decide) (fun c2 => ?_) (fun c2 => ?_)
              · exact absurd rfl c2
              · refine a_iconst (pc := 93) (nI 0) dX3_riseFrom_93 (by decide) ?_
                refine a_goto (pc := 94) 105 dX3_riseFrom_94 (by decide) ?_
                exact fin
            | some x =>
              have hx := hoO_lt ho
              rw [ho] at fin
              refine a_icmp_ne (pc := 90) 97 dX3_riseFrom_90 (by decide) (fun c2 => ?_) (fun c2 => ?_)
              · rw [show hoI (some x) = nI x from rfl] at fin ⊢
                refine a_aload_n (pc := 97) dX3_riseFrom_97 rfl ?_
                refine a_iconst (pc := 98) (nI 2) dX3_riseFrom_98 (by decide) ?_
                refine a_iload_n (pc := 99) dX3_riseFrom_99 rfl ?_
                refine a_imul (pc := 100) dX3_riseFrom_100 ?_
                try rw [pk_mul]
                refine a_iload (pc := 101) dX3_riseFrom_101 rfl ?_
                refine a_iadd (pc := 103) dX3_riseFrom_103 ?_
                try rw [nI_add]
                refine a_ial (pc := 104) _ dX3_riseFrom_104 rfl rfl (by omega) ?_
                rw [e4c]
                exact fin
              · exact absurd c2 (nI_m1 (by omega))
      exact loop 6 0 (by omega) g3 (Fr.rf _ g3) (fun i hi => absurd hi (by omega))
    refine a_aload_n (pc := 63) dX3_riseFrom_63 rfl ?_
    refine a_gr (pc := 64) dX3_riseFrom_64 fX3_50 rfl ?_
    refine a_aload_n (pc := 67) dX3_riseFrom_67 rfl ?_
    match st, hst, low with
    | 0, _, low =>
      refine a_U1i (pc := 68) 3 dX3_riseFrom_68 rfl lcX4_homeOfKeys lX3_196_X4 rfl (fit_of hR (by omega) rfl) (c_home0_61 (d0 := d0)) rfl rfl (ex_i ?_)
      exact low
    | 1, _, low =>
      refine a_U1i (pc := 68) 1 dX3_riseFrom_68 rfl lcX2_homeOfKeys lX3_196_X2 rfl (fit_of hR (by omega) rfl) (c_home1_61 (d0 := d0)) rfl rfl (ex_i ?_)
      exact low
    | 2, _, low =>
      refine a_U1i (pc := 68) 7 dX3_riseFrom_68 rfl lcX8_homeOfKeys lX3_196_X8 rfl (fit_of hR (by omega) rfl) (c_home2_61 (d0 := d0)) rfl rfl (ex_i ?_)
      exact low
  have mid : ∀ (g2 : GH) (L : List En), PL 47 g2 L → L = risQ (gA g 35) st (spB st m) → Fr [47, 48, 49, 50] g g2 → AW mX3_riseFrom X Q ad 0 0 (conc (SS (71 + st) kp rp) g2) 23 [some (.ref 26), some (.ref 35), none, none, none] [] := by
    intro g2 L hP hL hfr
    have h11 := hP.2.1
    have e2 : gA g2 35 = gA g 35 := hfr.a (by decide)
    refine a_aload_n (pc := 23) dX3_riseFrom_23 rfl ?_
    refine a_astore_n (pc := 24) (ls' := [_, _, _, _, _]) dX3_riseFrom_24 (Nat.le_of_ble_eq_true rfl) rfl ?_
    refine a_aload_n (pc := 25) dX3_riseFrom_25 rfl ?_
    refine a_gr (pc := 26) dX3_riseFrom_26 fX3_32 rfl ?_
    refine a_gi (pc := 29) dX3_riseFrom_29 fX3_140 rfl ?_
    rw [hP.1]
    refine a_if_leN (pc := 32) 63 dX3_riseFrom_32 (by decide) (by omega) (fun c1 => ?_) (fun c1 => ?_)
    · have hnil : L = [] := List.eq_nil_of_length_eq_zero (by omega)
      exact tail_35 g2 L (hfr.mono (by decide)) (by rw [e2, hnil, flQ_nil]; exact eq32.rf _) hL
    · refine a_aload_n (pc := 35) dX3_riseFrom_35 rfl ?_
      refine a_iconst (pc := 36) (nI 0) dX3_riseFrom_36 (by decide) ?_
      refine a_aload_n (pc := 37) dX3_riseFrom_37 rfl ?_
      refine a_gr (pc := 38) dX3_riseFrom_38 fX3_40 rfl ?_
      refine a_iconst (pc := 41) (nI 0) dX3_riseFrom_41 (by decide) ?_
      refine a_bipush (pc := 42) (nI 32) dX3_riseFrom_42 (by decide) ?_
      refine a_copy (pc := 44) 0 0 32 dX3_riseFrom_44 lX3_187 hR (by omega) (a0 := 35) (n0 := 32) (n1 := 32) rfl rfl (by decide) (by decide) rfl ?_
      refine a_aload_n (pc := 47) dX3_riseFrom_47 rfl ?_
      refine a_gr (pc := 48) dX3_riseFrom_48 fX3_32 rfl ?_
      refine a_aload_n (pc := 51) dX3_riseFrom_51 rfl ?_
      refine a_gr (pc := 52) dX3_riseFrom_52 fX3_40 rfl ?_
      have f3 : Fr [47, 48, 49, 50, 61] g (pA g2 61 (va_cpy (gA g2 35) (gA g2 61) 0 0 32)) := (hfr.mono (by decide)).sA (by decide) _
      refine a_V1v (pc := 55) 4 dX3_riseFrom_55 lcX5_writeInto lX3_193 rfl rfl rfl (fit_of hR (by omega) rfl) (c_writeInto (d0 := d0) L (gA g 35) (hP.keep rfl rfl rfl rfl) (by rw [hL]; exact ris_ok _ _ _ _ _ _ _ _ _ _) (fun p hp => by rw [gA_pA, if_pos rfl, pk_cpy_in (Nat.zero_le _) (by omega), e2]; simp)) rfl rfl (fun S' g' hS hp => ?_)
      obtain ⟨rfl, w1, w2⟩ := hp
      refine a_aload_n (pc := 58) dX3_riseFrom_58 rfl ?_
      refine a_gr (pc := 59) dX3_riseFrom_59 fX3_40 rfl ?_
      refine a_astore_n (pc := 62) (ls' := [_, _, _, _, _]) dX3_riseFrom_62 (Nat.le_of_ble_eq_true rfl) rfl ?_
      exact tail_61 _ L (f3.tr (w2.mono (by decide))) w1 hL
  match st, hst, mid with
  | 0, _, mid =>
    refine a_U2v (pc := 20) 3 dX3_riseFrom_20 rfl lcX1_planRising lX3_183_X4 rfl (fit_of hR (by omega) rfl) (c_prisN (d0 := d0) 71 35 47) rfl rfl (ex_v ?_)
    exact mid _ [] hP0 rfl f0
  | 1, _, mid =>
    refine a_U2v (pc := 20) 1 dX3_riseFrom_20 rfl lcX2_planRising lX3_183_X2 rfl (fit_of hR (by omega) rfl) (c_pris1_47 (d0 := d0) m hm hP0 e4) rfl rfl (fun S' g' hS hp => ?_)
    obtain ⟨rfl, hP1, f1⟩ := hp
    rw [e35] at hP1
    exact mid _ _ hP1 rfl (f0.tr f1)
  | 2, _, mid =>
    refine a_U2v (pc := 20) 7 dX3_riseFrom_20 rfl lcX1_planRising lX3_183_X8 rfl (fit_of hR (by omega) rfl) (c_prisN (d0 := d0) 73 35 47) rfl rfl (ex_v ?_)
    exact mid _ [] hP0 rfl f0
set_option maxHeartbeats 1000000 in
set_option maxRecDepth 100000 in
theorem c_kright {d0 kd kp rp : Nat} {g : GH} (A : List Ac) (cam : Nat → Int64) (su be : Nat) (h12 : gF g 26 12 = nI su) (h11 : gF g 26 11 = nI be) (hsu : su ≤ be) (hbe : be ≤ A.length) (h8 : A.length ≤ 8) (hD : DuC g A) (hc : rowD (gA g 62) cam) : ACi mX3_isRight d0 (SS kd kp rp) g [.ref 26] (fun r S' g' => S' = SS kd kp rp ∧ ∃ b : Bool, r = bI b ∧ g' = g ∧ (b = true ↔ rgtP A cam su be)) := by
  refine ACz.of lcX3_isRight rfl rfl (fun X Q ad hR ret => ?_)
  refine AW_ls (ls' := [_, _, _, _]) rfl ?_
  refine a_aload_n (pc := 0) dX3_isRight_0 rfl ?_
  refine a_gi (pc := 1) dX3_isRight_1 fX3_71 rfl ?_
  rw [h12]
  refine a_istore_n (pc := 4) (ls' := [_, _, _, _]) dX3_isRight_4 (Nat.le_of_ble_eq_true rfl) rfl ?_
  have loop : ∀ t n, be + 1 = n + t → su ≤ n → (∀ m, su ≤ m → m < n → ¬ ∀ k, k < 3 → dueP A m k = cam k) → ∀ w2 w3 : Option Value, AW mX3_isRight X Q ad 0 0 (conc (SS kd kp rp) g) 5 [some (.ref 26), some (.int (nI n)), w2, w3] [] := by
    intro t
    induction t with
    | zero =>
      intro n hn hs hno w2 w3
      refine a_iload_n (pc := 5) dX3_isRight_5 rfl ?_
      refine a_aload_n (pc := 6) dX3_isRight_6 rfl ?_
      refine a_gi (pc := 7) dX3_isRight_7 fX3_68 rfl ?_
      rw [h11]
      refine a_icmp_gtN (pc := 10) 60 dX3_isRight_10 (by decide) (by omega) (by omega) (fun c1 => ?_) (fun c1 => ?_)
      · refine a_iconst (pc := 60) (nI 0) dX3_isRight_60 (by decide) ?_
        refine ret _ _ 61 _ _ dX3_isRight_61 rfl (by first | exact Or.inl rfl | exact Or.inr rfl | exact bI_01 _) ?_
        exact ⟨rfl, false, rfl, rfl, (fun z => by cases z), fun ⟨m, m1, m2, m3⟩ => absurd m3 (hno m m1 (by omega))⟩
      · exact absurd c1 (by omega)
    | succ t ih =>
      intro n hn hs hno w2 w3
      have hr := hD n (by omega)
      have key : (∀ j, j < 6 → gA g (52 + n) j = gA g 62 j) ↔ ∀ k, k < 3 → dueP A n k = cam k := by
        constructor
        · intro h k hk
          have h1 := hr k hk
          have h2 := hc k hk
          exact hl_ext (by rw [← h1.1, ← h2.1]; exact h _ (by omega)) (by rw [← h1.2, ← h2.2]; exact h _ (by omega))
        · intro h j hj
          have h1 := hr (j / 2) (by omega)
          have h2 := hc (j / 2) (by omega)
          rw [h (j / 2) (by omega)] at h1
          by_cases z : j % 2 = 0
          · rw [show j = 2 * (j / 2) by omega, h1.1, h2.1]
          · rw [show j = 2 * (j / 2) + 1 by omega, h1.2, h2.2]
      refine a_iload_n (pc := 5) dX3_isRight_5 rfl ?_
      refine a_aload_n (pc := 6) dX3_isRight_6 rfl ?_
      refine a_gi (pc := 7) dX3_isRight_7 fX3_68 rfl ?_
      rw [h11]
      refine a_icmp_gtN (pc := 10) 60 dX3_isRight_10 (by decide) (by omega) (by omega) (fun c1 => ?_) (fun c1 => ?_)
      · exact absurd c1 (by omega)
      · refine a_aload_n (pc := 13) dX3_isRight_13 rfl ?_
        refine a_gr (pc := 14) dX3_isRight_14 fX3_37 rfl ?_
        refine a_iload_n (pc := 17) dX3_isRight_17 rfl ?_
        refine a_aal (pc := 18) 4 n (Or.inr rfl) dX3_isRight_18 (due_at n (by omega)) rfl ?_
        refine a_astore_n (pc := 19) (ls' := [_, _, _, _]) dX3_isRight_19 (Nat.le_of_ble_eq_true rfl) rfl ?_
        refine a_iconst (pc := 20) (nI 0) dX3_isRight_20 (by decide) ?_
        refine a_istore_n (pc := 21) (ls' := [_, _, _, _]) dX3_isRight_21 (Nat.le_of_ble_eq_true rfl) rfl ?_
        have inner : ∀ m j, 6 = j + m → (∀ i, i < j → gA g (52 + n) i = gA g 62 i) → AW mX3_isRight X Q ad 0 0 (conc (SS kd kp rp) g) 22 [some (.ref 26), some (.int (nI n)), some (.ref (52 + n)), some (.int (nI j))] [] := by
          intro m
          induction m with
          | zero =>
            intro j hj he
            obtain rfl : j = 6 := by omega
            refine a_iload_n (pc := 22) dX3_isRight_22 rfl ?_
            refine a_bipush (pc := 23) (nI 6) dX3_isRight_23 (by decide) ?_
            refine a_icmp_geN (pc := 25) 46 dX3_isRight_25 (by decide) (by omega) (by omega) (fun c2 => ?_) (fun c2 => ?_)
            · refine a_iload_n (pc := 46) dX3_isRight_46 rfl ?_
              refine a_bipush (pc := 47) (nI 6) dX3_isRight_47 (by decide) ?_
              refine a_icmp_neN (pc := 49) 54 dX3_isRight_49 (by decide) (by omega) (by omega) (fun c3 => ?_) (fun c3 => ?_)
              · exact absurd rfl c3
              · refine a_iconst (pc := 52) (nI 1) dX3_isRight_52 (by decide) ?_
                refine ret _ _ 53 _ _ dX3_isRight_53 rfl (by first | exact Or.inl rfl | exact Or.inr rfl | exact bI_01 _) ?_
                exact ⟨rfl, true, rfl, rfl, (fun _ => ⟨n, hs, by omega, key.mp he⟩), fun _ => rfl⟩
            · exact absurd c2 (by omega)
          | succ m ihm =>
            intro j hj he
            refine a_iload_n (pc := 22) dX3_isRight_22 rfl ?_
            refine a_bipush (pc := 23) (nI 6) dX3_isRight_23 (by decide) ?_
            refine a_icmp_geN (pc := 25) 46 dX3_isRight_25 (by decide) (by omega) (by omega) (fun c2 => ?_) (fun c2 => ?_)
            · exact absurd c2 (by omega)
            · refine a_aload_n (pc := 28) dX3_isRight_28 rfl ?_
              refine a_iload_n (pc := 29) dX3_isRight_29 rfl ?_
              refine a_ial (pc := 30) j dX3_isRight_30 (due_ai n (by omega)) rfl (by omega) ?_
              refine a_aload_n (pc := 31) dX3_isRight_31 rfl ?_
              refine a_gr (pc := 32) dX3_isRight_32 fX3_44 rfl ?_
              refine a_iload_n (pc := 35) dX3_isRight_35 rfl ?_
              refine a_ial (pc := 36) _ dX3_isRight_36 rfl rfl (by omega) ?_
              refine a_icmp_ne (pc := 37) 46 dX3_isRight_37 (by decide) (fun c3 => ?_) (fun c3 => ?_)
              · refine a_iload_n (pc := 46) dX3_isRight_46 rfl ?_
                refine a_bipush (pc := 47) (nI 6) dX3_isRight_47 (by decide) ?_
                refine a_icmp_neN (pc := 49) 54 dX3_isRight_49 (by decide) (by omega) (by omega) (fun c4 => ?_) (fun c4 => ?_)
                · refine a_iinc (pc := 54) (ls' := [_, _, _, _]) (nI 1) dX3_isRight_54 (by decide) rfl (Nat.le_of_ble_eq_true rfl) rfl ?_
                  try rw [nI_add]
                  refine a_goto (pc := 57) 5 dX3_isRight_57 (by decide) ?_
                  refine ih (n + 1) (by omega) (by omega) (fun m m1 m2 => ?_) _ _
                  by_cases z : m = n
                  · rw [z]
                    exact fun y => c3 (key.mpr y j (by omega))
                  · exact hno m m1 (by omega)
                · exact absurd c4 (by omega)
              · refine a_iinc (pc := 40) (ls' := [_, _, _, _]) (nI 1) dX3_isRight_40 (by decide) rfl (Nat.le_of_ble_eq_true rfl) rfl ?_
                try rw [nI_add]
                refine a_goto (pc := 43) 22 dX3_isRight_43 (by decide) ?_
                refine ihm (j + 1) (by omega) (fun i hi => ?_)
                by_cases z : i = j
                · rw [z]
                  exact c3
                · exact he i (by omega)
        exact inner 6 0 (by omega) (fun i hi => absurd hi (by omega))
  exact loop (be + 1 - su) su (by omega) (Nat.le_refl _) (fun m m1 m2 => absurd m2 (by omega)) _ _
