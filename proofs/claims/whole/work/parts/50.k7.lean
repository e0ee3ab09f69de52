/-! SHADOW's change; PUT and MOVE of any kind -/
theorem suX8_22a : Cond.methodLink RX8 22 ⟨"OrderedDisc$Shadow", "valueAt", "([III)J"⟩ ∈ gW := gW_in 618 (by decide +kernel) rfl
theorem suX8_22b : Cond.sameMethod "OrderedDisc$Shadow" RX1 "valueAt" "([III)J" ∈ gW := gW_in 619 (by decide +kernel) rfl
theorem suX8_22c : Cond.static (my mX1_valueAt) ∈ gW := gW_in 620 (by decide +kernel) rfl
theorem oth_x {lw : Option Nat} (hl : ∀ l, lw = some l → l < 3) {x : Nat} (hx : x < 3) : nI x = oth lw ↔ lw = some x := by
  cases lw with
  | none =>
    constructor
    · intro e
      exact absurd e (nI_m1 (by omega))
    · intro e
      cases e
  | some l =>
    have := hl l rfl
    constructor
    · intro e
      have : x = l := (nI_eq (by omega) (by omega)).mp e
      rw [this]
    · intro e
      cases e
      rfl
set_option maxHeartbeats 1000000 in
set_option maxRecDepth 100000 in
theorem c_pch2_17 {d0 kd kp rp : Nat} {g : GH} (m k : Nat) (v : Int64) (lw : Option Nat) (hk : k < 3) (hl : ∀ l, lw = some l → l < 3) (hm : m < 16) (hP : PL 17 g []) (h4 : gF g 17 4 = nI m) : ACv mX8_planChange (d0 + 3) (SS kd kp rp) g [.ref 73, .ref 3, .int (nI k), .long v, .int (oth lw), .long 0, .ref 17] (fun S' g' => S' = SS kd kp rp ∧ PL 17 g' (ch2 (spB 2 m) (verQ (gA g 3, []) + nI 1) (fun x => keyQ (gA g 3, []) 2 x) k v lw) ∧ Fr [17, 18, 19, 20] g g') := by
  have f8 := fnc_len (spB 2 m) 8
  refine ACv.of lcX8_planChange rfl rfl (fun X Q ad hR ret => ?_)
  refine AW_ls (ls' := [_, _, _, _, _, _, _, _, _, _, _, _, _, _]) rfl ?_
  refine a_aload_n (pc := 0) dX8_planChange_0 rfl ?_
  refine a_aload_n (pc := 1) dX8_planChange_1 rfl ?_
  refine a_V1i (pc := 2) 7 dX8_planChange_2 lcX8_version lX8_9 rfl rfl rfl (fit_of hR (by omega) rfl) (c_kver_3 (d0 := d0)) rfl rfl (ex_i ?_)
  refine a_iconst (pc := 5) (nI 1) dX8_planChange_5 (by decide) ?_
  refine a_iadd (pc := 6) dX8_planChange_6 ?_
  try rw [nI_add]
  refine a_istore (pc := 7) (ls' := [_, _, _, _, _, _, _, _, _, _, _, _, _, _]) dX8_planChange_7 (Nat.le_of_ble_eq_true rfl) rfl ?_
  refine a_aload_n (pc := 9) dX8_planChange_9 rfl ?_
  refine a_aload_n (pc := 10) dX8_planChange_10 rfl ?_
  refine a_V1i (pc := 11) 7 dX8_planChange_11 lcX8_homeOfKeys lX8_19 rfl rfl rfl (fit_of hR (by omega) rfl) (c_home2_3 (d0 := d0)) rfl rfl (ex_i ?_)
  refine a_istore (pc := 14) (ls' := [_, _, _, _, _, _, _, _, _, _, _, _, _, _]) dX8_planChange_14 (Nat.le_of_ble_eq_true rfl) rfl ?_
  refine a_iconst (pc := 16) (nI 0) dX8_planChange_16 (by decide) ?_
  refine a_istore (pc := 17) (ls' := [_, _, _, _, _, _, _, _, _, _, _, _, _, _]) dX8_planChange_17 (Nat.le_of_ble_eq_true rfl) rfl ?_
  generalize verQ (gA g 3, []) + nI 1 = n at ret ⊢
  have step : ∀ (x : Nat) (g1 : GH) (L : List En) (w : Option Value), x < 3 → L.length = x → PL 17 g1 L → gF g1 17 4 = nI m → Fr [17, 18, 19, 20] g g1 → (∀ (g2 : GH) (w' : Option Value), PL 17 g2 (L ++ [shE n (fun x => keyQ (gA g 3, []) 2 x) k v lw x]) → gF g2 17 4 = nI m → Fr [17, 18, 19, 20] g g2 → AW mX8_planChange X Q ad 0 0 (conc (SS kd kp rp) g2) 19 [some (.ref 73), some (.ref 3), some (.int (nI k)), some (.long v), none, some (.int (oth lw)), some (.long 0), none, some (.ref 17), some (.int n), some (.int (hoI (hoO 2 (gA g 3)))), some (.int (nI (x + 1))), w', none] []) → AW mX8_planChange X Q ad 0 0 (conc (SS kd kp rp) g1) 19 [some (.ref 73), some (.ref 3), some (.int (nI k)), some (.long v), none, some (.int (oth lw)), some (.long 0), none, some (.ref 17), some (.int n), some (.int (hoI (hoO 2 (gA g 3)))), some (.int (nI x)), w, none] [] := by
    intro x g1 L w hx hL hP1 h41 hfr kk
    have join : AW mX8_planChange X Q ad 0 0 (conc (SS kd kp rp) g1) 55 [some (.ref 73), some (.ref 3), some (.int (nI k)), some (.long v), none, some (.int (oth lw)), some (.long 0), none, some (.ref 17), some (.int n), some (.int (hoI (hoO 2 (gA g 3)))), some (.int (nI x)), w, none] [.long (nowK (fun x => keyQ (gA g 3, []) 2 x) k v lw x)] := by
      refine a_lstore (pc := 55) (ls' := [_, _, _, _, _, _, _, _, _, _, _, _, _, _]) dX8_planChange_55 (Nat.le_of_ble_eq_true rfl) rfl ?_
      refine a_aload (pc := 57) dX8_planChange_57 rfl ?_
      refine a_iload (pc := 59) dX8_planChange_59 rfl ?_
      refine a_S1i (pc := 61) dX8_planChange_61 lcX8_homeWith lX8_15 (fit_of hR (by omega) rfl) (c_homeWith (d0 := d0) n) rfl rfl (ex_i ?_)
      refine a_iload (pc := 64) dX8_planChange_64 rfl ?_
      refine a_iadd (pc := 66) dX8_planChange_66 ?_
      try rw [nI_add]
      refine a_lload (pc := 67) dX8_planChange_67 rfl ?_
      rw [hoW_plc]
      refine a_S1i (pc := 69) dX8_planChange_69 lcX10_high lX8_26 (fit_of hR (by omega) rfl) (c_khigh (d0 := d0) _) rfl rfl (ex_i ?_)
      refine a_lload (pc := 72) dX8_planChange_72 rfl ?_
      refine a_S1i (pc := 74) dX8_planChange_74 lcX10_low lX8_30 (fit_of hR (by omega) rfl) (c_klow (d0 := d0) _) rfl rfl (ex_i ?_)
      refine a_V3v (pc := 77) 4 dX8_planChange_77 lcX5_planWrite lX8_33 rfl rfl rfl (fit_of hR (by omega) rfl) (c_planW_17 (d0 := d0) L (nI (plc x n)) _ _ hP1 (by omega)) rfl rfl (fun S' g' hS hp => ?_)
      obtain ⟨rfl, hP2, q2, hf2⟩ := hp
      refine a_iinc (pc := 80) (ls' := [_, _, _, _, _, _, _, _, _, _, _, _, _, _]) (nI 1) dX8_planChange_80 (by decide) rfl (Nat.le_of_ble_eq_true rfl) rfl ?_
      try rw [nI_add]
      refine a_goto (pc := 83) 19 dX8_planChange_83 (by decide) ?_
      exact kk _ _ hP2 (q2.trans h41) (hfr.tr hf2)
    refine a_iload (pc := 19) dX8_planChange_19 rfl ?_
    refine a_iconst (pc := 21) (nI 3) dX8_planChange_21 (by decide) ?_
    refine a_icmp_geN (pc := 22) 86 dX8_planChange_22 (by decide) (by omega) (by omega) (fun c1 => ?_) (fun c1 => ?_)
    · exact absurd c1 (by omega)
    · refine a_iload (pc := 25) dX8_planChange_25 rfl ?_
      refine a_iload_n (pc := 27) dX8_planChange_27 rfl ?_
      refine a_icmp_neN (pc := 28) 35 dX8_planChange_28 (by decide) (by omega) (by omega) (fun c2 => ?_) (fun c2 => ?_)
      · refine a_iload (pc := 35) dX8_planChange_35 rfl ?_
        refine a_iload (pc := 37) dX8_planChange_37 rfl ?_
        refine a_icmp_ne (pc := 39) 47 dX8_planChange_39 (by decide) (fun c3 => ?_) (fun c3 => ?_)
        · refine a_aload_n (pc := 47) dX8_planChange_47 rfl ?_
          refine a_iload (pc := 48) dX8_planChange_48 rfl ?_
          refine a_iload (pc := 50) dX8_planChange_50 rfl ?_
          refine call_SUl (pc := 52) (vs := [.ref 3, .int (hoI (hoO 2 (gA g 3))), .int (nI x)]) dX8_planChange_52 lcX1_valueAt suX8_22a suX8_22b suX8_22c rfl (fit_of hR (by omega) rfl) (c_valueAt_3 (d0 := d0) (hoO 2 (gA g 3)) x (fun h e => hoO_lt e) hx) rfl rfl (ex_l ?_)
          rw [show gA g1 3 = gA g 3 from hfr.a (by decide), vaO_key]
          refine AW_topl ?_ join
          rw [nowK, if_neg c2, if_neg (fun z => c3 ((oth_x hl hx).mpr z))]
        · refine a_lload (pc := 42) dX8_planChange_42 rfl ?_
          refine a_goto (pc := 44) 55 dX8_planChange_44 (by decide) ?_
          refine AW_topl ?_ join
          rw [nowK, if_neg c2, if_pos ((oth_x hl hx).mp c3)]
      · refine a_lload_n (pc := 31) dX8_planChange_31 rfl ?_
        refine a_goto (pc := 32) 55 dX8_planChange_32 (by decide) ?_
        refine AW_topl ?_ join
        rw [nowK, if_pos c2]
  refine step 0 g [] _ (by decide) rfl hP h4 (Fr.rf _ g) (fun g1 w1 hP1 e1 hf1 => ?_)
  refine step 1 g1 _ _ (by decide) rfl hP1 e1 hf1 (fun g2 w2 hP2 e2 hf2 => ?_)
  refine step 2 g2 _ _ (by decide) rfl hP2 e2 hf2 (fun g3 w3 hP3 e3 hf3 => ?_)
  refine a_iload (pc := 19) dX8_planChange_19 rfl ?_
  refine a_iconst (pc := 21) (nI 3) dX8_planChange_21 (by decide) ?_
  refine a_icmp_geN (pc := 22) 86 dX8_planChange_22 (by decide) (by omega) (by omega) (fun c1 => ?_) (fun c1 => ?_)
  · refine a_aload (pc := 86) dX8_planChange_86 rfl ?_
    refine a_iconst (pc := 88) (nI 0) dX8_planChange_88 (by decide) ?_
    refine a_V1v (pc := 89) 4 dX8_planChange_89 lcX5_planFence lX8_39 rfl rfl rfl (fit_of hR (by omega) rfl) (c_planF_17 (d0 := d0) _ 2 m 0 hP3 (by simp) hm (by decide) e3) rfl rfl (fun S' g' hS hp => ?_)
    obtain ⟨rfl, hP4, q4, hf4⟩ := hp
    change PL 17 _ (_ ++ fnc (spB 2 m) 8) at hP4
    refine a_aload (pc := 92) dX8_planChange_92 rfl ?_
    refine a_iload (pc := 94) dX8_planChange_94 rfl ?_
    refine a_S1i (pc := 96) dX8_planChange_96 lcX8_isOdd lX8_43 (fit_of hR (by omega) rfl) (c_isOdd (d0 := d0) n) rfl rfl (ex_i ?_)
    refine AW_val2 108 (if n &&& nI 1 = nI 1 then nI 3 else nI 7) (fun hJ => ?_) ?_
    · refine a_if_eqB (pc := 99) 106 dX8_planChange_99 (by decide) (fun c2 => ?_) (fun c2 => ?_)
      · refine a_bipush (pc := 106) (nI 7) dX8_planChange_106 (by decide) ?_
        exact AW_top (by rw [if_neg (of_decide_eq_false c2)]) hJ
      · refine a_iconst (pc := 102) (nI 3) dX8_planChange_102 (by decide) ?_
        refine a_goto (pc := 103) 108 dX8_planChange_103 (by decide) ?_
        exact AW_top (by rw [if_pos (of_decide_eq_true c2)]) hJ
    refine a_iload (pc := 108) dX8_planChange_108 rfl ?_
    refine a_iload (pc := 110) dX8_planChange_110 rfl ?_
    refine a_S1i (pc := 112) dX8_planChange_112 lcX8_seal lX8_47 (fit_of hR (by omega) rfl) (c_seal (d0 := d0) n) rfl rfl (ex_i ?_)
    refine a_V3v (pc := 115) 4 dX8_planChange_115 lcX5_planWrite lX8_33 rfl rfl rfl (fit_of hR (by omega) rfl) (c_planW_17 (d0 := d0) _ (if n &&& nI 1 = nI 1 then nI 3 else nI 7) n (nI 31 * n + nI 7) hP4 (by simp; omega)) rfl rfl (fun S' g' hS hp => ?_)
    obtain ⟨rfl, hP5, q5, hf5⟩ := hp
    refine a_aload (pc := 118) dX8_planChange_118 rfl ?_
    refine a_iconst (pc := 120) (nI 1) dX8_planChange_120 (by decide) ?_
    refine a_V1v (pc := 121) 4 dX8_planChange_121 lcX5_planFence lX8_39 rfl rfl rfl (fit_of hR (by omega) rfl) (c_planF_17 (d0 := d0) _ 2 m 1 hP5 (by simp; omega) hm (by decide) (q5.trans (q4.trans e3))) rfl rfl (fun S' g' hS hp => ?_)
    obtain ⟨rfl, hP6, q6, hf6⟩ := hp
    refine ret _ _ 124 _ dX8_planChange_124 rfl ?_
    exact ⟨rfl, hP6, hf3.tr (hf4.tr (hf5.tr hf6))⟩
  · exact absurd c1 (by decide)
set_option maxHeartbeats 1000000 in
set_option maxRecDepth 100000 in
theorem c_planPut_17 {d0 kd kp rp : Nat} {g : GH} (st m k : Nat) (v : Int64) (hst : st < 3) (hk : k < 3) (hm : m < 16) (hP : PL 17 g []) (h4 : gF g 17 4 = nI m) : ACv mX1_planPut (d0 + 4) (SS kd kp rp) g [.ref (71 + st), .ref 3, .int (nI k), .long v, .ref 17] (fun S' g' => S' = SS kd kp rp ∧ PL 17 g' (chgQ (gA g 3, []) st (spB st m) k v none) ∧ Fr [17, 18, 19, 20] g g') := by
  match st, hst with
  | 0, _ =>
    refine ACv.of lcX1_planPut rfl rfl (fun X Q ad hR ret => ?_)
    refine AW_ls (ls' := [_, _, _, _, _, _]) rfl ?_
    refine a_aload_n (pc := 0) dX1_planPut_0 rfl ?_
    refine a_aload_n (pc := 1) dX1_planPut_1 rfl ?_
    refine a_iload_n (pc := 2) dX1_planPut_2 rfl ?_
    refine a_lload_n (pc := 3) dX1_planPut_3 rfl ?_
    refine a_iconst (pc := 4) (-1) dX1_planPut_4 (by decide) ?_
    refine a_lconst (pc := 5) 0 dX1_planPut_5 (by decide) ?_
    refine a_aload (pc := 6) dX1_planPut_6 rfl ?_
    refine a_U6v (pc := 8) 3 dX1_planPut_8 rfl lcX4_planChange lX1_9_X4 rfl (fit_of hR (by omega) rfl) (c_pch0_17 (d0 := d0) k v none (fun l e => by cases e) hP) rfl rfl (fun S' g' hS hp => ?_)
    obtain ⟨rfl, hP2, hf2⟩ := hp
    refine ret _ _ 11 _ dX1_planPut_11 rfl ?_
    exact ⟨rfl, hP2, hf2⟩
  | 1, _ =>
    refine ACv.of lcX1_planPut rfl rfl (fun X Q ad hR ret => ?_)
    refine AW_ls (ls' := [_, _, _, _, _, _]) rfl ?_
    refine a_aload_n (pc := 0) dX1_planPut_0 rfl ?_
    refine a_aload_n (pc := 1) dX1_planPut_1 rfl ?_
    refine a_iload_n (pc := 2) dX1_planPut_2 rfl ?_
    refine a_lload_n (pc := 3) dX1_planPut_3 rfl ?_
    refine a_iconst (pc := 4) (-1) dX1_planPut_4 (by decide) ?_
    refine a_lconst (pc := 5) 0 dX1_planPut_5 (by decide) ?_
    refine a_aload (pc := 6) dX1_planPut_6 rfl ?_
    refine a_U6v (pc := 8) 1 dX1_planPut_8 rfl lcX2_planChange lX1_9_X2 rfl (fit_of hR (by omega) rfl) (c_pch1_17 (d0 := d0) m k v none (fun l e => by cases e) hm hP h4) rfl rfl (fun S' g' hS hp => ?_)
    obtain ⟨rfl, hP2, hf2⟩ := hp
    refine ret _ _ 11 _ dX1_planPut_11 rfl ?_
    exact ⟨rfl, hP2, hf2⟩
  | 2, _ =>
    refine ACv.of lcX1_planPut rfl rfl (fun X Q ad hR ret => ?_)
    refine AW_ls (ls' := [_, _, _, _, _, _]) rfl ?_
    refine a_aload_n (pc := 0) dX1_planPut_0 rfl ?_
    refine a_aload_n (pc := 1) dX1_planPut_1 rfl ?_
    refine a_iload_n (pc := 2) dX1_planPut_2 rfl ?_
    refine a_lload_n (pc := 3) dX1_planPut_3 rfl ?_
    refine a_iconst (pc := 4) (-1) dX1_planPut_4 (by decide) ?_
    refine a_lconst (pc := 5) 0 dX1_planPut_5 (by decide) ?_
    refine a_aload (pc := 6) dX1_planPut_6 rfl ?_
    refine a_U6v (pc := 8) 7 dX1_planPut_8 rfl lcX8_planChange lX1_9_X8 rfl (fit_of hR (by omega) rfl) (c_pch2_17 (d0 := d0) m k v none hk (fun l e => by cases e) hm hP h4) rfl rfl (fun S' g' hS hp => ?_)
    obtain ⟨rfl, hP2, hf2⟩ := hp
    refine ret _ _ 11 _ dX1_planPut_11 rfl ?_
    exact ⟨rfl, hP2, hf2⟩
set_option maxHeartbeats 1000000 in
set_option maxRecDepth 100000 in
theorem c_planMove_17 {d0 kd kp rp : Nat} {g : GH} (st m k l : Nat) (hst : st < 3) (hk : k < 3) (hl : l < 3) (hm : m < 16) (hP : PL 17 g []) (h4 : gF g 17 4 = nI m) : ACv mX1_planMove (d0 + 4) (SS kd kp rp) g [.ref (71 + st), .ref 3, .int (nI k), .int (nI l), .ref 17] (fun S' g' => S' = SS kd kp rp ∧ PL 17 g' (chgQ (gA g 3, []) st (spB st m) l (keyQ (gA g 3, []) st k) (some k)) ∧ Fr [17, 18, 19, 20] g g') := by
  have hlw : ∀ x, some k = some x → x < 3 := fun x e => by cases e; exact hk
  match st, hst with
  | 0, _ =>
    refine ACv.of lcX1_planMove rfl rfl (fun X Q ad hR ret => ?_)
    refine AW_ls (ls' := [_, _, _, _, _]) rfl ?_
    refine a_aload_n (pc := 0) dX1_planMove_0 rfl ?_
    refine a_aload_n (pc := 1) dX1_planMove_1 rfl ?_
    refine a_iload_n (pc := 2) dX1_planMove_2 rfl ?_
    refine a_aload_n (pc := 3) dX1_planMove_3 rfl ?_
    refine a_aload_n (pc := 4) dX1_planMove_4 rfl ?_
    refine a_iload_n (pc := 5) dX1_planMove_5 rfl ?_
    refine a_U2l (pc := 6) 3 dX1_planMove_6 rfl lcX1_valueOf lX1_15_X4 rfl (fit_of hR (by omega) rfl) (c_valueOf_3 (d0 := d0) 0 k (by decide) hk) rfl rfl (ex_l ?_)
    refine a_iload_n (pc := 9) dX1_planMove_9 rfl ?_
    refine a_lconst (pc := 10) 0 dX1_planMove_10 (by decide) ?_
    refine a_aload (pc := 11) dX1_planMove_11 rfl ?_
    refine a_U6v (pc := 13) 3 dX1_planMove_13 rfl lcX4_planChange lX1_9_X4 rfl (fit_of hR (by omega) rfl) (c_pch0_17 (d0 := d0) l _ (some k) hlw hP) rfl rfl (fun S' g' hS hp => ?_)
    obtain ⟨rfl, hP2, hf2⟩ := hp
    refine ret _ _ 16 _ dX1_planMove_16 rfl ?_
    exact ⟨rfl, hP2, hf2⟩
  | 1, _ =>
    refine ACv.of lcX1_planMove rfl rfl (fun X Q ad hR ret => ?_)
    refine AW_ls (ls' := [_, _, _, _, _]) rfl ?_
    refine a_aload_n (pc := 0) dX1_planMove_0 rfl ?_
    refine a_aload_n (pc := 1) dX1_planMove_1 rfl ?_
    refine a_iload_n (pc := 2) dX1_planMove_2 rfl ?_
    refine a_aload_n (pc := 3) dX1_planMove_3 rfl ?_
    refine a_aload_n (pc := 4) dX1_planMove_4 rfl ?_
    refine a_iload_n (pc := 5) dX1_planMove_5 rfl ?_
    refine a_U2l (pc := 6) 1 dX1_planMove_6 rfl lcX1_valueOf lX1_15_X2 rfl (fit_of hR (by omega) rfl) (c_valueOf_3 (d0 := d0) 1 k (by decide) hk) rfl rfl (ex_l ?_)
    refine a_iload_n (pc := 9) dX1_planMove_9 rfl ?_
    refine a_lconst (pc := 10) 0 dX1_planMove_10 (by decide) ?_
    refine a_aload (pc := 11) dX1_planMove_11 rfl ?_
    refine a_U6v (pc := 13) 1 dX1_planMove_13 rfl lcX2_planChange lX1_9_X2 rfl (fit_of hR (by omega) rfl) (c_pch1_17 (d0 := d0) m l _ (some k) hlw hm hP h4) rfl rfl (fun S' g' hS hp => ?_)
    obtain ⟨rfl, hP2, hf2⟩ := hp
    refine ret _ _ 16 _ dX1_planMove_16 rfl ?_
    exact ⟨rfl, hP2, hf2⟩
  | 2, _ =>
    refine ACv.of lcX1_planMove rfl rfl (fun X Q ad hR ret => ?_)
    refine AW_ls (ls' := [_, _, _, _, _]) rfl ?_
    refine a_aload_n (pc := 0) dX1_planMove_0 rfl ?_
    refine a_aload_n (pc := 1) dX1_planMove_1 rfl ?_
    refine a_iload_n (pc := 2) dX1_planMove_2 rfl ?_
    refine a_aload_n (pc := 3) dX1_planMove_3 rfl ?_
    refine a_aload_n (pc := 4) dX1_planMove_4 rfl ?_
    refine a_iload_n (pc := 5) dX1_planMove_5 rfl ?_
    refine a_U2l (pc := 6) 7 dX1_planMove_6 rfl lcX1_valueOf lX1_15_X8 rfl (fit_of hR (by omega) rfl) (c_valueOf_3 (d0 := d0) 2 k (by decide) hk) rfl rfl (ex_l ?_)
    refine a_iload_n (pc := 9) dX1_planMove_9 rfl ?_
    refine a_lconst (pc := 10) 0 dX1_planMove_10 (by decide) ?_
    refine a_aload (pc := 11) dX1_planMove_11 rfl ?_
    refine a_U6v (pc := 13) 7 dX1_planMove_13 rfl lcX8_planChange lX1_9_X8 rfl (fit_of hR (by omega) rfl) (c_pch2_17 (d0 := d0) m l _ (some k) hl hlw hm hP h4) rfl rfl (fun S' g' hS hp => ?_)
    obtain ⟨rfl, hP2, hf2⟩ := hp
    refine ret _ _ 16 _ dX1_planMove_16 rfl ?_
    exact ⟨rfl, hP2, hf2⟩
set_option maxHeartbeats 1000000 in
set_option maxRecDepth 100000 in
theorem c_pch2_43 {d0 kd kp rp : Nat} {g : GH} (m k : Nat) (v : Int64) (lw : Option Nat) (hk : k < 3) (hl : ∀ l, lw = some l → l < 3) (hm : m < 16) (hP : PL 43 g []) (h4 : gF g 43 4 = nI m) : ACv mX8_planChange (d0 + 3) (SS kd kp rp) g [.ref 73, .ref 29, .int (nI k), .long v, .int (oth lw), .long 0, .ref 43] (fun S' g' => S' = SS kd kp rp ∧ PL 43 g' (ch2 (spB 2 m) (verQ (gA g 29, []) + nI 1) (fun x => keyQ (gA g 29, []) 2 x) k v lw) ∧ Fr [43, 44, 45, 46] g g') := by
  have f8 := fnc_len (spB 2 m) 8
  refine ACv.of lcX8_planChange rfl rfl (fun X Q ad hR ret => ?_)
  refine AW_ls (ls' := [_, _, _, _, _, _, _, _, _, _, _, _, _, _]) rfl ?_
  refine a_aload_n (pc := 0) dX8_planChange_0 rfl ?_
  refine a_aload_n (pc := 1) dX8_planChange_1 rfl ?_
  refine a_V1i (pc := 2) 7 dX8_planChange_2 lcX8_version lX8_9 rfl rfl rfl (fit_of hR (by omega) rfl) (c_kver_29 (d0 := d0)) rfl rfl (ex_i ?_)
  refine a_iconst (pc := 5) (nI 1) dX8_planChange_5 (by decide) ?_
  refine a_iadd (pc := 6) dX8_planChange_6 ?_
  try rw [nI_add]
  refine a_istore (pc := 7) (ls' := [_, _, _, _, _, _, _, _, _, _, _, _, _, _]) dX8_planChange_7 (Nat.le_of_ble_eq_true rfl) rfl ?_
  refine a_aload_n (pc := 9) dX8_planChange_9 rfl ?_
  refine a_aload_n (pc := 10) dX8_planChange_10 rfl ?_
  refine a_V1i (pc := 11) 7 dX8_planChange_11 lcX8_homeOfKeys lX8_19 rfl rfl rfl (fit_of hR (by omega) rfl) (c_home2_29 (d0 := d0)) rfl rfl (ex_i ?_)
  refine a_istore (pc := 14) (ls' := [_, _, _, _, _, _, _, _, _, _, _, _, _, _]) dX8_planChange_14 (Nat.le_of_ble_eq_true rfl) rfl ?_
  refine a_iconst (pc := 16) (nI 0) dX8_planChange_16 (by decide) ?_
  refine a_istore (pc := 17) (ls' := [_, _, _, _, _, _, _, _, _, _, _, _, _, _]) dX8_planChange_17 (Nat.le_of_ble_eq_true rfl) rfl ?_
  generalize verQ (gA g 29, []) + nI 1 = n at ret ⊢
  have step : ∀ (x : Nat) (g1 : GH) (L : List En) (w : Option Value), x < 3 → L.length = x → PL 43 g1 L → gF g1 43 4 = nI m → Fr [43, 44, 45, 46] g g1 → (∀ (g2 : GH) (w' : Option Value), PL 43 g2 (L ++ [shE n (fun x => keyQ (gA g 29, []) 2 x) k v lw x]) → gF g2 43 4 = nI m → Fr [43, 44, 45, 46] g g2 → AW mX8_planChange X Q ad 0 0 (conc (SS kd kp rp) g2) 19 [some (.ref 73), some (.ref 29), some (.int (nI k)), some (.long v), none, some (.int (oth lw)), some (.long 0), none, some (.ref 43), some (.int n), some (.int (hoI (hoO 2 (gA g 29)))), some (.int (nI (x + 1))), w', none] []) → AW mX8_planChange X Q ad 0 0 (conc (SS kd kp rp) g1) 19 [some (.ref 73), some (.ref 29), some (.int (nI k)), some (.long v), none, some (.int (oth lw)), some (.long 0), none, some (.ref 43), some (.int n), some (.int (hoI (hoO 2 (gA g 29)))), some (.int (nI x)), w, none] [] := by
    intro x g1 L w hx hL hP1 h41 hfr kk
    have join : AW mX8_planChange X Q ad 0 0 (conc (SS kd kp rp) g1) 55 [some (.ref 73), some (.ref 29), some (.int (nI k)), some (.long v), none, some (.int (oth lw)), some (.long 0), none, some (.ref 43), some (.int n), some (.int (hoI (hoO 2 (gA g 29)))), some (.int (nI x)), w, none] [.long (nowK (fun x => keyQ (gA g 29, []) 2 x) k v lw x)] := by
      refine a_lstore (pc := 55) (ls' := [_, _, _, _, _, _, _, _, _, _, _, _, _, _]) dX8_planChange_55 (Nat.le_of_ble_eq_true rfl) rfl ?_
      refine a_aload (pc := 57) dX8_planChange_57 rfl ?_
      refine a_iload (pc := 59) dX8_planChange_59 rfl ?_
      refine a_S1i (pc := 61) dX8_planChange_61 lcX8_homeWith lX8_15 (fit_of hR (by omega) rfl) (c_homeWith (d0 := d0) n) rfl rfl (ex_i ?_)
      refine a_iload (pc := 64) dX8_planChange_64 rfl ?_
      refine a_iadd (pc := 66) dX8_planChange_66 ?_
      try rw [nI_add]
      refine a_lload (pc := 67) dX8_planChange_67 rfl ?_
      rw [hoW_plc]
      refine a_S1i (pc := 69) dX8_planChange_69 lcX10_high lX8_26 (fit_of hR (by omega) rfl) (c_khigh (d0 := d0) _) rfl rfl (ex_i ?_)
      refine a_lload (pc := 72) dX8_planChange_72 rfl ?_
      refine a_S1i (pc := 74) dX8_planChange_74 lcX10_low lX8_30 (fit_of hR (by omega) rfl) (c_klow (d0 := d0) _) rfl rfl (ex_i ?_)
      refine a_V3v (pc := 77) 4 dX8_planChange_77 lcX5_planWrite lX8_33 rfl rfl rfl (fit_of hR (by omega) rfl) (c_planW_43 (d0 := d0) L (nI (plc x n)) _ _ hP1 (by omega)) rfl rfl (fun S' g' hS hp => ?_)
      obtain ⟨rfl, hP2, q2, hf2⟩ := hp
      refine a_iinc (pc := 80) (ls' := [_, _, _, _, _, _, _, _, _, _, _, _, _, _]) (nI 1) dX8_planChange_80 (by decide) rfl (Nat.le_of_ble_eq_true rfl) rfl ?_
      try rw [nI_add]
      refine a_goto (pc := 83) 19 dX8_planChange_83 (by decide) ?_
      exact kk _ _ hP2 (q2.trans h41) (hfr.tr hf2)
    refine a_iload (pc := 19) dX8_planChange_19 rfl ?_
    refine a_iconst (pc := 21) (nI 3) dX8_planChange_21 (by decide) ?_
    refine a_icmp_geN (pc := 22) 86 dX8_planChange_22 (by decide) (by omega) (by omega) (fun c1 => ?_) (fun c1 => ?_)
    · exact absurd c1 (by omega)
    · refine a_iload (pc := 25) dX8_planChange_25 rfl ?_
      refine a_iload_n (pc := 27) dX8_planChange_27 rfl ?_
      refine a_icmp_neN (pc := 28) 35 dX8_planChange_28 (by decide) (by omega) (by omega) (fun c2 => ?_) (fun c2 => ?_)
      · refine a_iload (pc := 35) dX8_planChange_35 rfl ?_
        refine a_iload (pc := 37) dX8_planChange_37 rfl ?_
        refine a_icmp_ne (pc := 39) 47 dX8_planChange_39 (by decide) (fun c3 => ?_) (fun c3 => ?_)
        · refine a_aload_n (pc := 47) dX8_planChange_47 rfl ?_
          refine a_iload (pc := 48) dX8_planChange_48 rfl ?_
          refine a_iload (pc := 50) dX8_planChange_50 rfl ?_
          refine call_SUl (pc := 52) (vs := [.ref 29, .int (hoI (hoO 2 (gA g 29))), .int (nI x)]) dX8_planChange_52 lcX1_valueAt suX8_22a suX8_22b suX8_22c rfl (fit_of hR (by omega) rfl) (c_valueAt_29 (d0 := d0) (hoO 2 (gA g 29)) x (fun h e => hoO_lt e) hx) rfl rfl (ex_l ?_)
          rw [show gA g1 29 = gA g 29 from hfr.a (by decide), vaO_key]
          refine AW_topl ?_ join
          rw [nowK, if_neg c2, if_neg (fun z => c3 ((oth_x hl hx).mpr z))]
        · refine a_lload (pc := 42) dX8_planChange_42 rfl ?_
          refine a_goto (pc := 44) 55 dX8_planChange_44 (by decide) ?_
          refine AW_topl ?_ join
          rw [nowK, if_neg c2, if_pos ((oth_x hl hx).mp c3)]
      · refine a_lload_n (pc := 31) dX8_planChange_31 rfl ?_
        refine a_goto (pc := 32) 55 dX8_planChange_32 (by decide) ?_
        refine AW_topl ?_ join
        rw [nowK, if_pos c2]
  refine step 0 g [] _ (by decide) rfl hP h4 (Fr.rf _ g) (fun g1 w1 hP1 e1 hf1 => ?_)
  refine step 1 g1 _ _ (by decide) rfl hP1 e1 hf1 (fun g2 w2 hP2 e2 hf2 => ?_)
  refine step 2 g2 _ _ (by decide) rfl hP2 e2 hf2 (fun g3 w3 hP3 e3 hf3 => ?_)
  refine a_iload (pc := 19) dX8_planChange_19 rfl ?_
  refine a_iconst (pc := 21) (nI 3) dX8_planChange_21 (by decide) ?_
  refine a_icmp_geN (pc := 22) 86 dX8_planChange_22 (by decide) (by omega) (by omega) (fun c1 => ?_) (fun c1 => ?_)
  · refine a_aload (pc := 86) dX8_planChange_86 rfl ?_
    refine a_iconst (pc := 88) (nI 0) dX8_planChange_88 (by decide) ?_
    refine a_V1v (pc := 89) 4 dX8_planChange_89 lcX5_planFence lX8_39 rfl rfl rfl (fit_of hR (by omega) rfl) (c_planF_43 (d0 := d0) _ 2 m 0 hP3 (by simp) hm (by decide) e3) rfl rfl (fun S' g' hS hp => ?_)
    obtain ⟨rfl, hP4, q4, hf4⟩ := hp
    change PL 43 _ (_ ++ fnc (spB 2 m) 8) at hP4
    refine a_aload (pc := 92) dX8_planChange_92 rfl ?_
    refine a_iload (pc := 94) dX8_planChange_94 rfl ?_
    refine a_S1i (pc := 96) dX8_planChange_96 lcX8_isOdd lX8_43 (fit_of hR (by omega) rfl) (c_isOdd (d0 := d0) n) rfl rfl (ex_i ?_)
    refine AW_val2 108 (if n &&& nI 1 = nI 1 then nI 3 else nI 7) (fun hJ => ?_) ?_
    · refine a_if_eqB (pc := 99) 106 dX8_planChange_99 (by decide) (fun c2 => ?_) (fun c2 => ?_)
      · refine a_bipush (pc := 106) (nI 7) dX8_planChange_106 (by decide) ?_
        exact AW_top (by rw [if_neg (of_decide_eq_false c2)]) hJ
      · refine a_iconst (pc := 102) (nI 3) dX8_planChange_102 (by decide) ?_
        refine a_goto (pc := 103) 108 dX8_planChange_103 (by decide) ?_
        exact AW_top (by rw [if_pos (of_decide_eq_true c2)]) hJ
    refine a_iload (pc := 108) dX8_planChange_108 rfl ?_
    refine a_iload (pc := 110) dX8_planChange_110 rfl ?_
    refine a_S1i (pc := 112) dX8_planChange_112 lcX8_seal lX8_47 (fit_of hR (by omega) rfl) (c_seal (d0 := d0) n) rfl rfl (ex_i ?_)
    refine a_V3v (pc := 115) 4 dX8_planChange_115 lcX5_planWrite lX8_33 rfl rfl rfl (fit_of hR (by omega) rfl) (c_planW_43 (d0 := d0) _ (if n &&& nI 1 = nI 1 then nI 3 else nI 7) n (nI 31 * n + nI 7) hP4 (by simp; omega)) rfl rfl (fun S' g' hS hp => ?_)
    obtain ⟨rfl, hP5, q5, hf5⟩ := hp
    refine a_aload (pc := 118) dX8_planChange_118 rfl ?_
    refine a_iconst (pc := 120) (nI 1) dX8_planChange_120 (by decide) ?_
    refine a_V1v (pc := 121) 4 dX8_planChange_121 lcX5_planFence lX8_39 rfl rfl rfl (fit_of hR (by omega) rfl) (c_planF_43 (d0 := d0) _ 2 m 1 hP5 (by simp; omega) hm (by decide) (q5.trans (q4.trans e3))) rfl rfl (fun S' g' hS hp => ?_)
    obtain ⟨rfl, hP6, q6, hf6⟩ := hp
    refine ret _ _ 124 _ dX8_planChange_124 rfl ?_
    exact ⟨rfl, hP6, hf3.tr (hf4.tr (hf5.tr hf6))⟩
  · exact absurd c1 (by decide)
set_option maxHeartbeats 1000000 in
set_option maxRecDepth 100000 in
theorem c_planPut_43 {d0 kd kp rp : Nat} {g : GH} (st m k : Nat) (v : Int64) (hst : st < 3) (hk : k < 3) (hm : m < 16) (hP : PL 43 g []) (h4 : gF g 43 4 = nI m) : ACv mX1_planPut (d0 + 4) (SS kd kp rp) g [.ref (71 + st), .ref 29, .int (nI k), .long v, .ref 43] (fun S' g' => S' = SS kd kp rp ∧ PL 43 g' (chgQ (gA g 29, []) st (spB st m) k v none) ∧ Fr [43, 44, 45, 46] g g') := by
  match st, hst with
  | 0, _ =>
    refine ACv.of lcX1_planPut rfl rfl (fun X Q ad hR ret => ?_)
    refine AW_ls (ls' := [_, _, _, _, _, _]) rfl ?_
    refine a_aload_n (pc := 0) dX1_planPut_0 rfl ?_
    refine a_aload_n (pc := 1) dX1_planPut_1 rfl ?_
    refine a_iload_n (pc := 2) dX1_planPut_2 rfl ?_
    refine a_lload_n (pc := 3) dX1_planPut_3 rfl ?_
    refine a_iconst (pc := 4) (-1) dX1_planPut_4 (by decide) ?_
    refine a_lconst (pc := 5) 0 dX1_planPut_5 (by decide) ?_
    refine a_aload (pc := 6) dX1_planPut_6 rfl ?_
    refine a_U6v (pc := 8) 3 dX1_planPut_8 rfl lcX4_planChange lX1_9_X4 rfl (fit_of hR (by omega) rfl) (c_pch0_43 (d0 := d0) k v none (fun l e => by cases e) hP) rfl rfl (fun S' g' hS hp => ?_)
    obtain ⟨rfl, hP2, hf2⟩ := hp
    refine ret _ _ 11 _ dX1_planPut_11 rfl ?_
    exact ⟨rfl, hP2, hf2⟩
  | 1, _ =>
    refine ACv.of lcX1_planPut rfl rfl (fun X Q ad hR ret => ?_)
    refine AW_ls (ls' := [_, _, _, _, _, _]) rfl ?_
    refine a_aload_n (pc := 0) dX1_planPut_0 rfl ?_
    refine a_aload_n (pc := 1) dX1_planPut_1 rfl ?_
    refine a_iload_n (pc := 2) dX1_planPut_2 rfl ?_
    refine a_lload_n (pc := 3) dX1_planPut_3 rfl ?_
    refine a_iconst (pc := 4) (-1) dX1_planPut_4 (by decide) ?_
    refine a_lconst (pc := 5) 0 dX1_planPut_5 (by decide) ?_
    refine a_aload (pc := 6) dX1_planPut_6 rfl ?_
    refine a_U6v (pc := 8) 1 dX1_planPut_8 rfl lcX2_planChange lX1_9_X2 rfl (fit_of hR (by omega) rfl) (c_pch1_43 (d0 := d0) m k v none (fun l e => by cases e) hm hP h4) rfl rfl (fun S' g' hS hp => ?_)
    obtain ⟨rfl, hP2, hf2⟩ := hp
    refine ret _ _ 11 _ dX1_planPut_11 rfl ?_
    exact ⟨rfl, hP2, hf2⟩
  | 2, _ =>
    refine ACv.of lcX1_planPut rfl rfl (fun X Q ad hR ret => ?_)
    refine AW_ls (ls' := [_, _, _, _, _, _]) rfl ?_
    refine a_aload_n (pc := 0) dX1_planPut_0 rfl ?_
    refine a_aload_n (pc := 1) dX1_planPut_1 rfl ?_
    refine a_iload_n (pc := 2) dX1_planPut_2 rfl ?_
    refine a_lload_n (pc := 3) dX1_planPut_3 rfl ?_
    refine a_iconst (pc := 4) (-1) dX1_planPut_4 (by decide) ?_
    refine a_lconst (pc := 5) 0 dX1_planPut_5 (by decide) ?_
    refine a_aload (pc := 6) dX1_planPut_6 rfl ?_
    refine a_U6v (pc := 8) 7 dX1_planPut_8 rfl lcX8_planChange lX1_9_X8 rfl (fit_of hR (by omega) rfl) (c_pch2_43 (d0 := d0) m k v none hk (fun l e => by cases e) hm hP h4) rfl rfl (fun S' g' hS hp => ?_)
    obtain ⟨rfl, hP2, hf2⟩ := hp
    refine ret _ _ 11 _ dX1_planPut_11 rfl ?_
    exact ⟨rfl, hP2, hf2⟩
set_option maxHeartbeats 1000000 in
set_option maxRecDepth 100000 in
theorem c_planMove_43 {d0 kd kp rp : Nat} {g : GH} (st m k l : Nat) (hst : st < 3) (hk : k < 3) (hl : l < 3) (hm : m < 16) (hP : PL 43 g []) (h4 : gF g 43 4 = nI m) : ACv mX1_planMove (d0 + 4) (SS kd kp rp) g [.ref (71 + st), .ref 29, .int (nI k), .int (nI l), .ref 43] (fun S' g' => S' = SS kd kp rp ∧ PL 43 g' (chgQ (gA g 29, []) st (spB st m) l (keyQ (gA g 29, []) st k) (some k)) ∧ Fr [43, 44, 45, 46] g g') := by
  have hlw : ∀ x, some k = some x → x < 3 := fun x e => by cases e; exact hk
  match st, hst with
  | 0, _ =>
    refine ACv.of lcX1_planMove rfl rfl (fun X Q ad hR ret => ?_)
    refine AW_ls (ls' := [_, _, _, _, _]) rfl ?_
    refine a_aload_n (pc := 0) dX1_planMove_0 rfl ?_
    refine a_aload_n (pc := 1) dX1_planMove_1 rfl ?_
    refine a_iload_n (pc := 2) dX1_planMove_2 rfl ?_
    refine a_aload_n (pc := 3) dX1_planMove_3 rfl ?_
    refine a_aload_n (pc := 4) dX1_planMove_4 rfl ?_
    refine a_iload_n (pc := 5) dX1_planMove_5 rfl ?_
    refine a_U2l (pc := 6) 3 dX1_planMove_6 rfl lcX1_valueOf lX1_15_X4 rfl (fit_of hR (by omega) rfl) (c_valueOf_29 (d0 := d0) 0 k (by decide) hk) rfl rfl (ex_l ?_)
    refine a_iload_n (pc := 9) dX1_planMove_9 rfl ?_
    refine a_lconst (pc := 10) 0 dX1_planMove_10 (by decide) ?_
    refine a_aload (pc := 11) dX1_planMove_11 rfl ?_
    refine a_U6v (pc := 13) 3 dX1_planMove_13 rfl lcX4_planChange lX1_9_X4 rfl (fit_of hR (by omega) rfl) (c_pch0_43 (d0 := d0) l _ (some k) hlw hP) rfl rfl (fun S' g' hS hp => ?_)
    obtain ⟨rfl, hP2, hf2⟩ := hp
    refine ret _ _ 16 _ dX1_planMove_16 rfl ?_
    exact ⟨rfl, hP2, hf2⟩
  | 1, _ =>
    refine ACv.of lcX1_planMove rfl rfl (fun X Q ad hR ret => ?_)
    refine AW_ls (ls' := [_, _, _, _, _]) rfl ?_
    refine a_aload_n (pc := 0) dX1_planMove_0 rfl ?_
    refine a_aload_n (pc := 1) dX1_planMove_1 rfl ?_
    refine a_iload_n (pc := 2) dX1_planMove_2 rfl ?_
    refine a_aload_n (pc := 3) dX1_planMove_3 rfl ?_
    refine a_aload_n (pc := 4) dX1_planMove_4 rfl ?_
    refine a_iload_n (pc := 5) dX1_planMove_5 rfl ?_
    refine a_U2l (pc := 6) 1 dX1_planMove_6 rfl lcX1_valueOf lX1_15_X2 rfl (fit_of hR (by omega) rfl) (c_valueOf_29 (d0 := d0) 1 k (by decide) hk) rfl rfl (ex_l ?_)
    refine a_iload_n (pc := 9) dX1_planMove_9 rfl ?_
    refine a_lconst (pc := 10) 0 dX1_planMove_10 (by decide) ?_
    refine a_aload (pc := 11) dX1_planMove_11 rfl ?_
    refine a_U6v (pc := 13) 1 dX1_planMove_13 rfl lcX2_planChange lX1_9_X2 rfl (fit_of hR (by omega) rfl) (c_pch1_43 (d0 := d0) m l _ (some k) hlw hm hP h4) rfl rfl (fun S' g' hS hp => ?_)
    obtain ⟨rfl, hP2, hf2⟩ := hp
    refine ret _ _ 16 _ dX1_planMove_16 rfl ?_
    exact ⟨rfl, hP2, hf2⟩
  | 2, _ =>
    refine ACv.of lcX1_planMove rfl rfl (fun X Q ad hR ret => ?_)
    refine AW_ls (ls' := [_, _, _, _, _]) rfl ?_
    refine a_aload_n (pc := 0) dX1_planMove_0 rfl ?_
    refine a_aload_n (pc := 1) dX1_planMove_1 rfl ?_
    refine a_iload_n (pc := 2) dX1_planMove_2 rfl ?_
    refine a_aload_n (pc := 3) dX1_planMove_3 rfl ?_
    refine a_aload_n (pc := 4) dX1_planMove_4 rfl ?_
    refine a_iload_n (pc := 5) dX1_planMove_5 rfl ?_
    refine a_U2l (pc := 6) 7 dX1_planMove_6 rfl lcX1_valueOf lX1_15_X8 rfl (fit_of hR (by omega) rfl) (c_valueOf_29 (d0 := d0) 2 k (by decide) hk) rfl rfl (ex_l ?_)
    refine a_iload_n (pc := 9) dX1_planMove_9 rfl ?_
    refine a_lconst (pc := 10) 0 dX1_planMove_10 (by decide) ?_
    refine a_aload (pc := 11) dX1_planMove_11 rfl ?_
    refine a_U6v (pc := 13) 7 dX1_planMove_13 rfl lcX8_planChange lX1_9_X8 rfl (fit_of hR (by omega) rfl) (c_pch2_43 (d0 := d0) m l _ (some k) hl hlw hm hP h4) rfl rfl (fun S' g' hS hp => ?_)
    obtain ⟨rfl, hP2, hf2⟩ := hp
    refine ret _ _ 16 _ dX1_planMove_16 rfl ?_
    exact ⟨rfl, hP2, hf2⟩
