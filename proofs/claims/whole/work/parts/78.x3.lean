/-! READ, PLATE, STATE, GET of the class -/
set_option maxHeartbeats 1000000 in
set_option maxRecDepth 100000 in
theorem k_read {d0 : Nat} {S : sH} {g : GH} {y : Sy} {n : Nat} (h : CI S g y n) (s p : Int32) : XCi mX10_read (d0 + 41) S g [.ref 0, .int s, .int p] (fun r S' g' => oRead y s p = some r ∧ CI S' g' y (n + 1) ∧ Fr clL g g') (fun E S' g' => (oRead y s p = none ∧ E = eI) ∧ CI S' g' y (n + 1) ∧ Fr clL g g') := by
  obtain ⟨kd, k, r, hk, rfl, hb⟩ := h
  have fin : CI (SS kd k r) g y (n + 1) := ⟨kd, k, r, hk, rfl, hb.n (by omega)⟩
  refine XCi.of lcX10_read rfl rfl (by omega) (fun X Q ad hR ret thr => ?_)
  refine AW_ls (ls' := [_, _, _]) rfl ?_
  unfold oRead at ret thr
  refine a_iload_n (pc := 0) dX10_read_0 rfl ?_
  refine a_iload_n (pc := 1) dX10_read_1 rfl ?_
  refine a_S2i (pc := 2) dX10_read_2 lcX10_isPart lX10_100 (fit_ofX hR (by omega) rfl) (c_kisPart (d0 := d0) s p) rfl rfl (ex_i ?_)
  refine a_if_neB (pc := 5) 18 dX10_read_5 (by decide) (fun c1 => ?_) (fun c1 => ?_)
  · rw [if_pos c1] at ret
    obtain ⟨s', p', hs, hp, rfl, rfl⟩ := pt_ok c1
    rw [ix_n (by omega), ix_n (by omega)] at ret
    refine a_aload_n (pc := 18) dX10_read_18 rfl ?_
    refine a_gr (pc := 19) dX10_read_19 fX10_12 rfl ?_
    refine a_gr (pc := 22) dX10_read_22 fX10_111 rfl ?_
    refine a_iconst (pc := 25) (nI 2) dX10_read_25 (by decide) ?_
    refine a_iload_n (pc := 26) dX10_read_26 rfl ?_
    refine a_imul (pc := 27) dX10_read_27 ?_
    try rw [pk_mul]
    refine a_iload_n (pc := 28) dX10_read_28 rfl ?_
    refine a_iadd (pc := 29) dX10_read_29 ?_
    try rw [nI_add]
    refine a_ial (pc := 30) ((2 * s' + p')) dX10_read_30 rfl rfl (by omega) ?_
    refine ret _ _ 31 _ _ dX10_read_31 rfl ?_
    exact ⟨by rw [hb.1.2.2.1 (2 * s' + p') (by omega)], fin, Fr.rf _ g⟩
  · rw [if_neg (by rw [c1]; decide)] at thr
    refine thr _ _ 8 _ eI ⟨rfl, 104, 106, 108, ⟨dX10_read_8, dX10_read_11, dX10_read_12, dX10_read_14, dX10_read_17⟩, Or.inl ⟨rfl, rfl, rfl, Or.inl rfl⟩⟩ rfl ?_
    exact ⟨⟨rfl, rfl⟩, fin, Fr.rf _ g⟩
set_option maxHeartbeats 1000000 in
set_option maxRecDepth 100000 in
theorem k_plate {d0 : Nat} {S : sH} {g : GH} {y : Sy} {n : Nat} (h : CI S g y n) (s p : Int32) : XCi mX10_plate (d0 + 41) S g [.ref 0, .int s, .int p] (fun r S' g' => oPlate y s p = some r ∧ CI S' g' y (n + 1) ∧ Fr clL g g') (fun E S' g' => (oPlate y s p = none ∧ E = eI) ∧ CI S' g' y (n + 1) ∧ Fr clL g g') := by
  obtain ⟨kd, k, r, hk, rfl, hb⟩ := h
  have fin : CI (SS kd k r) g y (n + 1) := ⟨kd, k, r, hk, rfl, hb.n (by omega)⟩
  refine XCi.of lcX10_plate rfl rfl (by omega) (fun X Q ad hR ret thr => ?_)
  refine AW_ls (ls' := [_, _, _]) rfl ?_
  unfold oPlate at ret thr
  refine a_iload_n (pc := 0) dX10_plate_0 rfl ?_
  refine a_iload_n (pc := 1) dX10_plate_1 rfl ?_
  refine a_S2i (pc := 2) dX10_plate_2 lcX10_isPart lX10_100 (fit_ofX hR (by omega) rfl) (c_kisPart (d0 := d0) s p) rfl rfl (ex_i ?_)
  refine a_if_neB (pc := 5) 18 dX10_plate_5 (by decide) (fun c1 => ?_) (fun c1 => ?_)
  · rw [if_pos c1] at ret
    obtain ⟨s', p', hs, hp, rfl, rfl⟩ := pt_ok c1
    rw [ix_n (by omega), ix_n (by omega)] at ret
    refine a_aload_n (pc := 18) dX10_plate_18 rfl ?_
    refine a_gr (pc := 19) dX10_plate_19 fX10_12 rfl ?_
    refine a_gr (pc := 22) dX10_plate_22 fX10_114 rfl ?_
    refine a_iconst (pc := 25) (nI 2) dX10_plate_25 (by decide) ?_
    refine a_iload_n (pc := 26) dX10_plate_26 rfl ?_
    refine a_imul (pc := 27) dX10_plate_27 ?_
    try rw [pk_mul]
    refine a_iload_n (pc := 28) dX10_plate_28 rfl ?_
    refine a_iadd (pc := 29) dX10_plate_29 ?_
    try rw [nI_add]
    refine a_ial (pc := 30) ((2 * s' + p')) dX10_plate_30 rfl rfl (by omega) ?_
    refine ret _ _ 31 _ _ dX10_plate_31 rfl ?_
    exact ⟨by rw [hb.1.2.1 (2 * s' + p') (by omega)], fin, Fr.rf _ g⟩
  · rw [if_neg (by rw [c1]; decide)] at thr
    refine thr _ _ 8 _ eI ⟨rfl, 104, 106, 108, ⟨dX10_plate_8, dX10_plate_11, dX10_plate_12, dX10_plate_14, dX10_plate_17⟩, Or.inl ⟨rfl, rfl, rfl, Or.inl rfl⟩⟩ rfl ?_
    exact ⟨⟨rfl, rfl⟩, fin, Fr.rf _ g⟩
set_option maxHeartbeats 1000000 in
set_option maxRecDepth 100000 in
theorem k_state {d0 : Nat} {S : sH} {g : GH} {y : Sy} {n : Nat} (h : CI S g y n) (hn : n < 512) (i s p : Int32) : XCi mX10_state (d0 + 41) S g [.ref 0, .int i, .int s, .int p] (fun r S' g' => oState y i s p = some r ∧ CI S' g' y (n + 1) ∧ Fr clL g g') (fun E S' g' => (oState y i s p = none ∧ E = eI) ∧ CI S' g' y (n + 1) ∧ Fr clL g g') := by
  obtain ⟨kd, k, r, hk, rfl, hb⟩ := h
  have hk' : k = 64 ∨ k = 67 := by omega
  obtain ⟨Ed, hEd, hs⟩ := hb.se
  have fin : CI (SS kd k r) g y (n + 1) := ⟨kd, k, r, hk, rfl, hb.n (by omega)⟩
  refine XCi.of lcX10_state rfl rfl (by omega) (fun X Q ad hR ret thr => ?_)
  refine AW_ls (ls' := [_, _, _, _]) rfl ?_
  unfold oState at ret thr
  refine a_iload_n (pc := 0) dX10_state_0 rfl ?_
  refine a_iload_n (pc := 1) dX10_state_1 rfl ?_
  refine a_S2i (pc := 2) dX10_state_2 lcX10_isPart lX10_100 (fit_ofX hR (by omega) rfl) (c_kisPart (d0 := d0) s p) rfl rfl (ex_i ?_)
  refine a_if_neB (pc := 5) 18 dX10_state_5 (by decide) (fun c1 => ?_) (fun c1 => ?_)
  · rw [if_pos c1] at ret thr
    obtain ⟨s', p', hs', hp', rfl, rfl⟩ := pt_ok c1
    rw [ix_n (j := s') (by omega), ix_n (j := p') (by omega)] at ret thr
    refine a_aload_n (pc := 18) dX10_state_18 rfl ?_
    refine a_gr (pc := 19) dX10_state_19 fX10_19 rfl ?_
    refine a_aload_n (pc := 22) dX10_state_22 rfl ?_
    refine a_gr (pc := 23) dX10_state_23 fX10_12 rfl ?_
    refine a_V1v (pc := 26) 8 dX10_state_26 lcX9_refresh lX10_129 rfl rfl rfl (fit_ofX hR (by omega) rfl) (c_refresh_8 (d0 := d0) (yq y) Ed (by omega) hb.1 hs) rfl rfl (fun S' g1 hS hp => ?_)
    obtain ⟨rfl, ok, e13, e11, f1⟩ := hp
    have s1 : SeD 8 1 g1 (yq y) Ed := ⟨(f1.f (by decide) 12).trans hs.1, e11, Or.inr ⟨Ed, e13, Nat.le_refl _, fun _ => ok⟩⟩
    have hb1 : CIb k g1 y (n + 1) := hb.dq (q' := yq y) (w' := yw y) hk' f1 (by decide) (hb.1.fr f1 (by decide)) ⟨Ed, by omega, s1⟩ ((f1.f (by decide) 11).trans hb.2.2.1.2.2)
    have no : ¬ (FitQ (yq y) ∧ insQ i (nI 0) (nI (nSt (yq y)) - nI 1) = true) → AW mX10_state X Q ad 0 0 (conc (SS kd k r) g1) 57 [some (.ref 0), some (.int i), some (.int (nI s')), some (.int (nI p'))] [] := by
      intro c
      rw [if_neg c] at thr
      refine thr _ _ 57 _ eI ⟨rfl, 104, 136, 108, ⟨dX10_state_57, dX10_state_60, dX10_state_61, dX10_state_63, dX10_state_66⟩, Or.inl ⟨rfl, rfl, rfl, Or.inr (Or.inl rfl)⟩⟩ rfl ?_
      exact ⟨⟨rfl, rfl⟩, ⟨kd, k, r, hk, rfl, hb1⟩, f1.mono (by decide)⟩
    obtain ⟨cy, cn⟩ := ok.cnt
    refine a_aload_n (pc := 29) dX10_state_29 rfl ?_
    refine a_gr (pc := 30) dX10_state_30 fX10_19 rfl ?_
    refine a_gi (pc := 33) dX10_state_33 fX10_133 rfl ?_
    by_cases hf : FitQ (yq y)
    · obtain ⟨cy1, cy2⟩ := cy hf
      rw [cy1]
      refine a_sipush (pc := 36) (nI 4096) dX10_state_36 (by decide) ?_
      refine a_icmp_gtN (pc := 39) 57 dX10_state_39 (by decide) (by omega) (by omega) (fun c2 => ?_) (fun c2 => ?_)
      · exact absurd c2 (by omega)
      · refine a_iload_n (pc := 42) dX10_state_42 rfl ?_
        rcases idx_br (i := i) (n := nSt (yq y)) (by omega) with ⟨c3, j, hj, rfl⟩ | ⟨c3, c4⟩
        · rw [if_pos ⟨hf, c3⟩, ix_n (j := j) (by omega)] at ret
          refine a_if_ltN (pc := 43) 57 dX10_state_43 (by decide) (by omega) (fun c5 => ?_) (fun c5 => ?_)
          · exact absurd c5 (by omega)
          · refine a_iload_n (pc := 46) dX10_state_46 rfl ?_
            refine a_aload_n (pc := 47) dX10_state_47 rfl ?_
            refine a_gr (pc := 48) dX10_state_48 fX10_19 rfl ?_
            refine a_gi (pc := 51) dX10_state_51 fX10_133 rfl ?_
            rw [cy1]
            refine a_icmp_ltN (pc := 54) 67 dX10_state_54 (by decide) (by omega) (by omega) (fun c6 => ?_) (fun c6 => ?_)
            · refine a_aload_n (pc := 67) dX10_state_67 rfl ?_
              refine a_gr (pc := 68) dX10_state_68 fX10_19 rfl ?_
              refine a_iload_n (pc := 71) dX10_state_71 rfl ?_
              refine a_V1v (pc := 72) 8 dX10_state_72 lcX9_seek lX10_138 rfl rfl rfl (fit_ofX hR (by omega) rfl) (c_seekQ_8 (d0 := d0) (yq y) j ok hf hj) rfl rfl (fun S' g2 hS hp => ?_)
              obtain ⟨rfl, ok2, con, ek, f2⟩ := hp
              refine a_aload_n (pc := 75) dX10_state_75 rfl ?_
              refine a_gr (pc := 76) dX10_state_76 fX10_19 rfl ?_
              refine a_gr (pc := 79) dX10_state_79 fX10_142 rfl ?_
              refine a_iconst (pc := 82) (nI 2) dX10_state_82 (by decide) ?_
              refine a_iload_n (pc := 83) dX10_state_83 rfl ?_
              refine a_imul (pc := 84) dX10_state_84 ?_
              try rw [pk_mul]
              refine a_iload_n (pc := 85) dX10_state_85 rfl ?_
              refine a_iadd (pc := 86) dX10_state_86 ?_
              try rw [nI_add]
              refine a_ial (pc := 87) ((2 * s' + p')) dX10_state_87 rfl rfl (by omega) ?_
              refine ret _ _ 88 _ _ dX10_state_88 rfl ?_
              have s2 : SeD 8 1 g2 (yq y) Ed := ⟨(f2.f (by decide) 12).trans s1.1, by rw [f2.a (by decide)]; exact e11, Or.inr ⟨Ed, (ek 13 (by decide)).trans e13, Nat.le_refl _, fun _ => ok2⟩⟩
              have f12 : Fr [8, 9, 10, 11, 12, 13, 14, 15, 16] g g2 := (f1.mono (by decide)).tr (f2.mono (by decide))
              have hb2 : CIb k g2 y (n + 1) := hb.dq (q' := yq y) (w' := yw y) hk' f12 (by decide) (hb.1.fr f12 (by decide)) ⟨Ed, by omega, s2⟩ ((f12.f (by decide) 11).trans hb.2.2.1.2.2)
              exact ⟨by rw [con _ (by omega)], ⟨kd, k, r, hk, rfl, hb2⟩, f12.mono (by decide)⟩
            · exact absurd c6 (by omega)
        · refine a_if_lt (pc := 43) 57 dX10_state_43 (by decide) (fun c5 => ?_) (fun c5 => ?_)
          · exact no (fun z => absurd z.2 (by rw [c3]; decide))
          · refine a_iload_n (pc := 46) dX10_state_46 rfl ?_
            refine a_aload_n (pc := 47) dX10_state_47 rfl ?_
            refine a_gr (pc := 48) dX10_state_48 fX10_19 rfl ?_
            refine a_gi (pc := 51) dX10_state_51 fX10_133 rfl ?_
            rw [cy1]
            refine a_icmp_lt (pc := 54) 67 dX10_state_54 (by decide) (fun c6 => ?_) (fun c6 => ?_)
            · rcases c4 with z | z
              · exact absurd z c5
              · exact absurd c6 (Int32.not_lt.mpr z)
            · exact no (fun z => absurd z.2 (by rw [c3]; decide))
    · rw [cn hf]
      refine a_sipush (pc := 36) (nI 4096) dX10_state_36 (by decide) ?_
      refine a_icmp_gtN (pc := 39) 57 dX10_state_39 (by decide) (by omega) (by omega) (fun c2 => ?_) (fun c2 => ?_)
      · exact no (fun z => hf z.1)
      · exact absurd c2 (by omega)
  · rw [if_neg (by rw [c1]; decide)] at thr
    refine thr _ _ 8 _ eI ⟨rfl, 104, 106, 108, ⟨dX10_state_8, dX10_state_11, dX10_state_12, dX10_state_14, dX10_state_17⟩, Or.inl ⟨rfl, rfl, rfl, Or.inl rfl⟩⟩ rfl ?_
    exact ⟨⟨rfl, rfl⟩, fin, Fr.rf _ g⟩
set_option maxHeartbeats 1000000 in
set_option maxRecDepth 100000 in
theorem k_get {d0 : Nat} {S : sH} {g : GH} {y : Sy} {n : Nat} (h : CI S g y n) (hy : Yok y) (x : Int32) : XCl mX10_get (d0 + 41) S g [.ref 0, .int x] (fun r S' g' => oGet y x = (0, r) ∧ CI S' g' y (n + 1) ∧ Fr clL g g') (fun E S' g' => (((oGet y x).1 = 1 ∧ E = eS) ∨ ((oGet y x).1 = 2 ∧ E = eI)) ∧ CI S' g' y (n + 1) ∧ Fr clL g g') := by
  obtain ⟨kd, k, r, hk, rfl, hb⟩ := h
  have fin : CI (SS kd k r) g y (n + 1) := ⟨kd, k, r, hk, rfl, hb.n (by omega)⟩
  have e8 := hb.2.2.1.1
  refine XCl.of lcX10_get rfl rfl (by omega) (fun X Q ad hR ret thr => ?_)
  refine AW_ls (ls' := [_, _]) rfl ?_
  unfold oGet at ret thr
  refine a_aload_n (pc := 0) dX10_get_0 rfl ?_
  refine a_V0i (pc := 1) 9 dX10_get_1 lcX10_hasStore lX10_160 rfl rfl rfl (fit_ofX hR (by omega) rfl) (c_hasStore (d0 := d0)) rfl rfl (ex_i ?_)
  rw [e8]
  rcases hy.1 with z | ⟨st, hst, z⟩
  · rw [if_pos z] at thr
    rw [hs_no z]
    refine a_if_neB (pc := 4) 17 dX10_get_4 (by decide) (fun c1 => ?_) (fun c1 => ?_)
    · cases c1
    · refine thr _ _ 7 _ eS ⟨rfl, 184, 186, 188, ⟨dX10_get_7, dX10_get_10, dX10_get_11, dX10_get_13, dX10_get_16⟩, Or.inr ⟨rfl, rfl, rfl, rfl⟩⟩ rfl ?_
      exact ⟨Or.inl ⟨rfl, rfl⟩, fin, Fr.rf _ g⟩
  · have hst1 : yst y = st := by show ix (yk y) = st; rw [z, ix_n (by omega)]
    rw [if_neg (by rw [z]; exact nI_m1 (by omega)), hst1] at ret thr
    rw [hs_yes hst z]
    refine a_if_neB (pc := 4) 17 dX10_get_4 (by decide) (fun c1 => ?_) (fun c1 => ?_)
    · refine a_iload_n (pc := 17) dX10_get_17 rfl ?_
      refine a_S1i (pc := 18) dX10_get_18 lcX10_isKey lX10_164 (fit_ofX hR (by omega) rfl) (c_isKey (d0 := d0) x) rfl rfl (ex_i ?_)
      refine a_if_neB (pc := 21) 34 dX10_get_21 (by decide) (fun c2 => ?_) (fun c2 => ?_)
      · rw [if_pos c2] at ret
        obtain ⟨key, hkey, rfl⟩ := (insQ_ok (by decide)).mp c2
        rw [ix_n (by omega)] at ret
        refine a_aload_n (pc := 34) dX10_get_34 rfl ?_
        refine a_gr (pc := 35) dX10_get_35 fX10_55 rfl ?_
        refine a_aload_n (pc := 38) dX10_get_38 rfl ?_
        refine a_gi (pc := 39) dX10_get_39 fX10_66 rfl ?_
        rw [e8, z]
        refine a_aal (pc := 42) 3 st (Or.inl rfl) dX10_get_42 (kin_at st hst) rfl ?_
        refine a_aload_n (pc := 43) dX10_get_43 rfl ?_
        refine a_gr (pc := 44) dX10_get_44 fX10_12 rfl ?_
        refine a_gr (pc := 47) dX10_get_47 fX10_111 rfl ?_
        refine a_iload_n (pc := 50) dX10_get_50 rfl ?_
        have e3 : eq32 (gA g 3) (flQ (yq y)) := fun p hp => hb.1.2.2.1 p hp
        obtain rfl | rfl | rfl : st = 0 ∨ st = 1 ∨ st = 2 := by omega
        · refine a_U2l (pc := 51) 3 dX10_get_51 rfl lcX1_valueOf lX10_191_X4 rfl (fit_ofX hR (by omega) rfl) (c_valueOf_3 (d0 := d0) 0 key (by decide) (by omega)) rfl rfl (ex_l ?_)
          refine ret _ _ 54 _ _ dX10_get_54 rfl ?_
          exact ⟨by rw [keyQ_now hb.1.ok e3 0 (by omega)], fin, Fr.rf _ g⟩
        · refine a_U2l (pc := 51) 1 dX10_get_51 rfl lcX1_valueOf lX10_191_X2 rfl (fit_ofX hR (by omega) rfl) (c_valueOf_3 (d0 := d0) 1 key (by decide) (by omega)) rfl rfl (ex_l ?_)
          refine ret _ _ 54 _ _ dX10_get_54 rfl ?_
          exact ⟨by rw [keyQ_now hb.1.ok e3 1 (by omega)], fin, Fr.rf _ g⟩
        · refine a_U2l (pc := 51) 7 dX10_get_51 rfl lcX1_valueOf lX10_191_X8 rfl (fit_ofX hR (by omega) rfl) (c_valueOf_3 (d0 := d0) 2 key (by decide) (by omega)) rfl rfl (ex_l ?_)
          refine ret _ _ 54 _ _ dX10_get_54 rfl ?_
          exact ⟨by rw [keyQ_now hb.1.ok e3 2 (by omega)], fin, Fr.rf _ g⟩
      · rw [if_neg (by rw [c2]; decide)] at thr
        refine thr _ _ 24 _ eI ⟨rfl, 104, 189, 108, ⟨dX10_get_24, dX10_get_27, dX10_get_28, dX10_get_30, dX10_get_33⟩, Or.inl ⟨rfl, rfl, rfl, Or.inr (Or.inr rfl)⟩⟩ rfl ?_
        exact ⟨Or.inr ⟨rfl, rfl⟩, fin, Fr.rf _ g⟩
    · cases c1
