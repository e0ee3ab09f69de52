set_option maxHeartbeats 1000000 in
set_option maxRecDepth 100000 in
theorem c_moment {d0 kd kp rp : Nat} {g : GH} (store : Nat) (A : List Ac) (q : Qd) (su be : Nat) (r0 : Rp) (hst : store < 3) (hA8 : A.length ≤ 8) (hq : MD g 1 q) (hD : ∀ n k, n ≤ A.length → k < 3 → gL g 97 (3 * n + k) = dueP A n k) (hbe : be ≤ A.length) (hsu : su ≤ be) (h32 : gF g 76 32 = nI su) (h33 : gF g 76 33 = nI be) (hr : RpM g r0) (hb : RpB r0) (h0 : r0.1 0 < 1000) : ACi mX11_moment (d0 + 5) (SS kd kp rp) g [.ref 76, .int (nI store)] (fun r S' g' => S' = SS kd kp rp ∧ ∃ b : Bool, r = bI b ∧ KM g g' ∧ (b = true → FitQ q ∧ RpM g' (momP A q store (gA g 82) su be r0)) ∧ (b = false → ¬ FitQ q)) := by
  obtain ⟨b0, b1, b2, b6, b3, b4, b5⟩ := hb
  refine ACz.of lcX11_moment rfl rfl (fun X Q ad hR ret => ?_)
  refine AW_ls (ls' := [_, _, _, _, _, _]) rfl ?_
  refine a_aload_n (pc := 0) dX11_moment_0 rfl ?_
  refine a_iconst (pc := 1) (nI 1) dX11_moment_1 (by decide) ?_
  refine a_V1i (pc := 2) 10 dX11_moment_2 lcX11_findStates lX11_160 rfl rfl rfl (fit_of hR (by omega) rfl) (c_findS (d0 := d0 + 1) 1 q.2.length (by decide) hq.1 hq.2.1 hq.sec) rfl rfl (fun rr S' g' hS hp => ?_)
  obtain ⟨rfl, b, St, N, o, rfl, Od, B, C, M, W, rfl, hN, hOd, hq1, hq2⟩ := hp
  refine a_if_neB (pc := 5) 10 dX11_moment_5 (by decide) (fun cb => ?_) (fun cb => ?_)
  rotate_left
  · refine a_iconst (pc := 8) (nI 0) dX11_moment_8 (by decide) ?_
    refine ret _ _ 9 _ _ dX11_moment_9 rfl (by first | exact Or.inl rfl | exact Or.inr rfl | exact bI_01 _) ?_
    exact ⟨rfl, false, rfl, KM.fs _ _ _ _ _ _ _ _, (fun z => by cases z), fun _ => FitQ.no ((hq2 cb).congr hq.st)⟩
  obtain ⟨hfit, hNq, hrow⟩ := FitQ.is ((hq1 cb).congr hq.st) hN
  refine a_iconst (pc := 10) (nI 0) dX11_moment_10 (by decide) ?_
  refine a_istore_n (pc := 11) (ls' := [_, _, _, _, _, _]) dX11_moment_11 (Nat.le_of_ble_eq_true rfl) rfl ?_
  -- one behind another
  have states : ∀ t i, N = i + t → ∀ (g1 : GH) (w3 w4 w5 : Option Value), KL (fsG g St Od B C M W (nI N)) g1 → RpM g1 (momF A (fSt q) store (gA g 82) su be r0 i) → AW mX11_moment X Q ad 0 0 (conc (SS kd kp rp) g1) 12 [some (.ref 76), some (.int (nI store)), some (.int (nI i)), w3, w4, w5] [] := by
    intro t
    induction t with
    | zero =>
      intro i hi g1 w3 w4 w5 hk hr1
      obtain rfl : N = i := by omega
      have e11 : gF g1 76 11 = nI N := (hk.2.1 76 11 (by decide)).trans rfl
      obtain ⟨t1, t2, t3⟩ := momF_t A (fSt q) store (gA g 82) su be r0 N
      have m0 : gA g1 98 0 = nI (r0.1 0) := by rw [hr1.1 0 (by decide), t1 0 (by decide)]
      have m1 : gA g1 98 1 = nI (r0.1 1) := by rw [hr1.1 1 (by decide), t1 1 (by decide)]
      have m6 : gA g1 98 6 = nI (r0.1 6) := by rw [hr1.1 6 (by decide), t1 6 (by decide)]
      refine a_iload_n (pc := 12) dX11_moment_12 rfl ?_
      refine a_aload_n (pc := 13) dX11_moment_13 rfl ?_
      refine a_gi (pc := 14) dX11_moment_14 fX11_137 rfl ?_
      rw [e11]
      refine a_icmp_geN (pc := 17) 307 dX11_moment_17 (by decide) (by omega) (by omega) (fun c1 => ?_) (fun c1 => ?_)
      · refine a_aload_n (pc := 307) dX11_moment_307 rfl ?_
        refine a_gr (pc := 308) dX11_moment_308 fX11_80 rfl ?_
        refine a_iconst (pc := 311) (nI 0) dX11_moment_311 (by decide) ?_
        refine a_dup2 (pc := 312) dX11_moment_312 rfl rfl ?_
        refine a_ial (pc := 313) _ dX11_moment_313 rfl rfl (by omega) ?_
        rw [m0]
        refine a_iconst (pc := 314) (nI 1) dX11_moment_314 (by decide) ?_
        refine a_iadd (pc := 315) dX11_moment_315 ?_
        try rw [nI_add]
        refine a_ast (pc := 316) _ dX11_moment_316 rfl rfl (by omega) ?_
        refine a_aload_n (pc := 317) dX11_moment_317 rfl ?_
        refine a_gr (pc := 318) dX11_moment_318 fX11_80 rfl ?_
        refine a_iconst (pc := 321) (nI 1) dX11_moment_321 (by decide) ?_
        refine a_dup2 (pc := 322) dX11_moment_322 rfl rfl ?_
        refine a_ial (pc := 323) _ dX11_moment_323 rfl rfl (by omega) ?_
        refine a_aload_n (pc := 324) dX11_moment_324 rfl ?_
        refine a_gi (pc := 325) dX11_moment_325 fX11_137 rfl ?_
        rw [show gF (pA g1 98 (upd (gA g1 98) 0 (nI (r0.1 0 + 1)))) 76 11 = nI N from e11, show gA (pA g1 98 (upd (gA g1 98) 0 (nI (r0.1 0 + 1)))) 98 1 = nI (r0.1 1) by simp [gA_pA, upd, m1]]
        refine a_iadd (pc := 328) dX11_moment_328 ?_
        try rw [nI_add]
        refine a_ast (pc := 329) _ dX11_moment_329 rfl rfl (by omega) ?_
        refine a_aload_n (pc := 330) dX11_moment_330 rfl ?_
        refine a_gr (pc := 331) dX11_moment_331 fX11_80 rfl ?_
        refine a_bipush (pc := 334) (nI 6) dX11_moment_334 (by decide) ?_
        refine a_aload_n (pc := 336) dX11_moment_336 rfl ?_
        refine a_gi (pc := 337) dX11_moment_337 fX11_137 rfl ?_
        refine a_aload_n (pc := 340) dX11_moment_340 rfl ?_
        refine a_gr (pc := 341) dX11_moment_341 fX11_80 rfl ?_
        refine a_bipush (pc := 344) (nI 6) dX11_moment_344 (by decide) ?_
        simp only [gF_pF, gF_pA, gF_pL, gA_pF, gA_pA, gA_pL, gL_pF, gL_pA, gL_pL, reduceIte, Nat.reduceEqDiff, and_false, false_and, and_true, true_and, and_self]
        rw [pA_pA]
        rw [e11]
        refine a_ial (pc := 346) _ dX11_moment_346 rfl rfl (by omega) ?_
        rw [show gA (pA g1 98 (upd (upd (gA g1 98) 0 (nI (r0.1 0 + 1))) 1 (nI (r0.1 1 + N)))) 98 6 = nI (r0.1 6) by simp [gA_pA, upd, m6]]
        refine AW_val3 364 (nI (max (r0.1 6) N)) (fun hJ => ?_) ?_
        · refine a_icmp_leN (pc := 347) 357 dX11_moment_347 (by decide) (by omega) (by omega) (fun c2 => ?_) (fun c2 => ?_)
          · refine a_aload_n (pc := 357) dX11_moment_357 rfl ?_
            refine a_gr (pc := 358) dX11_moment_358 fX11_80 rfl ?_
            refine a_bipush (pc := 361) (nI 6) dX11_moment_361 (by decide) ?_
            refine a_ial (pc := 363) _ dX11_moment_363 rfl rfl (by omega) ?_
            rw [show gA (pA g1 98 (upd (upd (gA g1 98) 0 (nI (r0.1 0 + 1))) 1 (nI (r0.1 1 + N)))) 98 6 = nI (r0.1 6) by simp [gA_pA, upd, m6]]
            exact AW_top (by rw [Nat.max_eq_left c2]) hJ
          · refine a_aload_n (pc := 350) dX11_moment_350 rfl ?_
            refine a_gi (pc := 351) dX11_moment_351 fX11_137 rfl ?_
            rw [show gF (pA g1 98 (upd (upd (gA g1 98) 0 (nI (r0.1 0 + 1))) 1 (nI (r0.1 1 + N)))) 76 11 = nI N from e11]
            refine a_goto (pc := 354) 364 dX11_moment_354 (by decide) ?_
            exact AW_top (by rw [Nat.max_eq_right (by omega)]) hJ
        refine a_ast (pc := 364) _ dX11_moment_364 rfl rfl (by omega) ?_
        refine a_iconst (pc := 365) (nI 1) dX11_moment_365 (by decide) ?_
        simp only [gF_pF, gF_pA, gF_pL, gA_pF, gA_pA, gA_pL, gL_pF, gL_pA, gL_pL, reduceIte, Nat.reduceEqDiff, and_false, false_and, and_true, true_and, and_self]
        rw [pA_pA]
        refine ret _ _ 366 _ _ dX11_moment_366 rfl (by first | exact Or.inl rfl | exact Or.inr rfl | exact bI_01 _) ?_
        refine ⟨rfl, true, rfl, (KM.fs _ _ _ _ _ _ _ _).tr (hk.tr (KL.big _ (by decide))).km, fun _ => ⟨hfit, ?_⟩, fun z => by cases z⟩
        unfold momP
        rw [← hNq]
        refine ⟨fun j hj => ?_, hr1.2.1, hr1.2.2⟩
        rw [gA_pA, if_pos rfl]
        unfold momE
        simp only [upd, tu]
        by_cases j6 : j = 6
        · rw [if_pos j6, if_pos j6, t1 6 (by decide)]
        · rw [if_neg j6, if_neg j6]
          by_cases j1 : j = 1
          · rw [if_pos j1, if_pos j1, t1 1 (by decide)]
          · rw [if_neg j1, if_neg j1]
            by_cases j0 : j = 0
            · rw [if_pos j0, if_pos j0, t1 0 (by decide)]
            · rw [if_neg j0, if_neg j0]
              exact hr1.1 j hj
      · exact absurd c1 (by omega)
    | succ t ih =>
      intro i hi g1 w3 w4 w5 hk hr1
      have e11 : gF g1 76 11 = nI N := (hk.2.1 76 11 (by decide)).trans rfl
      have e84 : gA g1 84 = St := (hk.1 84 (by decide)).trans rfl
      have e85 : gA g1 85 = Od := (hk.1 85 (by decide)).trans rfl
      have e82 : gA g1 82 = gA g 82 := (hk.1 82 (by decide)).trans rfl
      have e97 : gL g1 97 = gL g 97 := (hk.2.2.1 97 (by decide)).trans rfl
      have e32 : gF g1 76 32 = nI su := ((hk.2.1 76 32 (by decide)).trans rfl).trans h32
      have e33 : gF g1 76 33 = nI be := ((hk.2.1 76 33 (by decide)).trans rfl).trans h33
      obtain ⟨ho1, ho2⟩ := hOd i (by omega)
      obtain ⟨t1, t2, t3⟩ := momF_t A (fSt q) store (gA g 82) su be r0 i
      refine a_iload_n (pc := 12) dX11_moment_12 rfl ?_
      refine a_aload_n (pc := 13) dX11_moment_13 rfl ?_
      refine a_gi (pc := 14) dX11_moment_14 fX11_137 rfl ?_
      rw [e11]
      refine a_icmp_geN (pc := 17) 307 dX11_moment_17 (by decide) (by omega) (by omega) (fun c1 => ?_) (fun c1 => ?_)
      · exact absurd c1 (by omega)
      refine a_iconst (pc := 20) (nI 0) dX11_moment_20 (by decide) ?_
      refine a_istore_n (pc := 21) (ls' := [_, _, _, _, _, _]) dX11_moment_21 (Nat.le_of_ble_eq_true rfl) rfl ?_
      -- behind the copy
      have risen : ∀ (P : Nat → Int32), (∀ p, p < 32 → P (64 + p) = St (32 * o i + p)) → (∀ p, p < 64 → P p = gA g1 77 p) → AW mX11_moment X Q ad 0 0 (conc (SS kd kp rp) (pA g1 77 P)) 59 [some (.ref 76), some (.int (nI store)), some (.int (nI i)), some (.int (nI 32)), w4, w5] [] := by
        intro P hP1 hP2
        obtain ⟨F, hF⟩ : ∃ F : Nat → Int32, F = fun p => St (32 * o i + p) := ⟨_, rfl⟩
        have hFq : eq32 F (fSt q i) := by rw [hF]; exact hrow i (by omega)
        obtain ⟨g2, hg2⟩ : ∃ g2, g2 = pA (pA g1 77 P) 81 (upd (gA g1 81) 2 (nI 0)) := ⟨_, rfl⟩
        have k2 : KL g1 g2 := by
          rw [hg2]
          exact (KL.p77 hP2).tr (KL.p81 _)
        have md2 : MD g2 2 (F, []) := by
          rw [hg2]
          refine ⟨by simp [gA_pA, upd], by simp, fun p hp => ?_, fun k hk => absurd hk (by simp), fun k hk => absurd hk (by simp)⟩
          simp only [gA_pA, reduceIte, Nat.reduceEqDiff]
          rw [hF]
          exact hP1 p hp
        have s98 : gA g2 98 = gA g1 98 := by rw [hg2]; rfl
        have s100 : gA g2 100 = gA g1 100 := by rw [hg2]; rfl
        have s82 : gA g2 82 = gA g 82 := by rw [hg2]; exact e82
        have s97 : gL g2 97 = gL g 97 := by rw [hg2]; exact e97
        have s32 : gF g2 76 32 = nI su := by rw [hg2]; exact e32
        have s33 : gF g2 76 33 = nI be := by rw [hg2]; exact e33
        refine a_aload_n (pc := 59) dX11_moment_59 rfl ?_
        refine a_gr (pc := 60) dX11_moment_60 fX11_22 rfl ?_
        refine a_iconst (pc := 63) (nI 2) dX11_moment_63 (by decide) ?_
        refine a_iconst (pc := 64) (nI 0) dX11_moment_64 (by decide) ?_
        refine a_ast (pc := 65) _ dX11_moment_65 rfl rfl (by omega) ?_
        rw [show pA (pA g1 77 P) 81 (upd (gA (pA g1 77 P) 81) 2 (nI 0)) = g2 from hg2.symm]
        refine a_aload_n (pc := 66) dX11_moment_66 rfl ?_
        refine a_iconst (pc := 67) (nI 2) dX11_moment_67 (by decide) ?_
        refine a_iload_n (pc := 68) dX11_moment_68 rfl ?_
        refine a_V2v (pc := 69) 10 dX11_moment_69 lcX11_planRise lX11_222 rfl rfl rfl (fit_of hR (by omega) rfl) (c_planRise (d0 := d0 + 1) 2 store 0 (by decide) hst md2.1 (by decide)) rfl rfl (ex_v ?_)
        have rr0 : ∀ s p, s < 16 → p < 2 → (rdA (gA g2 77) (gA g2 78) (gA g2 79) (gA g2 80) 2 s p 0) = F (2 * s + p) := fun s p hs hp => by
          have := md2.rd (s := s) (p := p) hs hp
          have e : rdQ (F, []) s p = F (2 * s + p) := by
            show F (32 * 0 + 2 * s + p) = _
            congr 1
            omega
          exact this.trans e
        have hris : risL store (gA g2 82) (rdA (gA g2 77) (gA g2 78) (gA g2 79) (gA g2 80) 2 3 0 0) (rdA (gA g2 77) (gA g2 78) (gA g2 79) (gA g2 80) 2 3 1 0) (rdA (gA g2 77) (gA g2 78) (gA g2 79) (gA g2 80) 2 4 0 0) (rdA (gA g2 77) (gA g2 78) (gA g2 79) (gA g2 80) 2 4 1 0) (rdA (gA g2 77) (gA g2 78) (gA g2 79) (gA g2 80) 2 5 0 0) (rdA (gA g2 77) (gA g2 78) (gA g2 79) (gA g2 80) 2 5 1 0) (rdA (gA g2 77) (gA g2 78) (gA g2 79) (gA g2 80) 2 6 0 0) (rdA (gA g2 77) (gA g2 78) (gA g2 79) (gA g2 80) 2 6 1 0) = risQ F store (gA g 82) := by
          rw [rr0 3 0 (by decide) (by decide), rr0 3 1 (by decide) (by decide), rr0 4 0 (by decide) (by decide), rr0 4 1 (by decide) (by decide), rr0 5 0 (by decide) (by decide), rr0 5 1 (by decide) (by decide), rr0 6 0 (by decide) (by decide), rr0 6 1 (by decide) (by decide), s82]
          rfl
        rw [hris]
        have hLo : ∀ x ∈ risQ F store (gA g 82), okE x := ris_ok _ _ _ _ _ _ _ _ _ _
        have hL5 : (risQ F store (gA g 82)).length ≤ 5 := ris_len _ _ _ _ _ _ _ _ _ _
        obtain ⟨L, hLe⟩ : ∃ L, L = risQ F store (gA g 82) := ⟨_, rfl⟩
        rw [← hLe] at hLo hL5 ⊢
        have mdp : MD (plA g2 L) 2 (F, []) := md2
        refine a_iconst (pc := 72) (nI 0) dX11_moment_72 (by decide) ?_
        refine a_istore_n (pc := 73) (ls' := [_, _, _, _, _, _]) dX11_moment_73 (Nat.le_of_ble_eq_true rfl) rfl ?_
        have pushes : ∀ t2 k, L.length = k + t2 → ∀ w4 : Option Value, AW mX11_moment X Q ad 0 0 (conc (SS kd kp rp) (pushL (plA g2 L) 2 0 (L.take k))) 74 [some (.ref 76), some (.int (nI store)), some (.int (nI i)), some (.int (nI k)), w4, w5] [] := by
          intro t2
          induction t2 with
          | zero =>
            intro k hk2 w4
            have ek : L.take k = L := List.take_of_length_le (by omega)
            rw [ek]
            refine a_iload_n (pc := 74) dX11_moment_74 rfl ?_
            refine a_aload_n (pc := 75) dX11_moment_75 rfl ?_
            refine a_gi (pc := 76) dX11_moment_76 fX11_188 rfl ?_
            rw [pushL_F 2 76 21 (by decide), plA_21]
            refine a_icmp_geN (pc := 79) 113 dX11_moment_79 (by decide) (by omega) (by omega) (fun c2 => ?_) (fun c2 => ?_)
            · obtain ⟨g3, hg3⟩ : ∃ g3, g3 = pushL (plA g2 L) 2 0 L := ⟨_, rfl⟩
              have md3 : MD g3 2 (F, L) := by
                rw [hg3]
                exact MD.pushs L (plA g2 L) (F, []) mdp hLo (by simp; omega)
              have k3 : KL g1 g3 := by
                rw [hg3]
                exact k2.tr ((KL.pl g2 L).tr (KL.pshs L _ 0))
              have u98 : gA g3 98 = gA g1 98 := by rw [hg3, pushL_A 2 98 (by decide), plA_A _ _ 98 (by decide) (by decide) (by decide), s98]
              have u100 : gA g3 100 = gA g1 100 := by rw [hg3, pushL_A 2 100 (by decide), plA_A _ _ 100 (by decide) (by decide) (by decide), s100]
              rw [← hg3]
              refine a_aload_n (pc := 113) dX11_moment_113 rfl ?_
              refine a_iconst (pc := 114) (nI 2) dX11_moment_114 (by decide) ?_
              refine a_V1i (pc := 115) 10 dX11_moment_115 lcX11_flushOf lX11_122 rfl rfl rfl (fit_of hR (by omega) rfl) (c_flushOf (d0 := d0) 2 L.length (by decide) md3.1 md3.2.1 md3.sec) rfl rfl (ex_i ?_)
              rw [show pA (pA g3 77 (flP (gA g3 78) (gA g3 79) (gA g3 80) 2 (gA g3 77) L.length)) 81 (upd (gA g3 81) 2 (nI 0)) = flG g3 2 L.length from rfl]
              have md4 : MD (flG g3 2 L.length) 2 (flQ (F, L), []) := md3.flush
              have k4 : KL g1 (flG g3 2 L.length) := k3.tr (KL.fl md3.sec)
              have v98 : gA (flG g3 2 L.length) 98 = gA g1 98 := u98
              have v100 : gA (flG g3 2 L.length) 100 = gA g1 100 := u100
              generalize flG g3 2 L.length = g4 at md4 k4 v98 v100 ⊢
              generalize nI (wct (fun k => gA g3 78 (60 * 2 + k)) L.length) = x3
              refine a_istore_n (pc := 118) (ls' := [_, _, _, _, _, _]) dX11_moment_118 (Nat.le_of_ble_eq_true rfl) rfl ?_
              refine a_iconst (pc := 119) (nI 0) dX11_moment_119 (by decide) ?_
              refine a_istore (pc := 120) (ls' := [_, _, _, _, _, _]) dX11_moment_120 (Nat.le_of_ble_eq_true rfl) rfl ?_
              have cames : ∀ t3 k, 3 = k + t3 → ∀ (cm : Nat → Int64) , (∀ j, j < k → cm j = camQ F store (gA g 82) j) → AW mX11_moment X Q ad 0 0 (conc (SS kd kp rp) (pL g4 102 cm)) 122 [some (.ref 76), some (.int (nI store)), some (.int (nI i)), some (.int x3), some (.int (nI k)), w5] [] := by
                intro t3
                induction t3 with
                | zero =>
                  intro k hk3 cm hcm
                  obtain rfl : k = 3 := by omega
                  have k5 : KL g1 (pL g4 102 cm) := k4.tr (KL.p102 _)
                  have hr5 : RpM (pL g4 102 cm) (momF A (fSt q) store (gA g 82) su be r0 i) := hr1.keep v98 v100
                  have hcm' : ∀ k, k < 3 → gL (pL g4 102 cm) 102 k = camQ (fSt q i) store (gA g 82) k := fun k hk => by
                    rw [gL_pL, if_pos rfl, hcm k hk]
                    exact camQ_congr hFq _ _ hk
                  have hrg : rgt (gL (pL g4 102 cm) 97) (gL (pL g4 102 cm) 102) su be ↔ rgtP A (camQ (fSt q i) store (gA g 82)) su be := by
                    have e : gL (pL g4 102 cm) 97 = gL g 97 := (k5.2.2.1 97 (by decide)).trans e97
                    constructor
                    · rintro ⟨n, z1, z2, z3⟩
                      exact ⟨n, z1, z2, fun k hk => by rw [← hD n k (by omega) hk, ← e, z3 k hk, hcm' k hk]⟩
                    · rintro ⟨n, z1, z2, z3⟩
                      exact ⟨n, z1, z2, fun k hk => by rw [e, hD n k (by omega) hk, z3 k hk, hcm' k hk]⟩
                  refine a_iload (pc := 122) dX11_moment_122 rfl ?_
                  refine a_iconst (pc := 124) (nI 3) dX11_moment_124 (by decide) ?_
                  refine a_icmp_geN (pc := 125) 149 dX11_moment_125 (by decide) (by omega) (by omega) (fun c3 => ?_) (fun c3 => ?_)
                  · refine a_aload_n (pc := 149) dX11_moment_149 rfl ?_
                    refine a_V0i (pc := 150) 10 dX11_moment_150 lcX11_isRight lX11_238 rfl rfl rfl (fit_of hR (by omega) rfl) (c_isRight (d0 := d0) su be ((k5.2.1 76 32 (by decide)).trans e32) ((k5.2.1 76 33 (by decide)).trans e33) (by omega) hsu) rfl rfl (fun rr S' g' hS hp => ?_)
                    obtain ⟨rfl, rb, rfl, rfl, hrb⟩ := hp
                    rw [hrg] at hrb
                    refine a_if_eqB (pc := 153) 159 dX11_moment_153 (by decide) (fun c4 => ?_) (fun c4 => ?_)
                    · have hno : ¬ rgtP A (camQ (fSt q i) store (gA g 82)) su be := fun z => absurd ((hrb.mpr z).symm.trans c4) (by decide)
                      refine c_moment_bad (dd := d0 + 4) hR store i su be (momF A (fSt q) store (gA g 82) su be r0 i) (camQ (fSt q i) store (gA g 82)) hr5 (by omega) (by rw [t1 0 (by decide)]; omega) (by omega) ((k5.2.1 76 32 (by decide)).trans e32) ((k5.2.1 76 33 (by decide)).trans e33) hcm' _ _ _ (fun g6 w4 w5 k6 hr6 => ?_)
                      refine a_iinc (pc := 301) (ls' := [_, _, _, _, _, _]) (nI 1) dX11_moment_301 (by decide) rfl (Nat.le_of_ble_eq_true rfl) rfl ?_
                      try rw [nI_add]
                      refine a_goto (pc := 304) 12 dX11_moment_304 (by decide) ?_
                      refine ih (i + 1) (by omega) g6 _ _ _ (hk.tr (k5.tr k6)) ?_
                      rw [momF, if_neg hno, ← t1 0 (by decide)]
                      exact hr6
                    · refine a_goto (pc := 156) 301 dX11_moment_156 (by decide) ?_
                      refine a_iinc (pc := 301) (ls' := [_, _, _, _, _, _]) (nI 1) dX11_moment_301 (by decide) rfl (Nat.le_of_ble_eq_true rfl) rfl ?_
                      try rw [nI_add]
                      refine a_goto (pc := 304) 12 dX11_moment_304 (by decide) ?_
                      refine ih (i + 1) (by omega) _ _ _ _ (hk.tr k5) ?_
                      rw [momF, if_pos (hrb.mp c4)]
                      exact hr5
                  · exact absurd c3 (by omega)
                | succ t3 ih3 =>
                  intro k hk3 cm hcm
                  refine a_iload (pc := 122) dX11_moment_122 rfl ?_
                  refine a_iconst (pc := 124) (nI 3) dX11_moment_124 (by decide) ?_
                  refine a_icmp_geN (pc := 125) 149 dX11_moment_125 (by decide) (by omega) (by omega) (fun c3 => ?_) (fun c3 => ?_)
                  · exact absurd c3 (by omega)
                  · refine a_aload_n (pc := 128) dX11_moment_128 rfl ?_
                    refine a_gr (pc := 129) dX11_moment_129 fX11_92 rfl ?_
                    refine a_iload (pc := 132) dX11_moment_132 rfl ?_
                    refine a_aload_n (pc := 134) dX11_moment_134 rfl ?_
                    refine a_iconst (pc := 135) (nI 2) dX11_moment_135 (by decide) ?_
                    refine a_iload_n (pc := 136) dX11_moment_136 rfl ?_
                    refine a_iload (pc := 137) dX11_moment_137 rfl ?_
                    have md5 : MD (pL g4 102 cm) 2 (flQ (F, L), []) := md4
                    refine a_V3l (pc := 139) 10 dX11_moment_139 lcX11_keyOf lX11_210 rfl rfl rfl (fit_of hR (by omega) rfl) (c_keyOf (d0 := d0 + 1) 2 store k 0 (by decide) hst (by omega) md5.1 (by decide)) rfl rfl (ex_l ?_)
                    have ek : (keyA (gA (pL g4 102 cm) 77) (gA (pL g4 102 cm) 78) (gA (pL g4 102 cm) 79) (gA (pL g4 102 cm) 80) 2 store k 0) = camQ F store (gA g 82) k := by
                      have := md5.key store (k := k) (by omega)
                      rw [hLe] at this
                      exact this
                    rw [ek]
                    refine a_lst (pc := 142) _ dX11_moment_142 rfl rfl (by omega) ?_
                    refine a_iinc (pc := 143) (ls' := [_, _, _, _, _, _]) (nI 1) dX11_moment_143 (by decide) rfl (Nat.le_of_ble_eq_true rfl) rfl ?_
                    try rw [nI_add]
                    refine a_goto (pc := 146) 122 dX11_moment_146 (by decide) ?_
                    simp only [gF_pF, gF_pA, gF_pL, gA_pF, gA_pA, gA_pL, gL_pF, gL_pA, gL_pL, reduceIte, Nat.reduceEqDiff, and_false, false_and, and_true, true_and, and_self]
                    rw [pL_pL]
                    refine ih3 (k + 1) (by omega) _ (fun j hj => ?_)
                    simp only [vp_updL]
                    by_cases z : j = k
                    · rw [if_pos z, z]
                    · rw [if_neg z]
                      exact hcm j (by omega)
              have h9 := cames 3 0 (by omega) (gL g4 102) (fun j h => absurd h (by omega))
              rw [pL_self] at h9
              exact h9
            · exact absurd c2 (by omega)
          | succ t2 ih2 =>
            intro k hk2 w4
            have hx : L[k]? = some L[k] := List.getElem?_eq_getElem (by omega)
            generalize L[k] = x at hx
            have hlen : (L.take k).length = k := by rw [List.length_take]; omega
            refine a_iload_n (pc := 74) dX11_moment_74 rfl ?_
            refine a_aload_n (pc := 75) dX11_moment_75 rfl ?_
            refine a_gi (pc := 76) dX11_moment_76 fX11_188 rfl ?_
            rw [pushL_F 2 76 21 (by decide), plA_21]
            refine a_icmp_geN (pc := 79) 113 dX11_moment_79 (by decide) (by omega) (by omega) (fun c2 => ?_) (fun c2 => ?_)
            · exact absurd c2 (by omega)
            · refine a_aload_n (pc := 82) dX11_moment_82 rfl ?_
              refine a_iconst (pc := 83) (nI 2) dX11_moment_83 (by decide) ?_
              refine a_aload_n (pc := 84) dX11_moment_84 rfl ?_
              refine a_gr (pc := 85) dX11_moment_85 fX11_55 rfl ?_
              refine a_iload_n (pc := 88) dX11_moment_88 rfl ?_
              refine a_ial (pc := 89) _ dX11_moment_89 rfl rfl (by omega) ?_
              rw [pushL_A 2 90 (by decide), show gA (plA g2 L) 90 k = x.1 from wrL_at (pr := fun x => x.1) hx]
              refine a_aload_n (pc := 90) dX11_moment_90 rfl ?_
              refine a_gr (pc := 91) dX11_moment_91 fX11_58 rfl ?_
              refine a_iload_n (pc := 94) dX11_moment_94 rfl ?_
              refine a_ial (pc := 95) _ dX11_moment_95 rfl rfl (by omega) ?_
              rw [pushL_A 2 91 (by decide), show gA (plA g2 L) 91 k = x.2.1 from wrL_at (pr := fun x => x.2.1) hx]
              refine a_aload_n (pc := 96) dX11_moment_96 rfl ?_
              refine a_gr (pc := 97) dX11_moment_97 fX11_61 rfl ?_
              refine a_iload_n (pc := 100) dX11_moment_100 rfl ?_
              refine a_ial (pc := 101) _ dX11_moment_101 rfl rfl (by omega) ?_
              rw [pushL_A 2 92 (by decide), show gA (plA g2 L) 92 k = x.2.2 from wrL_at (pr := fun x => x.2.2) hx]
              refine a_V4i (pc := 102) 10 dX11_moment_102 lcX11_push lX11_118 rfl rfl rfl (fit_of hR (by omega) rfl) (c_push (d0 := d0) 2 x.1 x.2.1 x.2.2 (0 + k) (by decide) (by have := pushL_81 2 (L.take k) (plA g2 L) 0 mdp.1; rw [hlen] at this; exact this) (by omega)) rfl rfl (ex_i ?_)
              refine a_istore (pc := 105) (ls' := [_, _, _, _, _, _]) dX11_moment_105 (Nat.le_of_ble_eq_true rfl) rfl ?_
              refine a_iinc (pc := 107) (ls' := [_, _, _, _, _, _]) (nI 1) dX11_moment_107 (by decide) rfl (Nat.le_of_ble_eq_true rfl) rfl ?_
              try rw [nI_add]
              refine a_goto (pc := 110) 74 dX11_moment_110 (by decide) ?_
              have e : pushG (pushL (plA g2 L) 2 0 (L.take k)) 2 x.1 x.2.1 x.2.2 (0 + k) = pushL (plA g2 L) 2 0 (L.take (k + 1)) := by
                rw [List.take_add_one, hx, Option.toList_some, pushL_add, hlen]
              rw [e]
              exact ih2 (k + 1) (by omega) _
        exact pushes L.length 0 (by omega) _
      have copy : ∀ t2 p, 32 = p + t2 → ∀ P : Nat → Int32, (∀ x, x < p → P (64 + x) = St (32 * o i + x)) → (∀ x, x < 64 → P x = gA g1 77 x) → AW mX11_moment X Q ad 0 0 (conc (SS kd kp rp) (pA g1 77 P)) 22 [some (.ref 76), some (.int (nI store)), some (.int (nI i)), some (.int (nI p)), w4, w5] [] := by
        intro t2
        induction t2 with
        | zero =>
          intro p hp P h1 h2
          obtain rfl : p = 32 := by omega
          refine a_iload_n (pc := 22) dX11_moment_22 rfl ?_
          refine a_bipush (pc := 23) (nI 32) dX11_moment_23 (by decide) ?_
          refine a_icmp_geN (pc := 25) 59 dX11_moment_25 (by decide) (by omega) (by omega) (fun c2 => ?_) (fun c2 => ?_)
          · exact risen P h1 h2
          · exact absurd c2 (by omega)
        | succ t2 ih2 =>
          intro p hp P h1 h2
          refine a_iload_n (pc := 22) dX11_moment_22 rfl ?_
          refine a_bipush (pc := 23) (nI 32) dX11_moment_23 (by decide) ?_
          refine a_icmp_geN (pc := 25) 59 dX11_moment_25 (by decide) (by omega) (by omega) (fun c2 => ?_) (fun c2 => ?_)
          · exact absurd c2 (by omega)
          · refine a_aload_n (pc := 28) dX11_moment_28 rfl ?_
            refine a_gr (pc := 29) dX11_moment_29 fX11_7 rfl ?_
            refine a_bipush (pc := 32) (nI 64) dX11_moment_32 (by decide) ?_
            refine a_iload_n (pc := 34) dX11_moment_34 rfl ?_
            refine a_iadd (pc := 35) dX11_moment_35 ?_
            try rw [nI_add]
            refine a_aload_n (pc := 36) dX11_moment_36 rfl ?_
            refine a_gr (pc := 37) dX11_moment_37 fX11_37 rfl ?_
            refine a_bipush (pc := 40) (nI 32) dX11_moment_40 (by decide) ?_
            refine a_aload_n (pc := 42) dX11_moment_42 rfl ?_
            refine a_gr (pc := 43) dX11_moment_43 fX11_40 rfl ?_
            refine a_iload_n (pc := 46) dX11_moment_46 rfl ?_
            refine a_ial (pc := 47) _ dX11_moment_47 rfl rfl (by omega) ?_
            rw [show gA (pA g1 77 P) 85 i = nI (o i) by rw [gA_pA, if_neg (by decide), e85]; exact ho1]
            refine a_imul (pc := 48) dX11_moment_48 ?_
            try rw [pk_mul]
            refine a_iload_n (pc := 49) dX11_moment_49 rfl ?_
            refine a_iadd (pc := 50) dX11_moment_50 ?_
            try rw [nI_add]
            refine a_ial (pc := 51) _ dX11_moment_51 rfl rfl (by omega) ?_
            rw [show gA (pA g1 77 P) 84 (32 * o i + p) = St (32 * o i + p) by rw [gA_pA, if_neg (by decide), e84]]
            refine a_ast (pc := 52) _ dX11_moment_52 rfl rfl (by omega) ?_
            refine a_iinc (pc := 53) (ls' := [_, _, _, _, _, _]) (nI 1) dX11_moment_53 (by decide) rfl (Nat.le_of_ble_eq_true rfl) rfl ?_
            try rw [nI_add]
            refine a_goto (pc := 56) 22 dX11_moment_56 (by decide) ?_
            simp only [gF_pF, gF_pA, gF_pL, gA_pF, gA_pA, gA_pL, gL_pF, gL_pA, gL_pL, reduceIte, Nat.reduceEqDiff, and_false, false_and, and_true, true_and, and_self]
            rw [pA_pA]
            refine ih2 (p + 1) (by omega) _ (fun x hx => ?_) (fun x hx => ?_)
            · simp only [upd]
              by_cases z : x = p
              · rw [if_pos (by omega), z]
              · rw [if_neg (by omega)]
                exact h1 x (by omega)
            · simp only [upd]
              rw [if_neg (by omega)]
              exact h2 x hx
      have h9 := copy 32 0 (by omega) (gA g1 77) (fun x h => absurd h (by omega)) (fun _ _ => rfl)
      rw [pA_self] at h9
      exact h9
  exact states N 0 (by omega) _ _ _ _ (KL.rf _) (hr.keep rfl rfl)
