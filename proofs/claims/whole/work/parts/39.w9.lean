set_option maxHeartbeats 1000000 in
set_option maxRecDepth 100000 in
theorem c_goAct {d0 kd kp rp : Nat} {g : GH} (store n su c : Nat) (A : List Ac) (a : Ac) (q : Qd) (r0 : Rp) (hst : store < 3) (hA : MSc g A) (ha : A[n]? = some a) (hq : MD g 1 q) (hD : ∀ n k, n ≤ A.length → k < 3 → gL g 97 (3 * n + k) = dueP A n k) (hsu : su ≤ n) (h32 : gF g 76 32 = nI su) (hr : RpM g r0) (hb : RpN c r0) (hc : c ≤ 900) : ACi mX11_goThroughAct (d0 + 6) (SS kd kp rp) g [.ref 76, .int (nI store), .int (nI n)] (fun r S' g' => S' = SS kd kp rp ∧ ∃ b : Bool, r = bI b ∧ KG g g' ∧ gL g' 97 = gL g 97 ∧ (b = true → ∃ su' w', actO A store (gA g 82) n a su (q, r0) = some (su', w') ∧ MD g' 1 w'.1 ∧ RpM g' w'.2 ∧ gF g' 76 32 = nI su' ∧ su' ≤ n + 1) ∧ (b = false → actO A store (gA g 82) n a su (q, r0) = none)) := by
  obtain ⟨hA1, hA2, hA3⟩ := hA
  obtain ⟨hok, b1, b2, b3⟩ := hA3 n a ha
  have hn : n < A.length := (List.getElem?_eq_some_iff.mp ha).1
  have ha3 := hok.1
  refine ACz.of lcX11_goThroughAct rfl rfl (fun X Q ad hR ret => ?_)
  refine AW_ls (ls' := [_, _, _, _, _]) rfl ?_
  refine a_aload_n (pc := 0) dX11_goThroughAct_0 rfl ?_
  refine a_iload_n (pc := 1) dX11_goThroughAct_1 rfl ?_
  refine a_iconst (pc := 2) (nI 1) dX11_goThroughAct_2 (by decide) ?_
  refine a_iadd (pc := 3) dX11_goThroughAct_3 ?_
  try rw [nI_add]
  refine a_pi (pc := 4) dX11_goThroughAct_4 fX11_235 rfl ?_
  obtain ⟨g1, hg1⟩ : ∃ g1, g1 = pF g 76 33 (nI (n + 1)) := ⟨_, rfl⟩
  have kg1 : KG g g1 := by rw [hg1]; exact KG.f33 _ _
  rw [← hg1]
  have m1 : MD g1 1 q := by rw [hg1]; exact hq
  have f32 : gF g1 76 32 = nI su := by rw [hg1]; exact h32
  have f33 : gF g1 76 33 = nI (n + 1) := by rw [hg1]; rfl
  have r1 : RpM g1 r0 := by rw [hg1]; exact hr.keep rfl rfl
  have l97 : gL g1 97 = gL g 97 := by rw [hg1]; rfl
  have l96 : gL g1 96 = gL g 96 := by rw [hg1]; rfl
  have a82 : gA g1 82 = gA g 82 := by rw [hg1]; rfl
  have a93 : gA g1 93 n = nI a.1 := by rw [hg1]; exact b1
  have a94 : gA g1 94 = gA g 94 := by rw [hg1]; rfl
  have a95 : gA g1 95 = gA g 95 := by rw [hg1]; rfl
  clear hg1
  refine a_aload_n (pc := 7) dX11_goThroughAct_7 rfl ?_
  refine a_gr (pc := 8) dX11_goThroughAct_8 fX11_64 rfl ?_
  refine a_iload_n (pc := 11) dX11_goThroughAct_11 rfl ?_
  refine a_ial (pc := 12) _ dX11_goThroughAct_12 rfl rfl (by omega) ?_
  rw [a93]
  refine a_iconst (pc := 13) (nI 2) dX11_goThroughAct_13 (by decide) ?_
  refine a_icmp_neN (pc := 14) 46 dX11_goThroughAct_14 (by decide) (by omega) (by omega) (fun c1 => ?_) (fun c1 => ?_)
  · refine a_aload_n (pc := 46) dX11_goThroughAct_46 rfl ?_
    refine a_gr (pc := 47) dX11_goThroughAct_47 fX11_64 rfl ?_
    refine a_iload_n (pc := 50) dX11_goThroughAct_50 rfl ?_
    refine a_ial (pc := 51) _ dX11_goThroughAct_51 rfl rfl (by omega) ?_
    rw [a93]
    have fin : ∀ (L : List En) (w3 w4 : Option Value), L = actL store (gA g 82) a q → AW mX11_goThroughAct X Q ad 0 0 (conc (SS kd kp rp) (plA g1 L)) 110 [some (.ref 76), some (.int (nI store)), some (.int (nI n)), w3, w4] [] := by
      intro L w3 w4 hL
      refine c_goAct_ch (d0 := d0) hR store n su c A q r0 L (by rw [hL]; exact actL_len _ _ _ _) (by rw [hL]; exact actL_ok hok c1) hst hA2 hn m1 (fun n k hn hk => by rw [l97]; exact hD n k hn hk) hsu f32 f33 r1 hb hc w3 w4 ?_
      intro b pc g' w3 w4 hdec hk h97 e32 e33 hy hno
      rw [a82] at hy hno
      refine ret _ _ pc _ _ hdec rfl (bI_01 _) ?_
      refine ⟨rfl, b, rfl, kg1.tr hk, h97.trans l97, fun z => ?_, fun z => ?_⟩
      · obtain ⟨w', y1, y2, y3⟩ := hy z
        refine ⟨su, w', ?_, y2, y3, e32.trans f32, by omega⟩
        rw [actO, if_neg c1]
        dsimp only
        rw [← hL, y1]
        rfl
      · rw [actO, if_neg c1]
        dsimp only
        rw [← hL, hno z]
        rfl
    refine a_if_neN (pc := 52) 79 dX11_goThroughAct_52 (by decide) (by omega) (fun c2 => ?_) (fun c2 => ?_)
    · have c3 : a.1 = 1 := by omega
      obtain ⟨e1, e2⟩ := b3 c3
      obtain ⟨o1, o2, o3⟩ := hok.2.2 c3
      refine a_aload_n (pc := 79) dX11_goThroughAct_79 rfl ?_
      refine a_iconst (pc := 80) (nI 1) dX11_goThroughAct_80 (by decide) ?_
      refine a_iload_n (pc := 81) dX11_goThroughAct_81 rfl ?_
      refine a_aload_n (pc := 82) dX11_goThroughAct_82 rfl ?_
      refine a_gr (pc := 83) dX11_goThroughAct_83 fX11_70 rfl ?_
      refine a_iload_n (pc := 86) dX11_goThroughAct_86 rfl ?_
      refine a_ial (pc := 87) _ dX11_goThroughAct_87 rfl rfl (by omega) ?_
      rw [a95, e2]
      refine a_aload_n (pc := 88) dX11_goThroughAct_88 rfl ?_
      refine a_iconst (pc := 89) (nI 1) dX11_goThroughAct_89 (by decide) ?_
      refine a_iload_n (pc := 90) dX11_goThroughAct_90 rfl ?_
      refine a_aload_n (pc := 91) dX11_goThroughAct_91 rfl ?_
      refine a_gr (pc := 92) dX11_goThroughAct_92 fX11_67 rfl ?_
      refine a_iload_n (pc := 95) dX11_goThroughAct_95 rfl ?_
      refine a_ial (pc := 96) _ dX11_goThroughAct_96 rfl rfl (by omega) ?_
      rw [a94, e1]
      refine a_V3l (pc := 97) 10 dX11_goThroughAct_97 lcX11_keyOf lX11_210 rfl rfl rfl (fit_of hR (by omega) rfl) (c_keyOf (d0 := d0 + 2) 1 store a.2.1 q.2.length (by decide) hst o1 m1.1 m1.2.1) rfl rfl (ex_l ?_)
      rw [m1.key store o1]
      refine a_aload_n (pc := 100) dX11_goThroughAct_100 rfl ?_
      refine a_gr (pc := 101) dX11_goThroughAct_101 fX11_67 rfl ?_
      refine a_iload_n (pc := 104) dX11_goThroughAct_104 rfl ?_
      refine a_ial (pc := 105) _ dX11_goThroughAct_105 rfl rfl (by omega) ?_
      rw [a94, e1]
      refine a_lconst (pc := 106) 0 dX11_goThroughAct_106 (by decide) ?_
      refine a_V6v (pc := 107) 10 dX11_goThroughAct_107 lcX11_planChange lX11_214 rfl rfl rfl (fit_of hR (by omega) rfl) (c_planChange (d0 := d0 + 1) 1 store a.2.2.1 q.2.length (keyQ q store a.2.1) (some a.2.1) (by decide) hst o2 (fun l hl => by cases hl; exact o1) m1.1 m1.2.1) rfl rfl (ex_v ?_)
      rw [m1.chg, a82]
      refine fin _ _ _ ?_
      rw [actL, if_neg c2]
    · obtain ⟨e1, e2⟩ := b2 c2
      have o1 := hok.2.1 c2
      refine a_aload_n (pc := 55) dX11_goThroughAct_55 rfl ?_
      refine a_iconst (pc := 56) (nI 1) dX11_goThroughAct_56 (by decide) ?_
      refine a_iload_n (pc := 57) dX11_goThroughAct_57 rfl ?_
      refine a_aload_n (pc := 58) dX11_goThroughAct_58 rfl ?_
      refine a_gr (pc := 59) dX11_goThroughAct_59 fX11_67 rfl ?_
      refine a_iload_n (pc := 62) dX11_goThroughAct_62 rfl ?_
      refine a_ial (pc := 63) _ dX11_goThroughAct_63 rfl rfl (by omega) ?_
      rw [a94, e1]
      refine a_aload_n (pc := 64) dX11_goThroughAct_64 rfl ?_
      refine a_gr (pc := 65) dX11_goThroughAct_65 fX11_73 rfl ?_
      refine a_iload_n (pc := 68) dX11_goThroughAct_68 rfl ?_
      refine a_lal (pc := 69) _ dX11_goThroughAct_69 rfl rfl (by omega) ?_
      rw [l96, e2]
      refine a_bipush (pc := 70) (-9) dX11_goThroughAct_70 (by decide) ?_
      refine a_lconst (pc := 72) 0 dX11_goThroughAct_72 (by decide) ?_
      refine a_V6v (pc := 73) 10 dX11_goThroughAct_73 lcX11_planChange lX11_214 rfl rfl rfl (fit_of hR (by omega) rfl) (c_planChange (d0 := d0 + 1) 1 store a.2.1 q.2.length a.2.2.2 none (by decide) hst o1 (fun l hl => by cases hl) m1.1 m1.2.1) rfl rfl (ex_v ?_)
      rw [m1.chg, a82]
      refine a_goto (pc := 76) 110 dX11_goThroughAct_76 (by decide) ?_
      refine fin _ _ _ ?_
      rw [actL, if_pos c2]
  · refine a_aload_n (pc := 17) dX11_goThroughAct_17 rfl ?_
    refine a_iconst (pc := 18) (nI 1) dX11_goThroughAct_18 (by decide) ?_
    refine a_V1i (pc := 19) 10 dX11_goThroughAct_19 lcX11_flushOf lX11_122 rfl rfl rfl (fit_of hR (by omega) rfl) (c_flushOf (d0 := d0) 1 q.2.length (by decide) m1.1 m1.2.1 m1.sec) rfl rfl (ex_i ?_)
    rw [show pA (pA g1 77 (flP (gA g1 78) (gA g1 79) (gA g1 80) 1 (gA g1 77) q.2.length)) 81 (upd (gA g1 81) 1 (nI 0)) = flG g1 1 q.2.length from rfl]
    have m2 : MD (flG g1 1 q.2.length) 1 (flQ q, []) := m1.flush
    have k2 : KB g1 (flG g1 1 q.2.length) := KB.fl m1.sec
    have r2 : RpM (flG g1 1 q.2.length) r0 := r1.keep rfl rfl
    generalize flG g1 1 q.2.length = g2 at m2 k2 r2 ⊢
    refine a_istore_n (pc := 22) (ls' := [_, _, _, _, _]) dX11_goThroughAct_22 (Nat.le_of_ble_eq_true rfl) rfl ?_
    refine a_aload_n (pc := 23) dX11_goThroughAct_23 rfl ?_
    refine a_gr (pc := 24) dX11_goThroughAct_24 fX11_80 rfl ?_
    refine a_iconst (pc := 27) (nI 5) dX11_goThroughAct_27 (by decide) ?_
    refine a_dup2 (pc := 28) dX11_goThroughAct_28 rfl rfl ?_
    refine a_ial (pc := 29) _ dX11_goThroughAct_29 rfl rfl (by omega) ?_
    rw [r2.1 5 (by decide)]
    refine a_iconst (pc := 30) (nI 1) dX11_goThroughAct_30 (by decide) ?_
    refine a_iadd (pc := 31) dX11_goThroughAct_31 ?_
    try rw [nI_add]
    refine a_ast (pc := 32) _ dX11_goThroughAct_32 rfl rfl (by omega) ?_
    refine a_aload_n (pc := 33) dX11_goThroughAct_33 rfl ?_
    refine a_iload_n (pc := 34) dX11_goThroughAct_34 rfl ?_
    refine a_iconst (pc := 35) (nI 1) dX11_goThroughAct_35 (by decide) ?_
    refine a_iadd (pc := 36) dX11_goThroughAct_36 ?_
    try rw [nI_add]
    refine a_pi (pc := 37) dX11_goThroughAct_37 fX11_232 rfl ?_
    refine a_aload_n (pc := 40) dX11_goThroughAct_40 rfl ?_
    refine a_iload_n (pc := 41) dX11_goThroughAct_41 rfl ?_
    have r3 := r2.tick 5 (by decide)
    have b3 := hb.tk3 5 (by decide)
    have k3 : KB g1 (pA g2 98 (upd (gA g2 98) 5 (nI (r0.1 5 + 1)))) := k2.tr (KB.a98 _ _)
    have m3 : MD (pA g2 98 (upd (gA g2 98) 5 (nI (r0.1 5 + 1)))) 1 (flQ q, []) := m2
    generalize pA g2 98 (upd (gA g2 98) 5 (nI (r0.1 5 + 1))) = g3 at r3 k3 m3 ⊢
    have k4 : KG g1 (pF g3 76 32 (nI (n + 1))) := k3.kg.tr (KG.f32 _ _)
    have q32 : gF (pF g3 76 32 (nI (n + 1))) 76 32 = nI (n + 1) := rfl
    have q33 : gF (pF g3 76 32 (nI (n + 1))) 76 33 = nI (n + 1) := (k3.2.1 76 33 (by decide)).trans f33
    have q97 : gL (pF g3 76 32 (nI (n + 1))) 97 = gL g 97 := (k3.2.2.1 97 (by decide)).trans l97
    have q82 : gA (pF g3 76 32 (nI (n + 1))) 82 = gA g 82 := (k4.1 82 (by decide)).trans a82
    have m4 : MD (pF g3 76 32 (nI (n + 1))) 1 (flQ q, []) := m3
    have r4 : RpM (pF g3 76 32 (nI (n + 1))) (tk r0 5) := r3.keep rfl rfl
    generalize pF g3 76 32 (nI (n + 1)) = g4 at k4 q32 q33 q97 q82 m4 r4 ⊢
    refine a_V1i (pc := 42) 10 dX11_goThroughAct_42 lcX11_moment lX11_241 rfl rfl rfl (fit_of hR (by omega) rfl) (c_moment (d0 := d0) store A (flQ q, []) (n + 1) (n + 1) (tk r0 5) hst hA2 m4 (fun n k hn hk => by rw [q97]; exact hD n k hn hk) (by omega) (by omega) q32 q33 r4 (b3.b (by omega)) (by have := b3.1; omega)) rfl rfl (fun rr S' g' hS hp => ?_)
    obtain ⟨rfl, b, rfl, km, hy, hno⟩ := hp
    rw [q82] at hy
    refine ret _ _ 45 _ _ dX11_goThroughAct_45 rfl (by first | exact Or.inl rfl | exact Or.inr rfl | exact bI_01 _) ?_
    refine ⟨rfl, b, rfl, kg1.tr (k4.tr km.kb.kg), (km.2.2.1 97 (by decide)).trans q97, fun z => ?_, fun z => ?_⟩
    · obtain ⟨hf, hr6⟩ := hy z
      refine ⟨n + 1, ((flQ q, []), momP A (flQ q, []) store (gA g 82) (n + 1) (n + 1) (tk r0 5)), ?_, km.md (by decide) m4, hr6, (km.2.1 76 32 (by decide)).trans q32, by omega⟩
      rw [actO, if_pos c1]
      dsimp only
      rw [momO_y hf]
      rfl
    · rw [actO, if_pos c1]
      dsimp only
      rw [momO_n (hno z)]
      rfl
theorem MSc.kg {g g' : GH} {A : List Ac} (h : MSc g A) (k : KG g g') : MSc g' A := by
  unfold MSc at h ⊢
  rw [k.2.1 76 22 (by decide), k.1 93 (by decide), k.1 94 (by decide), k.1 95 (by decide), k.2.2.1 96 (by decide) (by decide)]
  exact h
theorem KG.fm {g : GH} {P : Nat → Int32} (hP : ∀ q, ¬ (32 * 1 ≤ q ∧ q < 32 * 1 + 32) → P q = gA g 77 q) (x : Int32) : KG g (pA (pA g 77 P) 81 (upd (gA g 81) 1 x)) := by
  refine ⟨fun c hc => ?_, fun _ _ _ => rfl, fun _ _ _ => rfl, fun p hp => ?_, fun k hk => ⟨rfl, rfl, rfl⟩, ?_⟩
  · have h : c ≠ 77 ∧ c ≠ 81 := by
      refine ⟨?_, ?_⟩ <;> (rintro rfl; exact hc (by decide))
    simp [gA_pA, h.1, h.2]
  · simp only [gA_pA, reduceIte, Nat.reduceEqDiff]
    exact hP p (by omega)
  · simp [gA_pA, upd]
set_option maxHeartbeats 1000000 in
set_option maxRecDepth 100000 in
theorem c_goThrough {d0 kd kp rp : Nat} {g : GH} (store : Nat) (A : List Ac) (hst : store < 3) (hA : MSc g A) : ACi mX11_goThrough (d0 + 7) (SS kd kp rp) g [.ref 76, .int (nI store)] (fun r S' g' => S' = SS kd kp rp ∧ ∃ b : Bool, r = bI b ∧ KG g g' ∧ (b = true → ∃ rp', walkO A store (gA g 82) = some rp' ∧ RpM g' rp') ∧ (b = false → walkO A store (gA g 82) = none)) := by
  have hA2 := hA.2.1
  have hA1 := hA.1
  refine ACz.of lcX11_goThrough rfl rfl (fun X Q ad hR ret => ?_)
  refine AW_ls (ls' := [_, _, _, _]) rfl ?_
  refine a_iconst (pc := 0) (nI 0) dX11_goThrough_0 (by decide) ?_
  refine a_istore_n (pc := 1) (ls' := [_, _, _, _]) dX11_goThrough_1 (Nat.le_of_ble_eq_true rfl) rfl ?_
  have acts : ∀ t n, A.length = n + t → ∀ (b : Bool) (g3 : GH), KG g g3 → (∀ n k, n ≤ A.length → k < 3 → gL g3 97 (3 * n + k) = dueP A n k) → (b = true → ∃ su w, goO A store (gA g 82) n = some (su, w) ∧ MD g3 1 w.1 ∧ RpM g3 w.2 ∧ gF g3 76 32 = nI su ∧ su ≤ n) → (b = false → goO A store (gA g 82) n = none) → AW mX11_goThrough X Q ad 0 0 (conc (SS kd kp rp) g3) 49 [some (.ref 76), some (.int (nI store)), some (.int (bI b)), some (.int (nI n))] [] := by
    intro t
    induction t with
    | zero =>
      intro n hn b g3 hk3 hD hy hno
      obtain rfl : A.length = n := by omega
      refine a_iload_n (pc := 49) dX11_goThrough_49 rfl ?_
      refine a_aload_n (pc := 50) dX11_goThrough_50 rfl ?_
      refine a_gi (pc := 51) dX11_goThrough_51 fX11_225 rfl ?_
      rw [hk3.2.1 76 22 (by decide), hA1]
      refine a_icmp_geN (pc := 54) 74 dX11_goThrough_54 (by decide) (by omega) (by omega) (fun c1 => ?_) (fun c1 => ?_)
      · refine a_iload_n (pc := 74) dX11_goThrough_74 rfl ?_
        refine ret _ _ 75 _ _ dX11_goThrough_75 rfl (by first | exact Or.inl rfl | exact Or.inr rfl | exact bI_01 _) ?_
        refine ⟨rfl, b, rfl, hk3, fun z => ?_, fun z => ?_⟩
        · obtain ⟨su, w, h1, h2, h3, -⟩ := hy z
          refine ⟨w.2, ?_, h3⟩
          rw [walkO, h1]
          rfl
        · rw [walkO, hno z]
          rfl
      · exact absurd c1 (by omega)
    | succ t ih =>
      intro n hn b g3 hk3 hD hy hno
      have ha : A[n]? = some A[n] := List.getElem?_eq_getElem (by omega)
      generalize A[n] = a at ha
      refine a_iload_n (pc := 49) dX11_goThrough_49 rfl ?_
      refine a_aload_n (pc := 50) dX11_goThrough_50 rfl ?_
      refine a_gi (pc := 51) dX11_goThrough_51 fX11_225 rfl ?_
      rw [hk3.2.1 76 22 (by decide), hA1]
      refine a_icmp_geN (pc := 54) 74 dX11_goThrough_54 (by decide) (by omega) (by omega) (fun c1 => ?_) (fun c1 => ?_)
      · exact absurd c1 (by omega)
      refine a_iload_n (pc := 57) dX11_goThrough_57 rfl ?_
      refine a_if_eqB (pc := 58) 74 dX11_goThrough_58 (by decide) (fun c2 => ?_) (fun c2 => ?_)
      · refine a_iload_n (pc := 74) dX11_goThrough_74 rfl ?_
        refine ret _ _ 75 _ _ dX11_goThrough_75 rfl (by first | exact Or.inl rfl | exact Or.inr rfl | exact bI_01 _) ?_
        refine ⟨rfl, b, rfl, hk3, fun z => absurd (z.symm.trans c2) (by decide), fun z => ?_⟩
        rw [walkO, hn, goO_none _ _ (hno c2)]
        rfl
      · obtain ⟨su, w, h1, h2, h3, h4, h5⟩ := hy c2
        refine a_aload_n (pc := 61) dX11_goThrough_61 rfl ?_
        refine a_iload_n (pc := 62) dX11_goThrough_62 rfl ?_
        refine a_iload_n (pc := 63) dX11_goThrough_63 rfl ?_
        have e82 : gA g3 82 = gA g 82 := hk3.1 82 (by decide)
        refine a_V2i (pc := 64) 10 dX11_goThrough_64 lcX11_goThroughAct lX11_247 rfl rfl rfl (fit_of hR (by omega) rfl) (c_goAct (d0 := d0) store n su (1 + 11 * n) A a w.1 w.2 hst (hA.kg hk3) ha h2 hD h5 h4 h3 (goO_N _ _ _ h1) (by omega)) rfl rfl (fun rr S' g' hS hp => ?_)
        obtain ⟨rfl, b', rfl, k4, e97, hy4, hno4⟩ := hp
        rw [e82] at hy4 hno4
        refine a_istore_n (pc := 67) (ls' := [_, _, _, _]) dX11_goThrough_67 (Nat.le_of_ble_eq_true rfl) rfl ?_
        refine a_iinc (pc := 68) (ls' := [_, _, _, _]) (nI 1) dX11_goThrough_68 (by decide) rfl (Nat.le_of_ble_eq_true rfl) rfl ?_
        try rw [nI_add]
        refine a_goto (pc := 71) 49 dX11_goThrough_71 (by decide) ?_
        refine ih (n + 1) (by omega) b' g' (hk3.tr k4) (fun n k hn hk => by rw [e97]; exact hD n k hn hk) (fun z => ?_) (fun z => ?_)
        · obtain ⟨su', w', y1, y2, y3, y4, y5⟩ := hy4 z
          refine ⟨su', w', ?_, y2, y3, y4, y5⟩
          rw [goO, h1, Option.bind_some, ha]
          exact y1
        · rw [goO, h1, Option.bind_some, ha]
          exact hno4 z
  have clear7 : ∀ t k, 7 = k + t → ∀ f : Nat → Int32, (∀ j, j < k → f j = nI 0) → AW mX11_goThrough X Q ad 0 0 (conc (SS kd kp rp) (pA g 98 f)) 2 [some (.ref 76), some (.int (nI store)), some (.int (nI k)), none] [] := by
    intro t
    induction t with
    | zero =>
      intro k hk f hf
      obtain rfl : k = 7 := by omega
      refine a_iload_n (pc := 2) dX11_goThrough_2 rfl ?_
      refine a_bipush (pc := 3) (nI 7) dX11_goThrough_3 (by decide) ?_
      refine a_icmp_geN (pc := 5) 21 dX11_goThrough_5 (by decide) (by omega) (by omega) (fun c1 => ?_) (fun c1 => ?_)
      · refine a_aload_n (pc := 21) dX11_goThrough_21 rfl ?_
        have hA' : MSc (pA g 98 f) A := hA
        refine a_V0v (pc := 22) 10 dX11_goThrough_22 lcX11_findDue lX11_244 rfl rfl rfl (fit_of hR (by omega) rfl) (c_findDue (d0 := d0) A hA') rfl rfl (fun S' g' hS hp => ?_)
        obtain ⟨rfl, D, rfl, hD⟩ := hp
        refine a_aload_n (pc := 25) dX11_goThrough_25 rfl ?_
        refine a_iconst (pc := 26) (nI 1) dX11_goThrough_26 (by decide) ?_
        refine a_iload_n (pc := 27) dX11_goThrough_27 rfl ?_
        refine a_V2v (pc := 28) 10 dX11_goThrough_28 lcX11_format lX11_167 rfl rfl rfl (fit_of hR (by omega) rfl) (c_format (d0 := d0) 1 store (by decide) hst) rfl rfl (fun S' g' hS hp => ?_)
        obtain ⟨rfl, P, hP1, hP2, rfl⟩ := hp
        refine a_aload_n (pc := 31) dX11_goThrough_31 rfl ?_
        refine a_iconst (pc := 32) (nI 0) dX11_goThrough_32 (by decide) ?_
        refine a_pi (pc := 33) dX11_goThrough_33 fX11_232 rfl ?_
        refine a_aload_n (pc := 36) dX11_goThrough_36 rfl ?_
        refine a_iconst (pc := 37) (nI 0) dX11_goThrough_37 (by decide) ?_
        refine a_pi (pc := 38) dX11_goThrough_38 fX11_235 rfl ?_
        refine a_aload_n (pc := 41) dX11_goThrough_41 rfl ?_
        refine a_iload_n (pc := 42) dX11_goThrough_42 rfl ?_
        obtain ⟨g1, hg1⟩ : ∃ g1, g1 = pF (pF (pA (pA (pL (pA g 98 f) 97 D) 77 P) 81 (upd (gA (pL (pA g 98 f) 97 D) 81) 1 (nI 0))) 76 32 (nI 0)) 76 33 (nI 0) := ⟨_, rfl⟩
        have k1 : KG g g1 := by
          rw [hg1]
          exact ((((KB.a98 g f).kg.tr (KG.l97 _ D)).tr (KG.fm hP2 _)).tr (KG.f32 _ _)).tr (KG.f33 _ _)
        have m1 : MD g1 1 (fmtQ store, []) := by
          rw [hg1]
          refine ⟨by simp [gA_pF, gA_pA, upd], by simp, fun p hp => ?_, fun k hk => absurd hk (by simp), fun k hk => absurd hk (by simp)⟩
          simp only [gA_pF, gA_pA, reduceIte, Nat.reduceEqDiff]
          exact hP1 p hp
        have r1 : RpM g1 (fun _ => 0, []) := by
          rw [hg1]
          refine ⟨fun j hj => ?_, rfl, fun i row h => by cases h⟩
          simp only [gA_pF, gA_pA, gA_pL, reduceIte, Nat.reduceEqDiff]
          exact hf j hj
        have D1 : ∀ n k, n ≤ A.length → k < 3 → gL g1 97 (3 * n + k) = dueP A n k := by
          rw [hg1]
          simp only [gL_pF, gL_pA, gL_pL, reduceIte]
          exact hD
        have q32 : gF g1 76 32 = nI 0 := by rw [hg1]; rfl
        have q33 : gF g1 76 33 = nI 0 := by rw [hg1]; rfl
        have q82 : gA g1 82 = gA g 82 := by rw [hg1]; rfl
        rw [← hg1]
        clear hg1
        refine a_V1i (pc := 43) 10 dX11_goThrough_43 lcX11_moment lX11_241 rfl rfl rfl (fit_of hR (by omega) rfl) (c_moment (d0 := d0 + 1) store A (fmtQ store, []) 0 0 (fun _ => 0, []) hst hA2 m1 D1 (by omega) (by omega) q32 q33 r1 ⟨by simp, by simp, by simp, by simp, by simp, by simp, by simp⟩ (by simp)) rfl rfl (fun rr S' g' hS hp => ?_)
        obtain ⟨rfl, b, rfl, km, hy, hno⟩ := hp
        rw [q82] at hy
        refine a_istore_n (pc := 46) (ls' := [_, _, _, _]) dX11_goThrough_46 (Nat.le_of_ble_eq_true rfl) rfl ?_
        refine a_iconst (pc := 47) (nI 0) dX11_goThrough_47 (by decide) ?_
        refine a_istore_n (pc := 48) (ls' := [_, _, _, _]) dX11_goThrough_48 (Nat.le_of_ble_eq_true rfl) rfl ?_
        refine acts A.length 0 (by omega) b g' (k1.tr km.kb.kg) (fun n k hn hk => by rw [km.2.2.1 97 (by decide)]; exact D1 n k hn hk) (fun z => ?_) (fun z => ?_)
        · obtain ⟨hf2, hr2⟩ := hy z
          refine ⟨0, ((fmtQ store, []), momP A (fmtQ store, []) store (gA g 82) 0 0 (fun _ => 0, [])), ?_, km.md (by decide) m1, hr2, (km.2.1 76 32 (by decide)).trans q32, Nat.le_refl _⟩
          rw [goO, momO_y hf2]
          rfl
        · rw [goO, momO_n (hno z)]
          rfl
      · exact absurd c1 (by omega)
    | succ t ih =>
      intro k hk f hf
      refine a_iload_n (pc := 2) dX11_goThrough_2 rfl ?_
      refine a_bipush (pc := 3) (nI 7) dX11_goThrough_3 (by decide) ?_
      refine a_icmp_geN (pc := 5) 21 dX11_goThrough_5 (by decide) (by omega) (by omega) (fun c1 => ?_) (fun c1 => ?_)
      · exact absurd c1 (by omega)
      · refine a_aload_n (pc := 8) dX11_goThrough_8 rfl ?_
        refine a_gr (pc := 9) dX11_goThrough_9 fX11_80 rfl ?_
        refine a_iload_n (pc := 12) dX11_goThrough_12 rfl ?_
        refine a_iconst (pc := 13) (nI 0) dX11_goThrough_13 (by decide) ?_
        refine a_ast (pc := 14) _ dX11_goThrough_14 rfl rfl (by omega) ?_
        refine a_iinc (pc := 15) (ls' := [_, _, _, _]) (nI 1) dX11_goThrough_15 (by decide) rfl (Nat.le_of_ble_eq_true rfl) rfl ?_
        try rw [nI_add]
        refine a_goto (pc := 18) 2 dX11_goThrough_18 (by decide) ?_
        simp only [gF_pF, gF_pA, gF_pL, gA_pF, gA_pA, gA_pL, gL_pF, gL_pA, gL_pL, reduceIte, Nat.reduceEqDiff, and_false, false_and, and_true, true_and, and_self]
        rw [pA_pA]
        refine ih (k + 1) (by omega) _ (fun j hj => ?_)
        simp only [upd]
        by_cases z : j = k
        · rw [if_pos z]
        · rw [if_neg z]
          exact hf j (by omega)
  have h0 := clear7 7 0 (by omega) (gA g 98) (fun j h => absurd h (by omega))
  rw [pA_self] at h0
  exact h0
