/-! the states of a disc, as the class has them -/
def Eq1 (q : Qd) : Nat := max (epc (qS q.2) q.2.length) 1
def PlD (b : Nat) (g : GH) (L E : Nat) (op s lv : Nat → Nat) (P : Nat → Int32) : Prop := (gF g b 12 = -1 ∧ PrJ b g L (2 ^ E - 1) op lv P (fun _ => 0) 0) ∨ ∃ i0, gF g b 12 = nI i0 ∧ i0 < 4096 ∧ PosD b g L E op s lv P i0
def LvD (b : Nat) (g : GH) (q : Qd) (L : Nat) (op s : Nat → Nat) : Prop := StD b g L (Eq1 q) op s (lvg b g) ∧ AlD b g L (Eq1 q) s (lvg b g) ∧ LvOk (fun e p v => inA q.1 (qS q.2) (qO q.2) (qT q.2) q.2.length e p v) (Eq1 q) q.1 (gA g (b + 4)) op s (lvg b g) L ∧ NeD L (Eq1 q) s (lvg b g) ∧ gF g b 11 = nI (min 4097 (ct s (lvg b g) L 0 (2 ^ Eq1 q - 1)))
def StOk (b : Nat) (g : GH) (q : Qd) : Prop := ∃ L op s, LvD b g q L op s ∧ PlD b g L (Eq1 q) op s (lvg b g) q.1
theorem LvD.enu {b : Nat} {g : GH} {q : Qd} {L : Nat} {op s : Nat → Nat} (h : LvD b g q L op s) : (FitQ q ↔ ct s (lvg b g) L 0 (2 ^ Eq1 q - 1) ≤ 4096) ∧ (FitQ q → nSt q = ct s (lvg b g) L 0 (2 ^ Eq1 q - 1)) ∧ ∀ i, PosD b g L (Eq1 q) op s (lvg b g) q.1 i → FitQ q → ∀ p, p < 32 → gA g (b + 1) p = fSt q i p := by
  obtain ⟨hD, hA, hL, hN, hc⟩ := h
  obtain ⟨F, hF, hJ⟩ := hL.enu
  have hF : Enu (stQ q) (ct s (lvg b g) L 0 (2 ^ Eq1 q - 1)) F := hF
  have h1 : FitQ q → ct s (lvg b g) L 0 (2 ^ Eq1 q - 1) ≤ 4096 := by
    rintro ⟨N, F', h1, h2⟩
    have := h1.num hF
    omega
  refine ⟨⟨h1, fun z => (FitQ.is hF z).1⟩, fun z => ((FitQ.is hF (h1 z)).2.1).symm, fun i hp hq p hp32 => ?_⟩
  obtain ⟨J, j1, j2, j3, j4⟩ := hp
  rw [j4.con hL.2.1 p hp32, hJ J j1 j2 p hp32, j3]
  have hi := rk_lt j1 j2
  exact (FitQ.is hF (h1 hq)).2.2 i (by omega) p hp32
theorem StOk.cnt {b : Nat} {g : GH} {q : Qd} (h : StOk b g q) : (FitQ q → gF g b 11 = nI (nSt q) ∧ nSt q ≤ 4096) ∧ (¬ FitQ q → gF g b 11 = nI 4097) := by
  obtain ⟨L, op, s, hL, -⟩ := h
  obtain ⟨h1, h2, -⟩ := hL.enu
  refine ⟨fun z => ?_, fun z => ?_⟩
  · rw [hL.2.2.2.2, h2 z, Nat.min_eq_right (by have := h1.mp z; omega)]
    exact ⟨rfl, h1.mp z⟩
  · rw [hL.2.2.2.2, Nat.min_eq_left (by
      have : ¬ ct s (lvg b g) L 0 (2 ^ Eq1 q - 1) ≤ 4096 := fun y => z (h1.mpr y)
      omega)]
theorem StOk.keep {b : Nat} {g g' : GH} {q : Qd} (h : StOk b g q) (e : ∀ k, k ≠ 13 → gF g' b k = gF g b k) (e1 : gA g' (b + 1) = gA g (b + 1)) (e2 : gA g' (b + 2) = gA g (b + 2)) (e3 : gA g' (b + 3) = gA g (b + 3)) (e4 : gA g' (b + 4) = gA g (b + 4)) (e5 : gA g' (b + 5) = gA g (b + 5)) (e6 : gA g' (b + 6) = gA g (b + 6)) (e7 : gA g' (b + 7) = gA g (b + 7)) (e8 : gA g' (b + 8) = gA g (b + 8)) : StOk b g' q := by
  have el : lvg b g' = lvg b g := funext fun j => by unfold lvg; rw [e5]
  obtain ⟨L, op, s, h1, h2⟩ := h
  refine ⟨L, op, s, ?_, ?_⟩
  · unfold LvD StD AlD at h1 ⊢
    rw [e 8 (by decide), e 10 (by decide), e 11 (by decide), e2, e3, e4, e5, e6, el]
    exact h1
  · unfold PlD PosD PrJ at h2 ⊢
    rw [e 12 (by decide), e1, e4, e7, e8, el]
    exact h2
theorem StOk.fr {b : Nat} {g g' : GH} {q : Qd} {A : List Nat} (h : StOk b g q) (f : Fr A g g') (hA : ∀ i, i < 9 → b + i ∉ A) : StOk b g' q := h.keep (fun k _ => f.f (hA 0 (by decide)) k) (f.a (hA 1 (by decide))) (f.a (hA 2 (by decide))) (f.a (hA 3 (by decide))) (f.a (hA 4 (by decide))) (f.a (hA 5 (by decide))) (f.a (hA 6 (by decide))) (f.a (hA 7 (by decide))) (f.a (hA 8 (by decide)))
theorem NeD.of {In : Nat → Nat → Int32 → Prop} {E : Nat} {P iv : Nat → Int32} {op s lv : Nat → Nat} {L : Nat} (h : LvOk In E P iv op s lv L) (hex : ∀ e p, ∃ v, In e p v) : NeD L E s lv := by
  intro l hl c hc hcl
  obtain ⟨e, hb⟩ := Nat.exists_testBit_of_ne_zero hc
  have he : e < E := by
    rcases Nat.lt_or_ge e E with z | z
    · exact z
    · have := Nat.testBit_lt_two_pow (x := c) (i := e) (by
        have h1 : 2 ^ E ≤ 2 ^ e := Nat.pow_le_pow_right (by decide) z
        have h2 := Nat.two_pow_pos E
        omega)
      rw [this] at hb
      cases hb
  obtain ⟨v, hv⟩ := hex e (op l)
  obtain ⟨j, j1, j2, -, j4⟩ := (h.2.2.2.1 l hl e he v).mp hv
  refine ⟨j, j1, j2, fun z => ?_⟩
  have : (c &&& lv j).testBit e = true := by rw [Nat.testBit_and, hb, j4]; rfl
  rw [z, Nat.zero_testBit] at this
  cases this
/-- what is kept between calls: -1, or an edit that was seen -/
def SeD (b d : Nat) (g : GH) (q : Qd) (Ed : Nat) : Prop := gF g d 12 = nI Ed ∧ gA g (b + 3) 0 = nI 0 ∧ (gF g b 13 = -1 ∨ ∃ e', gF g b 13 = nI e' ∧ e' ≤ Ed ∧ (e' = Ed → StOk b g q))
set_option maxHeartbeats 1000000 in
set_option maxRecDepth 100000 in
theorem c_refresh_8 {d0 kd kp rp : Nat} {g : GH} (q : Qd) (Ed : Nat) (hEd : Ed < 2147483648) (hq : CD 1 g q) (hs : SeD 8 1 g q Ed) : ACv mX9_refresh (d0 + 34) (SS kd kp rp) g [.ref 8, .ref 1] (fun S' g' => S' = SS kd kp rp ∧ StOk 8 g' q ∧ gF g' 8 13 = nI Ed ∧ gA g' 11 0 = nI 0 ∧ Fr [8, 9, 10, 11, 12, 13, 14, 15, 16] g g') := by
  obtain ⟨h12, h30, hse⟩ := hs
  obtain ⟨⟨h6, h60, h7, h8, h9, T, h10, hT, hT2⟩, hpl, -, hen, -⟩ := id hq
  have hep := epc_30 (qS q.2) h60
  have hE1 : 1 ≤ Eq1 q := Nat.le_max_right _ _
  have hE30 : Eq1 q ≤ 30 := Nat.max_le.mpr ⟨hep, by decide⟩
  have hEp : 2 ^ Eq1 q ≤ 2 ^ 30 := Nat.pow_le_pow_right (by decide) hE30
  have hEp1 := Nat.two_pow_pos (Eq1 q)
  refine ACv.of lcX9_refresh rfl rfl (fun X Q ad hR ret => ?_)
  refine AW_ls (ls' := [_, _, _]) rfl ?_
  have new : AW mX9_refresh X Q ad 0 0 (conc (SS kd kp rp) g) 12 [some (.ref 8), some (.ref 1), none] [] := by
    refine a_aload_n (pc := 12) dX9_refresh_12 rfl ?_
    refine a_aload_n (pc := 13) dX9_refresh_13 rfl ?_
    refine a_gi (pc := 14) dX9_refresh_14 fX9_55 rfl ?_
    rw [h12]
    refine a_pi (pc := 17) dX9_refresh_17 fX9_52 rfl ?_
    refine a_aload_n (pc := 20) dX9_refresh_20 rfl ?_
    refine a_iconst (pc := 21) (-1) dX9_refresh_21 (by decide) ?_
    refine a_pi (pc := 22) dX9_refresh_22 fX9_49 rfl ?_
    refine a_aload_n (pc := 25) dX9_refresh_25 rfl ?_
    refine a_iconst (pc := 26) (nI 0) dX9_refresh_26 (by decide) ?_
    refine a_pi (pc := 27) dX9_refresh_27 fX9_36 rfl ?_
    refine a_aload_n (pc := 30) dX9_refresh_30 rfl ?_
    refine a_iconst (pc := 31) (nI 0) dX9_refresh_31 (by decide) ?_
    refine a_pi (pc := 32) dX9_refresh_32 fX9_40 rfl ?_
    refine a_aload_n (pc := 35) dX9_refresh_35 rfl ?_
    refine a_aload_n (pc := 36) dX9_refresh_36 rfl ?_
    refine a_gi (pc := 37) dX9_refresh_37 fX9_60 rfl ?_
    simp only [gF_pF, gF_pA, gF_pL, gA_pF, gA_pA, gA_pL, gL_pF, gL_pA, gL_pL, reduceIte, Nat.reduceEqDiff, and_false, false_and, and_true, true_and, and_self, h8]
    refine a_iconst (pc := 40) (nI 1) dX9_refresh_40 (by decide) ?_
    refine a_mmaxN (pc := 41) dX9_refresh_41 lX9_61 hR (by omega) rfl (by omega) (by omega) ?_
    refine a_bipush (pc := 44) (nI 30) dX9_refresh_44 (by decide) ?_
    have hmx : max (epc (qS q.2) q.2.length) 1 ≤ 30 := hE30
    refine a_mminN (pc := 46) dX9_refresh_46 lX9_67 hR (by omega) rfl (by omega) (by omega) ?_
    rw [Nat.min_eq_left hmx]
    refine a_pi (pc := 49) dX9_refresh_49 fX9_43 rfl ?_
    refine a_iconst (pc := 52) (nI 0) dX9_refresh_52 (by decide) ?_
    refine a_istore_n (pc := 53) (ls' := [_, _, _]) dX9_refresh_53 (Nat.le_of_ble_eq_true rfl) rfl ?_
    generalize hg0 : pF (pF (pF (pF (pF g 8 13 (nI Ed)) 8 12 (-1)) 8 8 (nI 0)) 8 9 (nI 0)) 8 10 (nI (max (epc (qS q.2) q.2.length) 1)) = g0
    have f0 : Fr [8] g g0 := by
      rw [← hg0]
      exact ((((((Fr.rf _ g).sF (by decide) _ _).sF (by decide) _ _).sF (by decide) _ _).sF (by decide) _ _).sF (by decide) _ _)
    have hz13 : gF g0 8 13 = nI Ed := by
      rw [← hg0]
      simp only [gF_pF, gF_pA, gF_pL, gA_pF, gA_pA, gA_pL, gL_pF, gL_pA, gL_pL, reduceIte, Nat.reduceEqDiff, and_false, false_and, and_true, true_and, and_self]
    have hz12 : gF g0 8 12 = -1 := by
      rw [← hg0]
      simp only [gF_pF, gF_pA, gF_pL, gA_pF, gA_pA, gA_pL, gL_pF, gL_pA, gL_pL, reduceIte, Nat.reduceEqDiff, and_false, false_and, and_true, true_and, and_self]
    have r0 : RfI 8 g0 q 0 0 (Eq1 q) (fun _ => 0) (fun _ => 0) := by
      refine ⟨⟨?_, Nat.le_refl _⟩, ?_, ⟨?_, Nat.zero_le _, rfl⟩, fun l hl => absurd hl (by omega), ⟨fun l hl => ?_, fun l hl => absurd hl (by omega)⟩, fun j hj => absurd hj (Nat.not_lt_zero j), fun x y hx hy => absurd hy (by omega), fun l hl => absurd hl (by omega), fun l hl => absurd hl (by omega), fun p' hp' => absurd hp' (by omega), fun p' hp' => absurd hp' (by omega)⟩
      · rw [← hg0]
        simp only [gF_pF, gF_pA, gF_pL, gA_pF, gA_pA, gA_pL, gL_pF, gL_pA, gL_pL, reduceIte, Nat.reduceEqDiff, and_false, false_and, and_true, true_and, and_self]
      · rw [← hg0]
        simp only [gF_pF, gF_pA, gF_pL, gA_pF, gA_pA, gA_pL, gL_pF, gL_pA, gL_pL, reduceIte, Nat.reduceEqDiff, and_false, false_and, and_true, true_and, and_self]
        rfl
      · rw [← hg0]
        simp only [gF_pF, gF_pA, gF_pL, gA_pF, gA_pA, gA_pL, gL_pF, gL_pA, gL_pL, reduceIte, Nat.reduceEqDiff, and_false, false_and, and_true, true_and, and_self]
      · rw [show l = 0 by omega, f0.a (by decide)]
        exact h30
    have fin : ∀ (g1 : GH) (L : Nat) (op s : Nat → Nat) (y2 : Int32), RfI 8 g1 q 32 L (Eq1 q) op s → Fr [8, 9, 10, 11, 12, 13] g g1 → gF g1 8 13 = nI Ed → gF g1 8 12 = -1 → AW mX9_refresh X Q ad 0 0 (conc (SS kd kp rp) g1) 97 [some (.ref 8), some (.ref 1), some (.int y2)] [] := by
      intro g1 L op s y2 hr hfr e13 e12
      obtain ⟨r1, r2, r3, r4, r5, r6, r7, r8, r9, r10, r11⟩ := hr
      have hbd := bdP_le (qS q.2) h60 (Nat.le_refl 32)
      have hD : StD 8 g1 L (Eq1 q) op s (lvg 8 g1) := ⟨r1, ⟨r2, hE1, hE30⟩, fun l hl => r4 l hl, r5.1, ⟨by omega, r5.2⟩, r6⟩
      have hL : LvOk (fun e p v => inA q.1 (qS q.2) (qO q.2) (qT q.2) q.2.length e p v) (Eq1 q) q.1 (gA g1 (8 + 4)) op s (lvg 8 g1) L := ⟨fun l hl => (r4 l hl).2, r7, r8, r9, r10⟩
      have hN : NeD L (Eq1 q) s (lvg 8 g1) := NeD.of hL (fun e p => ⟨_, Or.inl rfl⟩)
      refine a_aload_n (pc := 97) dX9_refresh_97 rfl ?_
      refine a_V0v (pc := 98) 8 dX9_refresh_98 lcX9_countAlone lX9_80 rfl rfl rfl (fit_of hR (by omega) rfl) (c_countAlone_8 (d0 := d0) hD) rfl rfl (fun S' g' hS hp => ?_)
      obtain ⟨rfl, hA, fA⟩ := hp
      have hD2 := hD.fr fA (by decide) (by decide) (by decide) (by decide)
      have el2 : lvg 8 g' = lvg 8 g1 := funext fun j => by unfold lvg; rw [fA.a (by decide)]
      refine a_aload_n (pc := 101) dX9_refresh_101 rfl ?_
      refine a_gr (pc := 102) dX9_refresh_102 fX9_33 rfl ?_
      refine a_iconst (pc := 105) (nI 0) dX9_refresh_105 (by decide) ?_
      refine a_iconst (pc := 106) (nI 0) dX9_refresh_106 (by decide) ?_
      refine a_aload_n (pc := 107) dX9_refresh_107 rfl ?_
      refine a_gi (pc := 108) dX9_refresh_108 fX9_43 rfl ?_
      rw [hD2.2.1.1]
      refine a_iconst (pc := 111) (nI 1) dX9_refresh_111 (by decide) ?_
      refine a_isub (pc := 112) dX9_refresh_112 ?_
      rw [pk_sub hE1]
      refine a_S2i (pc := 113) dX9_refresh_113 lcX9_span lX9_83 (fit_of hR (by omega) rfl) (c_span (d0 := d0) 0 (Eq1 q - 1) (Nat.zero_le _) (by omega)) rfl rfl (ex_i ?_)
      rw [spn_0 _ hE1]
      refine a_ast (pc := 116) _ dX9_refresh_116 rfl rfl (by omega) ?_
      refine a_aload_n (pc := 117) dX9_refresh_117 rfl ?_
      refine a_aload_n (pc := 118) dX9_refresh_118 rfl ?_
      refine a_iconst (pc := 119) (nI 0) dX9_refresh_119 (by decide) ?_
      refine a_aload_n (pc := 120) dX9_refresh_120 rfl ?_
      refine a_gr (pc := 121) dX9_refresh_121 fX9_33 rfl ?_
      refine a_iconst (pc := 124) (nI 0) dX9_refresh_124 (by decide) ?_
      refine a_ial (pc := 125) _ dX9_refresh_125 rfl rfl (by omega) ?_
      rw [show gA (pA g' 16 (upd (gA g' 16) 0 (nI (2 ^ Eq1 q - 1)))) 16 0 = nI (2 ^ Eq1 q - 1) by rw [gA_pA, if_pos rfl, upd, if_pos rfl]]
      generalize hg3 : pA g' 16 (upd (gA g' 16) 0 (nI (2 ^ Eq1 q - 1))) = g3
      have f3 : Fr [16] g' g3 := by
        rw [← hg3]
        exact (Fr.rf _ g').sA (by decide) _
      have hD3 := hD2.fr f3 (by decide) (by decide) (by decide) (by decide)
      have hA3 : AlD 8 g3 L (Eq1 q) s (lvg 8 g1) := fun e he l hl => by
        rw [f3.a (by decide)]
        exact hA e he l hl
      refine a_V2i (pc := 126) 8 dX9_refresh_126 lcX9_countFrom lX9_86 rfl rfl rfl (fit_of hR (by omega) rfl) (c_countFrom_8 (d0 := d0) hD3 hA3 L 0 (2 ^ Eq1 q - 1) (by omega) (by omega)) rfl rfl (ex_i ?_)
      refine a_pi (pc := 129) dX9_refresh_129 fX9_46 rfl ?_
      refine ret _ _ 132 _ dX9_refresh_132 rfl ?_
      have ef : ∀ k, k ≠ 11 → gF (pF g3 8 11 (nI (min 4097 (ct s (lvg 8 g1) L 0 (2 ^ Eq1 q - 1))))) 8 k = gF g1 8 k := fun k hk => by
        rw [gF_pF, if_neg (fun z => hk z.2), f3.f (by decide), fA.f (by decide)]
      have ea : ∀ a, a ≠ 14 → a ≠ 16 → gA g3 a = gA g1 a := fun a h6 h8 => by rw [f3.a (by simpa using h8), fA.a (by simpa using h6)]
      have elv : lvg 8 (pF g3 8 11 (nI (min 4097 (ct s (lvg 8 g1) L 0 (2 ^ Eq1 q - 1))))) = lvg 8 g1 := funext fun j => by
        unfold lvg
        rw [gA_pF, ea _ (by decide) (by decide)]
      have ecm : gA g3 16 0 = nI (2 ^ Eq1 q - 1) := by
        rw [← hg3, gA_pA, if_pos rfl, upd, if_pos rfl]
      refine ⟨rfl, ⟨L, op, s, ⟨?_, ?_, ?_, ?_, ?_⟩, Or.inl ⟨?_, ?_⟩⟩, ?_, ?_, ?_⟩
      · rw [elv]
        exact hD.keep (ef 8 (by decide)) (ef 10 (by decide)) (ea _ (by decide) (by decide)) (ea _ (by decide) (by decide)) (ea _ (by decide) (by decide))
      · rw [elv]
        exact fun e he l hl => hA3 e he l hl
      · rw [elv, show gA (pF g3 8 11 (nI (min 4097 (ct s (lvg 8 g1) L 0 (2 ^ Eq1 q - 1))))) (8 + 4) = gA g1 (8 + 4) from ea _ (by decide) (by decide)]
        exact hL
      · rw [elv]
        exact hN
      · rw [elv, gF_pF, if_pos ⟨rfl, rfl⟩]
      · rw [ef 12 (by decide)]
        exact e12
      · rw [elv]
        refine ⟨fun l hl => absurd hl (by omega), fun l hl => ?_, fun l hl => absurd hl (by omega), fun p hp _ => ?_⟩
        · rw [show l = 0 by omega]
          exact ecm
        · rw [gA_pF, ea _ (by decide) (by decide)]
          exact r11 p hp
      · rw [ef 13 (by decide)]
        exact e13
      · rw [gA_pF, ea _ (by decide) (by decide)]
        have := r5.1 0 (by omega)
        rw [r3.2.2] at this
        exact this
      · exact (((hfr.mono (by decide)).tr (fA.mono (by decide))).tr (f3.mono (by decide))).sF (by decide) _ _
    have loop : ∀ t p, 32 = p + t → ∀ (g1 : GH) (L : Nat) (op s : Nat → Nat), RfI 8 g1 q p L (Eq1 q) op s → Fr [8, 9, 10, 11, 12, 13] g g1 → gF g1 8 13 = nI Ed → gF g1 8 12 = -1 → AW mX9_refresh X Q ad 0 0 (conc (SS kd kp rp) g1) 54 [some (.ref 8), some (.ref 1), some (.int (nI p))] [] := by
      intro t
      induction t with
      | zero =>
        intro p hp g1 L op s hr hfr e13 e12
        obtain rfl : p = 32 := by omega
        refine a_iload_n (pc := 54) dX9_refresh_54 rfl ?_
        refine a_bipush (pc := 55) (nI 32) dX9_refresh_55 (by decide) ?_
        refine a_icmp_geN (pc := 57) 97 dX9_refresh_57 (by decide) (by omega) (by omega) (fun c1 => ?_) (fun c1 => ?_)
        · exact fin g1 L op s _ hr hfr e13 e12
        · exact absurd c1 (by omega)
      | succ t ih =>
        intro p hp g1 L op s hr hfr e13 e12
        have hq1 : CD 1 g1 q := hq.fr hfr (by decide)
        refine a_iload_n (pc := 54) dX9_refresh_54 rfl ?_
        refine a_bipush (pc := 55) (nI 32) dX9_refresh_55 (by decide) ?_
        refine a_icmp_geN (pc := 57) 97 dX9_refresh_57 (by decide) (by omega) (by omega) (fun c1 => ?_) (fun c1 => ?_)
        · exact absurd c1 (by omega)
        · refine a_aload_n (pc := 60) dX9_refresh_60 rfl ?_
          refine a_gr (pc := 61) dX9_refresh_61 fX9_9 rfl ?_
          refine a_iload_n (pc := 64) dX9_refresh_64 rfl ?_
          refine a_aload_n (pc := 65) dX9_refresh_65 rfl ?_
          refine a_gr (pc := 66) dX9_refresh_66 fX9_70 rfl ?_
          refine a_iload_n (pc := 69) dX9_refresh_69 rfl ?_
          refine a_ial (pc := 70) _ dX9_refresh_70 rfl rfl (by omega) ?_
          rw [show gA g1 2 p = q.1 p from hq1.2.1 p (by omega)]
          refine a_ast (pc := 71) _ dX9_refresh_71 rfl rfl (by omega) ?_
          refine a_aload_n (pc := 72) dX9_refresh_72 rfl ?_
          refine a_gi (pc := 73) dX9_refresh_73 fX9_73 rfl ?_
          simp only [gF_pF, gF_pA, gF_pL, gA_pF, gA_pA, gA_pL, gL_pF, gL_pA, gL_pL, reduceIte, Nat.reduceEqDiff, and_false, false_and, and_true, true_and, and_self, (show gF g1 1 10 = nI T from (hfr.f (by decide) 10).trans h10)]
          refine a_iload_n (pc := 76) dX9_refresh_76 rfl ?_
          refine a_iconst (pc := 77) (nI 1) dX9_refresh_77 (by decide) ?_
          refine a_ishr (pc := 78) dX9_refresh_78 ?_
          rw [shr_1 (by omega)]
          refine a_ishr (pc := 79) dX9_refresh_79 ?_
          refine a_iconst (pc := 80) (nI 1) dX9_refresh_80 (by decide) ?_
          refine a_iand (pc := 81) dX9_refresh_81 ?_
          rw [sh_bit (by omega) (by omega)]
          have hb1 := bt1_le T (p / 2)
          have hcon := hr.con (upd (gA g1 9) p (q.1 p)) (fun p' hp' => by
            rw [upd, if_neg (by omega)]
            exact hr.2.2.2.2.2.2.2.2.2.2 p' hp')
          have hfr2 := hfr.sA (a := 9) (by decide) (upd (gA g1 9) p (q.1 p))
          have hcp : gA (pA g1 9 (upd (gA g1 9) p (q.1 p))) 9 p = q.1 p := by rw [gA_pA, if_pos rfl, upd, if_pos rfl]
          have hbd := bdP_le (qS q.2) h60 (p := p + 1) (by omega)
          rw [bdP_s] at hbd
          refine a_if_eqN (pc := 82) 91 dX9_refresh_82 (by decide) (by omega) (fun c2 => ?_) (fun c2 => ?_)
          · refine a_iinc (pc := 91) (ls' := [_, _, _]) (nI 1) dX9_refresh_91 (by decide) rfl (Nat.le_of_ble_eq_true rfl) rfl ?_
            try rw [nI_add]
            refine a_goto (pc := 94) 54 dX9_refresh_94 (by decide) ?_
            refine ih (p + 1) (by omega) _ L op s (hcon.skip (fun e he v => inA_no (fun k hk z => ?_)) hcp) hfr2 e13 e12
            have : T.testBit (p / 2) = true := (hT2 (p / 2) (by omega)).mpr ⟨k, hk, z⟩
            unfold bt1 at c2
            rw [if_pos this] at c2
            exact absurd c2 (by decide)
          · refine a_aload_n (pc := 85) dX9_refresh_85 rfl ?_
            refine a_aload_n (pc := 86) dX9_refresh_86 rfl ?_
            refine a_iload_n (pc := 87) dX9_refresh_87 rfl ?_
            refine a_V2v (pc := 88) 8 dX9_refresh_88 lcX9_gather lX9_76 rfl rfl rfl (fit_of hR (by omega) rfl) (c_gather_8 (d0 := d0) q (hq.fr hfr2 (by decide)) p L (s L) (Eq1 q) (by omega) (by have := hr.1.2; omega) hr.1.1 hr.2.2.1.1 hr.2.1 rfl hE30 (by have := hr.2.2.1.2.1; omega)) rfl rfl (fun S' g' hS hp => ?_)
            obtain ⟨rfl, g1', g2', g3', g4', g5', e1, g6', g7', g8', g9'⟩ := hp
            obtain ⟨L', op', s', hr'⟩ := hcon.gat hE1 hE30 hcp (g1'.a (by decide)) (g2' 10 (by decide) (by decide)) g3' g4' g5' g6' g7' g8' g9'
            refine a_iinc (pc := 91) (ls' := [_, _, _]) (nI 1) dX9_refresh_91 (by decide) rfl (Nat.le_of_ble_eq_true rfl) rfl ?_
            try rw [nI_add]
            refine a_goto (pc := 94) 54 dX9_refresh_94 (by decide) ?_
            exact ih (p + 1) (by omega) _ L' op' s' hr' (hfr2.tr (g1'.mono (by decide))) ((g2' 13 (by decide) (by decide)).trans e13) ((g2' 12 (by decide) (by decide)).trans e12)
    exact loop 32 0 (by omega) g0 0 _ _ r0 (f0.mono (by decide)) hz13 hz12
  refine a_aload_n (pc := 0) dX9_refresh_0 rfl ?_
  refine a_gi (pc := 1) dX9_refresh_1 fX9_52 rfl ?_
  refine a_aload_n (pc := 4) dX9_refresh_4 rfl ?_
  refine a_gi (pc := 5) dX9_refresh_5 fX9_55 rfl ?_
  rw [h12]
  rcases hse with e | ⟨e', e, he', hok⟩
  · rw [e]
    refine a_icmp_ne (pc := 8) 12 dX9_refresh_8 (by decide) (fun c1 => ?_) (fun c1 => ?_)
    · exact new
    · exact absurd c1.symm (nI_m1 (by omega))
  · rw [e]
    refine a_icmp_neN (pc := 8) 12 dX9_refresh_8 (by decide) (by omega) (by omega) (fun c1 => ?_) (fun c1 => ?_)
    · exact new
    · refine ret _ _ 11 _ dX9_refresh_11 rfl ?_
      exact ⟨rfl, hok c1, by rw [e, c1], h30, Fr.rf _ g⟩
set_option maxHeartbeats 1000000 in
set_option maxRecDepth 100000 in
theorem c_refresh_34 {d0 kd kp rp : Nat} {g : GH} (q : Qd) (Ed : Nat) (hEd : Ed < 2147483648) (hq : CD 27 g q) (hs : SeD 34 27 g q Ed) : ACv mX9_refresh (d0 + 34) (SS kd kp rp) g [.ref 34, .ref 27] (fun S' g' => S' = SS kd kp rp ∧ StOk 34 g' q ∧ gF g' 34 13 = nI Ed ∧ gA g' 37 0 = nI 0 ∧ Fr [34, 35, 36, 37, 38, 39, 40, 41, 42] g g') := by
  obtain ⟨h12, h30, hse⟩ := hs
  obtain ⟨⟨h6, h60, h7, h8, h9, T, h10, hT, hT2⟩, hpl, -, hen, -⟩ := id hq
  have hep := epc_30 (qS q.2) h60
  have hE1 : 1 ≤ Eq1 q := Nat.le_max_right _ _
  have hE30 : Eq1 q ≤ 30 := Nat.max_le.mpr ⟨hep, by decide⟩
  have hEp : 2 ^ Eq1 q ≤ 2 ^ 30 := Nat.pow_le_pow_right (by decide) hE30
  have hEp1 := Nat.two_pow_pos (Eq1 q)
  refine ACv.of lcX9_refresh rfl rfl (fun X Q ad hR ret => ?_)
  refine AW_ls (ls' := [_, _, _]) rfl ?_
  have new : AW mX9_refresh X Q ad 0 0 (conc (SS kd kp rp) g) 12 [some (.ref 34), some (.ref 27), none] [] := by
    refine a_aload_n (pc := 12) dX9_refresh_12 rfl ?_
    refine a_aload_n (pc := 13) dX9_refresh_13 rfl ?_
    refine a_gi (pc := 14) dX9_refresh_14 fX9_55 rfl ?_
    rw [h12]
    refine a_pi (pc := 17) dX9_refresh_17 fX9_52 rfl ?_
    refine a_aload_n (pc := 20) dX9_refresh_20 rfl ?_
    refine a_iconst (pc := 21) (-1) dX9_refresh_21 (by decide) ?_
    refine a_pi (pc := 22) dX9_refresh_22 fX9_49 rfl ?_
    refine a_aload_n (pc := 25) dX9_refresh_25 rfl ?_
    refine a_iconst (pc := 26) (nI 0) dX9_refresh_26 (by decide) ?_
    refine a_pi (pc := 27) dX9_refresh_27 fX9_36 rfl ?_
    refine a_aload_n (pc := 30) dX9_refresh_30 rfl ?_
    refine a_iconst (pc := 31) (nI 0) dX9_refresh_31 (by decide) ?_
    refine a_pi (pc := 32) dX9_refresh_32 fX9_40 rfl ?_
    refine a_aload_n (pc := 35) dX9_refresh_35 rfl ?_
    refine a_aload_n (pc := 36) dX9_refresh_36 rfl ?_
    refine a_gi (pc := 37) dX9_refresh_37 fX9_60 rfl ?_
    simp only [gF_pF, gF_pA, gF_pL, gA_pF, gA_pA, gA_pL, gL_pF, gL_pA, gL_pL, reduceIte, Nat.reduceEqDiff, and_false, false_and, and_true, true_and, and_self, h8]
    refine a_iconst (pc := 40) (nI 1) dX9_refresh_40 (by decide) ?_
    refine a_mmaxN (pc := 41) dX9_refresh_41 lX9_61 hR (by omega) rfl (by omega) (by omega) ?_
    refine a_bipush (pc := 44) (nI 30) dX9_refresh_44 (by decide) ?_
    have hmx : max (epc (qS q.2) q.2.length) 1 ≤ 30 := hE30
    refine a_mminN (pc := 46) dX9_refresh_46 lX9_67 hR (by omega) rfl (by omega) (by omega) ?_
    rw [Nat.min_eq_left hmx]
    refine a_pi (pc := 49) dX9_refresh_49 fX9_43 rfl ?_
    refine a_iconst (pc := 52) (nI 0) dX9_refresh_52 (by decide) ?_
    refine a_istore_n (pc := 53) (ls' := [_, _, _]) dX9_refresh_53 (Nat.le_of_ble_eq_true rfl) rfl ?_
    generalize hg0 : pF (pF (pF (pF (pF g 34 13 (nI Ed)) 34 12 (-1)) 34 8 (nI 0)) 34 9 (nI 0)) 34 10 (nI (max (epc (qS q.2) q.2.length) 1)) = g0
    have f0 : Fr [34] g g0 := by
      rw [← hg0]
      exact ((((((Fr.rf _ g).sF (by decide) _ _).sF (by decide) _ _).sF (by decide) _ _).sF (by decide) _ _).sF (by decide) _ _)
    have hz13 : gF g0 34 13 = nI Ed := by
      rw [← hg0]
      simp only [gF_pF, gF_pA, gF_pL, gA_pF, gA_pA, gA_pL, gL_pF, gL_pA, gL_pL, reduceIte, Nat.reduceEqDiff, and_false, false_and, and_true, true_and, and_self]
    have hz12 : gF g0 34 12 = -1 := by
      rw [← hg0]
      simp only [gF_pF, gF_pA, gF_pL, gA_pF, gA_pA, gA_pL, gL_pF, gL_pA, gL_pL, reduceIte, Nat.reduceEqDiff, and_false, false_and, and_true, true_and, and_self]
    have r0 : RfI 34 g0 q 0 0 (Eq1 q) (fun _ => 0) (fun _ => 0) := by
      refine ⟨⟨?_, Nat.le_refl _⟩, ?_, ⟨?_, Nat.zero_le _, rfl⟩, fun l hl => absurd hl (by omega), ⟨fun l hl => ?_, fun l hl => absurd hl (by omega)⟩, fun j hj => absurd hj (Nat.not_lt_zero j), fun x y hx hy => absurd hy (by omega), fun l hl => absurd hl (by omega), fun l hl => absurd hl (by omega), fun p' hp' => absurd hp' (by omega), fun p' hp' => absurd hp' (by omega)⟩
      · rw [← hg0]
        simp only [gF_pF, gF_pA, gF_pL, gA_pF, gA_pA, gA_pL, gL_pF, gL_pA, gL_pL, reduceIte, Nat.reduceEqDiff, and_false, false_and, and_true, true_and, and_self]
      · rw [← hg0]
        simp only [gF_pF, gF_pA, gF_pL, gA_pF, gA_pA, gA_pL, gL_pF, gL_pA, gL_pL, reduceIte, Nat.reduceEqDiff, and_false, false_and, and_true, true_and, and_self]
        rfl
      · rw [← hg0]
        simp only [gF_pF, gF_pA, gF_pL, gA_pF, gA_pA, gA_pL, gL_pF, gL_pA, gL_pL, reduceIte, Nat.reduceEqDiff, and_false, false_and, and_true, true_and, and_self]
      · rw [show l = 0 by omega, f0.a (by decide)]
        exact h30
    have fin : ∀ (g1 : GH) (L : Nat) (op s : Nat → Nat) (y2 : Int32), RfI 34 g1 q 32 L (Eq1 q) op s → Fr [34, 35, 36, 37, 38, 39] g g1 → gF g1 34 13 = nI Ed → gF g1 34 12 = -1 → AW mX9_refresh X Q ad 0 0 (conc (SS kd kp rp) g1) 97 [some (.ref 34), some (.ref 27), some (.int y2)] [] := by
      intro g1 L op s y2 hr hfr e13 e12
      obtain ⟨r1, r2, r3, r4, r5, r6, r7, r8, r9, r10, r11⟩ := hr
      have hbd := bdP_le (qS q.2) h60 (Nat.le_refl 32)
      have hD : StD 34 g1 L (Eq1 q) op s (lvg 34 g1) := ⟨r1, ⟨r2, hE1, hE30⟩, fun l hl => r4 l hl, r5.1, ⟨by omega, r5.2⟩, r6⟩
      have hL : LvOk (fun e p v => inA q.1 (qS q.2) (qO q.2) (qT q.2) q.2.length e p v) (Eq1 q) q.1 (gA g1 (34 + 4)) op s (lvg 34 g1) L := ⟨fun l hl => (r4 l hl).2, r7, r8, r9, r10⟩
      have hN : NeD L (Eq1 q) s (lvg 34 g1) := NeD.of hL (fun e p => ⟨_, Or.inl rfl⟩)
      refine a_aload_n (pc := 97) dX9_refresh_97 rfl ?_
      refine a_V0v (pc := 98) 8 dX9_refresh_98 lcX9_countAlone lX9_80 rfl rfl rfl (fit_of hR (by omega) rfl) (c_countAlone_34 (d0 := d0) hD) rfl rfl (fun S' g' hS hp => ?_)
      obtain ⟨rfl, hA, fA⟩ := hp
      have hD2 := hD.fr fA (by decide) (by decide) (by decide) (by decide)
      have el2 : lvg 34 g' = lvg 34 g1 := funext fun j => by unfold lvg; rw [fA.a (by decide)]
      refine a_aload_n (pc := 101) dX9_refresh_101 rfl ?_
      refine a_gr (pc := 102) dX9_refresh_102 fX9_33 rfl ?_
      refine a_iconst (pc := 105) (nI 0) dX9_refresh_105 (by decide) ?_
      refine a_iconst (pc := 106) (nI 0) dX9_refresh_106 (by decide) ?_
      refine a_aload_n (pc := 107) dX9_refresh_107 rfl ?_
      refine a_gi (pc := 108) dX9_refresh_108 fX9_43 rfl ?_
      rw [hD2.2.1.1]
      refine a_iconst (pc := 111) (nI 1) dX9_refresh_111 (by decide) ?_
      refine a_isub (pc := 112) dX9_refresh_112 ?_
      rw [pk_sub hE1]
      refine a_S2i (pc := 113) dX9_refresh_113 lcX9_span lX9_83 (fit_of hR (by omega) rfl) (c_span (d0 := d0) 0 (Eq1 q - 1) (Nat.zero_le _) (by omega)) rfl rfl (ex_i ?_)
      rw [spn_0 _ hE1]
      refine a_ast (pc := 116) _ dX9_refresh_116 rfl rfl (by omega) ?_
      refine a_aload_n (pc := 117) dX9_refresh_117 rfl ?_
      refine a_aload_n (pc := 118) dX9_refresh_118 rfl ?_
      refine a_iconst (pc := 119) (nI 0) dX9_refresh_119 (by decide) ?_
      refine a_aload_n (pc := 120) dX9_refresh_120 rfl ?_
      refine a_gr (pc := 121) dX9_refresh_121 fX9_33 rfl ?_
      refine a_iconst (pc := 124) (nI 0) dX9_refresh_124 (by decide) ?_
      refine a_ial (pc := 125) _ dX9_refresh_125 rfl rfl (by omega) ?_
      rw [show gA (pA g' 42 (upd (gA g' 42) 0 (nI (2 ^ Eq1 q - 1)))) 42 0 = nI (2 ^ Eq1 q - 1) by rw [gA_pA, if_pos rfl, upd, if_pos rfl]]
      generalize hg3 : pA g' 42 (upd (gA g' 42) 0 (nI (2 ^ Eq1 q - 1))) = g3
      have f3 : Fr [42] g' g3 := by
        rw [← hg3]
        exact (Fr.rf _ g').sA (by decide) _
      have hD3 := hD2.fr f3 (by decide) (by decide) (by decide) (by decide)
      have hA3 : AlD 34 g3 L (Eq1 q) s (lvg 34 g1) := fun e he l hl => by
        rw [f3.a (by decide)]
        exact hA e he l hl
      refine a_V2i (pc := 126) 8 dX9_refresh_126 lcX9_countFrom lX9_86 rfl rfl rfl (fit_of hR (by omega) rfl) (c_countFrom_34 (d0 := d0) hD3 hA3 L 0 (2 ^ Eq1 q - 1) (by omega) (by omega)) rfl rfl (ex_i ?_)
      refine a_pi (pc := 129) dX9_refresh_129 fX9_46 rfl ?_
      refine ret _ _ 132 _ dX9_refresh_132 rfl ?_
      have ef : ∀ k, k ≠ 11 → gF (pF g3 34 11 (nI (min 4097 (ct s (lvg 34 g1) L 0 (2 ^ Eq1 q - 1))))) 34 k = gF g1 34 k := fun k hk => by
        rw [gF_pF, if_neg (fun z => hk z.2), f3.f (by decide), fA.f (by decide)]
      have ea : ∀ a, a ≠ 40 → a ≠ 42 → gA g3 a = gA g1 a := fun a h6 h8 => by rw [f3.a (by simpa using h8), fA.a (by simpa using h6)]
      have elv : lvg 34 (pF g3 34 11 (nI (min 4097 (ct s (lvg 34 g1) L 0 (2 ^ Eq1 q - 1))))) = lvg 34 g1 := funext fun j => by
        unfold lvg
        rw [gA_pF, ea _ (by decide) (by decide)]
      have ecm : gA g3 42 0 = nI (2 ^ Eq1 q - 1) := by
        rw [← hg3, gA_pA, if_pos rfl, upd, if_pos rfl]
      refine ⟨rfl, ⟨L, op, s, ⟨?_, ?_, ?_, ?_, ?_⟩, Or.inl ⟨?_, ?_⟩⟩, ?_, ?_, ?_⟩
      · rw [elv]
        exact hD.keep (ef 8 (by decide)) (ef 10 (by decide)) (ea _ (by decide) (by decide)) (ea _ (by decide) (by decide)) (ea _ (by decide) (by decide))
      · rw [elv]
        exact fun e he l hl => hA3 e he l hl
      · rw [elv, show gA (pF g3 34 11 (nI (min 4097 (ct s (lvg 34 g1) L 0 (2 ^ Eq1 q - 1))))) (34 + 4) = gA g1 (34 + 4) from ea _ (by decide) (by decide)]
        exact hL
      · rw [elv]
        exact hN
      · rw [elv, gF_pF, if_pos ⟨rfl, rfl⟩]
      · rw [ef 12 (by decide)]
        exact e12
      · rw [elv]
        refine ⟨fun l hl => absurd hl (by omega), fun l hl => ?_, fun l hl => absurd hl (by omega), fun p hp _ => ?_⟩
        · rw [show l = 0 by omega]
          exact ecm
        · rw [gA_pF, ea _ (by decide) (by decide)]
          exact r11 p hp
      · rw [ef 13 (by decide)]
        exact e13
      · rw [gA_pF, ea _ (by decide) (by decide)]
        have := r5.1 0 (by omega)
        rw [r3.2.2] at this
        exact this
      · exact (((hfr.mono (by decide)).tr (fA.mono (by decide))).tr (f3.mono (by decide))).sF (by decide) _ _
    have loop : ∀ t p, 32 = p + t → ∀ (g1 : GH) (L : Nat) (op s : Nat → Nat), RfI 34 g1 q p L (Eq1 q) op s → Fr [34, 35, 36, 37, 38, 39] g g1 → gF g1 34 13 = nI Ed → gF g1 34 12 = -1 → AW mX9_refresh X Q ad 0 0 (conc (SS kd kp rp) g1) 54 [some (.ref 34), some (.ref 27), some (.int (nI p))] [] := by
      intro t
      induction t with
      | zero =>
        intro p hp g1 L op s hr hfr e13 e12
        obtain rfl : p = 32 := by omega
        refine a_iload_n (pc := 54) dX9_refresh_54 rfl ?_
        refine a_bipush (pc := 55) (nI 32) dX9_refresh_55 (by decide) ?_
        refine a_icmp_geN (pc := 57) 97 dX9_refresh_57 (by decide) (by omega) (by omega) (fun c1 => ?_) (fun c1 => ?_)
        · exact fin g1 L op s _ hr hfr e13 e12
        · exact absurd c1 (by omega)
      | succ t ih =>
        intro p hp g1 L op s hr hfr e13 e12
        have hq1 : CD 27 g1 q := hq.fr hfr (by decide)
        refine a_iload_n (pc := 54) dX9_refresh_54 rfl ?_
        refine a_bipush (pc := 55) (nI 32) dX9_refresh_55 (by decide) ?_
        refine a_icmp_geN (pc := 57) 97 dX9_refresh_57 (by decide) (by omega) (by omega) (fun c1 => ?_) (fun c1 => ?_)
        · exact absurd c1 (by omega)
        · refine a_aload_n (pc := 60) dX9_refresh_60 rfl ?_
          refine a_gr (pc := 61) dX9_refresh_61 fX9_9 rfl ?_
          refine a_iload_n (pc := 64) dX9_refresh_64 rfl ?_
          refine a_aload_n (pc := 65) dX9_refresh_65 rfl ?_
          refine a_gr (pc := 66) dX9_refresh_66 fX9_70 rfl ?_
          refine a_iload_n (pc := 69) dX9_refresh_69 rfl ?_
          refine a_ial (pc := 70) _ dX9_refresh_70 rfl rfl (by omega) ?_
          rw [show gA g1 28 p = q.1 p from hq1.2.1 p (by omega)]
          refine a_ast (pc := 71) _ dX9_refresh_71 rfl rfl (by omega) ?_
          refine a_aload_n (pc := 72) dX9_refresh_72 rfl ?_
          refine a_gi (pc := 73) dX9_refresh_73 fX9_73 rfl ?_
          simp only [gF_pF, gF_pA, gF_pL, gA_pF, gA_pA, gA_pL, gL_pF, gL_pA, gL_pL, reduceIte, Nat.reduceEqDiff, and_false, false_and, and_true, true_and, and_self, (show gF g1 27 10 = nI T from (hfr.f (by decide) 10).trans h10)]
          refine a_iload_n (pc := 76) dX9_refresh_76 rfl ?_
          refine a_iconst (pc := 77) (nI 1) dX9_refresh_77 (by decide) ?_
          refine a_ishr (pc := 78) dX9_refresh_78 ?_
          rw [shr_1 (by omega)]
          refine a_ishr (pc := 79) dX9_refresh_79 ?_
          refine a_iconst (pc := 80) (nI 1) dX9_refresh_80 (by decide) ?_
          refine a_iand (pc := 81) dX9_refresh_81 ?_
          rw [sh_bit (by omega) (by omega)]
          have hb1 := bt1_le T (p / 2)
          have hcon := hr.con (upd (gA g1 35) p (q.1 p)) (fun p' hp' => by
            rw [upd, if_neg (by omega)]
            exact hr.2.2.2.2.2.2.2.2.2.2 p' hp')
          have hfr2 := hfr.sA (a := 35) (by decide) (upd (gA g1 35) p (q.1 p))
          have hcp : gA (pA g1 35 (upd (gA g1 35) p (q.1 p))) 35 p = q.1 p := by rw [gA_pA, if_pos rfl, upd, if_pos rfl]
          have hbd := bdP_le (qS q.2) h60 (p := p + 1) (by omega)
          rw [bdP_s] at hbd
          refine a_if_eqN (pc := 82) 91 dX9_refresh_82 (by decide) (by omega) (fun c2 => ?_) (fun c2 => ?_)
          · refine a_iinc (pc := 91) (ls' := [_, _, _]) (nI 1) dX9_refresh_91 (by decide) rfl (Nat.le_of_ble_eq_true rfl) rfl ?_
            try rw [nI_add]
            refine a_goto (pc := 94) 54 dX9_refresh_94 (by decide) ?_
            refine ih (p + 1) (by omega) _ L op s (hcon.skip (fun e he v => inA_no (fun k hk z => ?_)) hcp) hfr2 e13 e12
            have : T.testBit (p / 2) = true := (hT2 (p / 2) (by omega)).mpr ⟨k, hk, z⟩
            unfold bt1 at c2
            rw [if_pos this] at c2
            exact absurd c2 (by decide)
          · refine a_aload_n (pc := 85) dX9_refresh_85 rfl ?_
            refine a_aload_n (pc := 86) dX9_refresh_86 rfl ?_
            refine a_iload_n (pc := 87) dX9_refresh_87 rfl ?_
            refine a_V2v (pc := 88) 8 dX9_refresh_88 lcX9_gather lX9_76 rfl rfl rfl (fit_of hR (by omega) rfl) (c_gather_34 (d0 := d0) q (hq.fr hfr2 (by decide)) p L (s L) (Eq1 q) (by omega) (by have := hr.1.2; omega) hr.1.1 hr.2.2.1.1 hr.2.1 rfl hE30 (by have := hr.2.2.1.2.1; omega)) rfl rfl (fun S' g' hS hp => ?_)
            obtain ⟨rfl, g1', g2', g3', g4', g5', e1, g6', g7', g8', g9'⟩ := hp
            obtain ⟨L', op', s', hr'⟩ := hcon.gat hE1 hE30 hcp (g1'.a (by decide)) (g2' 10 (by decide) (by decide)) g3' g4' g5' g6' g7' g8' g9'
            refine a_iinc (pc := 91) (ls' := [_, _, _]) (nI 1) dX9_refresh_91 (by decide) rfl (Nat.le_of_ble_eq_true rfl) rfl ?_
            try rw [nI_add]
            refine a_goto (pc := 94) 54 dX9_refresh_94 (by decide) ?_
            exact ih (p + 1) (by omega) _ L' op' s' hr' (hfr2.tr (g1'.mono (by decide))) ((g2' 13 (by decide) (by decide)).trans e13) ((g2' 12 (by decide) (by decide)).trans e12)
    exact loop 32 0 (by omega) g0 0 _ _ r0 (f0.mono (by decide)) hz13 hz12
  refine a_aload_n (pc := 0) dX9_refresh_0 rfl ?_
  refine a_gi (pc := 1) dX9_refresh_1 fX9_52 rfl ?_
  refine a_aload_n (pc := 4) dX9_refresh_4 rfl ?_
  refine a_gi (pc := 5) dX9_refresh_5 fX9_55 rfl ?_
  rw [h12]
  rcases hse with e | ⟨e', e, he', hok⟩
  · rw [e]
    refine a_icmp_ne (pc := 8) 12 dX9_refresh_8 (by decide) (fun c1 => ?_) (fun c1 => ?_)
    · exact new
    · exact absurd c1.symm (nI_m1 (by omega))
  · rw [e]
    refine a_icmp_neN (pc := 8) 12 dX9_refresh_8 (by decide) (by omega) (by omega) (fun c1 => ?_) (fun c1 => ?_)
    · exact new
    · refine ret _ _ 11 _ dX9_refresh_11 rfl ?_
      exact ⟨rfl, hok c1, by rw [e, c1], h30, Fr.rf _ g⟩
