/-! a stretch of ints with who leaves them -/
def lvg (b : Nat) (g : GH) (j : Nat) : Nat := (gA g (b + 5) j).toNatClampNeg
def SegD (b : Nat) (g : GH) (a e : Nat) (R : Nat → Int32 → Prop) : Prop := (a ≤ e ∧ e ≤ 152) ∧ (∀ i j, a ≤ i → i < j → j < e → gA g (b + 4) i < gA g (b + 4) j) ∧ (∀ j, a ≤ j → j < e → gA g (b + 5) j = nI (lvg b g j) ∧ lvg b g j < 2 ^ 30) ∧ ∀ ep, ep < 30 → ∀ v, R ep v ↔ ∃ j, a ≤ j ∧ j < e ∧ gA g (b + 4) j = v ∧ (lvg b g j).testBit ep = true
theorem SegD.imp {b : Nat} {g : GH} {a e : Nat} {R R' : Nat → Int32 → Prop} (h : SegD b g a e R) (hR : ∀ ep, ep < 30 → ∀ v, R ep v ↔ R' ep v) : SegD b g a e R' := ⟨h.1, h.2.1, h.2.2.1, fun ep he v => (hR ep he v).symm.trans (h.2.2.2 ep he v)⟩
theorem lvg_of {b : Nat} {g : GH} {j x : Nat} (hx : x < 2 ^ 30) (h : gA g (b + 5) j = nI x) : lvg b g j = x := by
  unfold lvg
  rw [h, nI_clamp (by omega)]
def shf (I : Nat → Int32) (j e : Nat) : Nat → Int32 := fun i => if j < i ∧ i ≤ e then I (i - 1) else I i
theorem shf_e (I : Nat → Int32) (e : Nat) : shf I e e = I := funext fun i => if_neg (by omega)
theorem shf_s (I : Nat → Int32) {j e : Nat} (h : j < e) : upd (shf I (j + 1) e) (j + 1) (shf I (j + 1) e j) = shf I j e := by
  funext i
  simp only [upd, shf]
  by_cases z : i = j + 1
  · rw [if_pos z, if_neg (by omega), if_pos (by omega), z]
    rfl
  · rw [if_neg z]
    by_cases y : j + 1 < i ∧ i ≤ e
    · rw [if_pos y, if_pos (by omega)]
    · rw [if_neg y, if_neg (by omega)]
theorem SegD.ins {b : Nat} {g g' : GH} {a e : Nat} {R : Nat → Int32 → Prop} (h : SegD b g a e R) (at' : Nat) (v : Int32) (m : Nat) (hm : m < 2 ^ 30) (ha : a ≤ at') (he : at' ≤ e) (he2 : e < 152) (hlo : ∀ i, a ≤ i → i < at' → gA g (b + 4) i < v) (hhi : ∀ i, at' ≤ i → i < e → v < gA g (b + 4) i) (e4 : gA g' (b + 4) = upd (shf (gA g (b + 4)) at' e) at' v) (e5 : gA g' (b + 5) = upd (shf (gA g (b + 5)) at' e) at' (nI m)) : SegD b g' a (e + 1) (fun ep x => R ep x ∨ (x = v ∧ m.testBit ep = true)) := by
  obtain ⟨h1, h2, h3, h4⟩ := h
  have f4 : ∀ i, gA g' (b + 4) i = if i = at' then v else if at' < i ∧ i ≤ e then gA g (b + 4) (i - 1) else gA g (b + 4) i := fun i => by rw [e4]; rfl
  have f5 : ∀ i, gA g' (b + 5) i = if i = at' then nI m else if at' < i ∧ i ≤ e then gA g (b + 5) (i - 1) else gA g (b + 5) i := fun i => by rw [e5]; rfl
  have l5 : ∀ i, lvg b g' i = if i = at' then m else if at' < i ∧ i ≤ e then lvg b g (i - 1) else lvg b g i := by
    intro i
    unfold lvg
    rw [f5]
    by_cases z : i = at'
    · rw [if_pos z, if_pos z, nI_clamp (by omega)]
    · rw [if_neg z, if_neg z]
      split <;> rfl
  refine ⟨⟨by omega, by omega⟩, fun i j hi hij hj => ?_, fun j hj hje => ?_, fun ep hep x => ?_⟩
  · rw [f4, f4]
    by_cases z1 : i = at'
    · rw [if_pos z1, if_neg (by omega), if_pos (by omega)]
      exact hhi _ (by omega) (by omega)
    · rw [if_neg z1]
      by_cases z2 : j = at'
      · rw [if_pos z2, if_neg (by omega)]
        exact hlo i hi (by omega)
      · rw [if_neg z2]
        by_cases y1 : at' < i ∧ i ≤ e
        · rw [if_pos y1, if_pos (by omega)]
          exact h2 _ _ (by omega) (by omega) (by omega)
        · rw [if_neg y1]
          by_cases y2 : at' < j ∧ j ≤ e
          · rw [if_pos y2]
            by_cases y3 : i = j - 1
            · omega
            · exact h2 _ _ (by omega) (by omega) (by omega)
          · rw [if_neg y2]
            exact h2 _ _ hi hij (by omega)
  · rw [f5, l5]
    by_cases z1 : j = at'
    · rw [if_pos z1, if_pos z1]
      exact ⟨rfl, hm⟩
    · rw [if_neg z1, if_neg z1]
      by_cases y1 : at' < j ∧ j ≤ e
      · rw [if_pos y1, if_pos y1]
        exact h3 _ (by omega) (by omega)
      · rw [if_neg y1, if_neg y1]
        exact h3 _ hj (by omega)
  · dsimp only
    rw [h4 ep hep x]
    constructor
    · rintro (⟨j, j1, j2, j3, j4⟩ | ⟨rfl, hb⟩)
      · by_cases z : j < at'
        · exact ⟨j, j1, by omega, by rw [f4, if_neg (by omega), if_neg (by omega)]; exact j3, by rw [l5, if_neg (by omega), if_neg (by omega)]; exact j4⟩
        · exact ⟨j + 1, by omega, by omega, by rw [f4, if_neg (by omega), if_pos (by omega)]; exact j3, by rw [l5, if_neg (by omega), if_pos (by omega)]; exact j4⟩
      · exact ⟨at', ha, by omega, by rw [f4, if_pos rfl], by rw [l5, if_pos rfl]; exact hb⟩
    · rintro ⟨j, j1, j2, j3, j4⟩
      rw [f4] at j3
      rw [l5] at j4
      by_cases z1 : j = at'
      · rw [if_pos z1] at j3 j4
        exact Or.inr ⟨j3.symm, j4⟩
      · rw [if_neg z1] at j3 j4
        left
        by_cases y1 : at' < j ∧ j ≤ e
        · rw [if_pos y1] at j3 j4
          exact ⟨j - 1, by omega, by omega, j3, j4⟩
        · rw [if_neg y1] at j3 j4
          exact ⟨j, j1, by omega, j3, j4⟩
theorem SegD.orr {b : Nat} {g g' : GH} {a e : Nat} {R : Nat → Int32 → Prop} (h : SegD b g a e R) (at' : Nat) (v : Int32) (m : Nat) (hm : m < 2 ^ 30) (ha : a ≤ at') (he : at' < e) (hv : gA g (b + 4) at' = v) (e4 : gA g' (b + 4) = gA g (b + 4)) (e5 : gA g' (b + 5) = upd (gA g (b + 5)) at' (nI (lvg b g at' ||| m))) : SegD b g' a e (fun ep x => R ep x ∨ (x = v ∧ m.testBit ep = true)) := by
  obtain ⟨h1, h2, h3, h4⟩ := h
  have hor : lvg b g at' ||| m < 2 ^ 30 := Nat.or_lt_two_pow (h3 at' ha he).2 hm
  have l5 : ∀ i, lvg b g' i = if i = at' then lvg b g at' ||| m else lvg b g i := by
    intro i
    by_cases z : i = at'
    · rw [if_pos z]
      exact lvg_of hor (by rw [e5, upd, if_pos z])
    · rw [if_neg z]
      unfold lvg
      rw [e5, upd, if_neg z]
  refine ⟨h1, by rw [e4]; exact h2, fun j hj hje => ?_, fun ep hep x => ?_⟩
  · rw [l5, e5, upd]
    by_cases z : j = at'
    · rw [if_pos z, if_pos z]
      exact ⟨rfl, hor⟩
    · rw [if_neg z, if_neg z]
      exact h3 j hj hje
  · dsimp only
    rw [h4 ep hep x, e4]
    constructor
    · rintro (⟨j, j1, j2, j3, j4⟩ | ⟨rfl, hb⟩)
      · refine ⟨j, j1, j2, j3, ?_⟩
        rw [l5]
        by_cases z : j = at'
        · rw [if_pos z, Nat.testBit_or, ← z, j4]
          rfl
        · rw [if_neg z]
          exact j4
      · refine ⟨at', ha, he, hv, ?_⟩
        rw [l5, if_pos rfl, Nat.testBit_or, hb, Bool.or_true]
    · rintro ⟨j, j1, j2, j3, j4⟩
      rw [l5] at j4
      by_cases z : j = at'
      · rw [if_pos z, Nat.testBit_or, Bool.or_eq_true] at j4
        rcases j4 with j4 | j4
        · exact Or.inl ⟨j, j1, j2, j3, by rw [z]; exact j4⟩
        · right
          rw [z, hv] at j3
          exact ⟨j3.symm, j4⟩
      · rw [if_neg z] at j4
        exact Or.inl ⟨j, j1, j2, j3, j4⟩
set_option maxHeartbeats 1000000 in
set_option maxRecDepth 100000 in
theorem c_allow_8 {d0 kd kp rp : Nat} {g : GH} {R : Nat → Int32 → Prop} (L a e : Nat) (v : Int32) (m : Nat) (hL : L < 32) (h8 : gF g 8 8 = nI L) (h3 : gA g 11 L = nI a) (h9 : gF g 8 9 = nI e) (hs : SegD 8 g a e R) (hm : m < 2 ^ 30) (hroom : e < 152 ∨ ∃ j, a ≤ j ∧ j < e ∧ gA g 12 j = v) : ACv mX9_allow d0 (SS kd kp rp) g [.ref 8, .int v, .int (nI m)] (fun S' g' => S' = SS kd kp rp ∧ Fr [8, 12, 13] g g' ∧ (∀ k, k ≠ 9 → gF g' 8 k = gF g 8 k) ∧ (∀ j, j < a → gA g' 12 j = gA g 12 j ∧ gA g' 13 j = gA g 13 j) ∧ ∃ e', gF g' 8 9 = nI e' ∧ e' ≤ e + 1 ∧ ((∃ j, a ≤ j ∧ j < e ∧ gA g 12 j = v) → e' = e) ∧ (∃ j, a ≤ j ∧ j < e' ∧ gA g' 12 j = v) ∧ SegD 8 g' a e' (fun ep x => R ep x ∨ (x = v ∧ m.testBit ep = true))) := by
  have hae := hs.1.1
  have he152 := hs.1.2
  refine ACv.of lcX9_allow rfl rfl (fun X Q ad hR ret => ?_)
  refine AW_ls (ls' := [_, _, _, _, _]) rfl ?_
  refine a_aload_n (pc := 0) dX9_allow_0 rfl ?_
  refine a_gr (pc := 1) dX9_allow_1 fX9_18 rfl ?_
  refine a_aload_n (pc := 4) dX9_allow_4 rfl ?_
  refine a_gi (pc := 5) dX9_allow_5 fX9_36 rfl ?_
  rw [h8]
  refine a_ial (pc := 8) _ dX9_allow_8 rfl rfl (by omega) ?_
  rw [h3]
  refine a_istore_n (pc := 9) (ls' := [_, _, _, _, _]) dX9_allow_9 (Nat.le_of_ble_eq_true rfl) rfl ?_
  have ins : ∀ at', a ≤ at' → at' ≤ e → (∀ i, a ≤ i → i < at' → gA g 12 i < v) → (∀ i, at' ≤ i → i < e → v < gA g 12 i) → AW mX9_allow X Q ad 0 0 (conc (SS kd kp rp) g) 63 [some (.ref 8), some (.int v), some (.int (nI m)), some (.int (nI at')), none] [] := by
    intro at' ha1 ha2 hlo hhi
    have hno : ¬ ∃ j, a ≤ j ∧ j < e ∧ gA g 12 j = v := by
      rintro ⟨j, j1, j2, j3⟩
      rcases Nat.lt_or_ge j at' with q | q
      · exact absurd j3 (Int32.ne_of_lt (hlo j j1 q))
      · exact absurd j3.symm (Int32.ne_of_lt (hhi j q j2))
    have he : e < 152 := hroom.elim id (fun z => absurd z hno)
    refine a_aload_n (pc := 63) dX9_allow_63 rfl ?_
    refine a_gi (pc := 64) dX9_allow_64 fX9_40 rfl ?_
    rw [h9]
    refine a_sipush (pc := 67) (nI 152) dX9_allow_67 (by decide) ?_
    refine a_icmp_ltN (pc := 70) 74 dX9_allow_70 (by decide) (by omega) (by omega) (fun c1 => ?_) (fun c1 => ?_)
    · refine a_aload_n (pc := 74) dX9_allow_74 rfl ?_
      refine a_gi (pc := 75) dX9_allow_75 fX9_40 rfl ?_
      rw [h9]
      refine a_istore (pc := 78) (ls' := [_, _, _, _, _]) dX9_allow_78 (Nat.le_of_ble_eq_true rfl) rfl ?_
      have loop : ∀ t j, j = at' + t → j ≤ e → ∀ g1 : GH, g1 = pA (pA g 12 (shf (gA g 12) j e)) 13 (shf (gA g 13) j e) → AW mX9_allow X Q ad 0 0 (conc (SS kd kp rp) g1) 80 [some (.ref 8), some (.int v), some (.int (nI m)), some (.int (nI at')), some (.int (nI j))] [] := by
        intro t
        induction t with
        | zero =>
          intro j hj hje g1 hg1
          obtain rfl : j = at' := by omega
          subst hg1
          refine a_iload (pc := 80) dX9_allow_80 rfl ?_
          refine a_iload_n (pc := 82) dX9_allow_82 rfl ?_
          refine a_icmp_leN (pc := 83) 124 dX9_allow_83 (by decide) (by omega) (by omega) (fun c2 => ?_) (fun c2 => ?_)
          · refine a_aload_n (pc := 124) dX9_allow_124 rfl ?_
            refine a_gr (pc := 125) dX9_allow_125 fX9_21 rfl ?_
            refine a_iload_n (pc := 128) dX9_allow_128 rfl ?_
            refine a_iload_n (pc := 129) dX9_allow_129 rfl ?_
            refine a_ast (pc := 130) _ dX9_allow_130 rfl rfl (by omega) ?_
            refine a_aload_n (pc := 131) dX9_allow_131 rfl ?_
            refine a_gr (pc := 132) dX9_allow_132 fX9_24 rfl ?_
            refine a_iload_n (pc := 135) dX9_allow_135 rfl ?_
            refine a_iload_n (pc := 136) dX9_allow_136 rfl ?_
            refine a_ast (pc := 137) _ dX9_allow_137 rfl rfl (by omega) ?_
            refine a_aload_n (pc := 138) dX9_allow_138 rfl ?_
            refine a_dup (pc := 139) dX9_allow_139 rfl ?_
            refine a_gi (pc := 140) dX9_allow_140 fX9_40 rfl ?_
            simp only [gF_pF, gF_pA, gF_pL, gA_pF, gA_pA, gA_pL, gL_pF, gL_pA, gL_pL, reduceIte, Nat.reduceEqDiff, and_false, false_and, and_true, true_and, and_self, h9]
            refine a_iconst (pc := 143) (nI 1) dX9_allow_143 (by decide) ?_
            refine a_iadd (pc := 144) dX9_allow_144 ?_
            try rw [nI_add]
            refine a_pi (pc := 145) dX9_allow_145 fX9_40 rfl ?_
            refine ret _ _ 148 _ dX9_allow_148 rfl ?_
            refine ⟨rfl, ?_, fun k hk => ?_, fun i hi => ?_, e + 1, ?_, Nat.le_refl _, fun z => absurd z hno, ⟨j, ha1, by omega, ?_⟩, hs.ins j v m hm ha1 ha2 he hlo hhi ?_ ?_⟩
            · exact ((((((Fr.rf _ g).sA (by decide) _).sA (by decide) _).sA (by decide) _).sA (by decide) _).sF (by decide) _ _)
            · rw [gF_pF, if_neg (fun z => hk z.2)]
              rfl
            · simp only [gF_pF, gF_pA, gF_pL, gA_pF, gA_pA, gA_pL, gL_pF, gL_pA, gL_pL, reduceIte, Nat.reduceEqDiff, and_false, false_and, and_true, true_and, and_self, upd, shf]
              rw [if_neg (by omega), if_neg (by omega), if_neg (by omega), if_neg (by omega)]
              exact ⟨rfl, rfl⟩
            · simp only [gF_pF, gF_pA, gF_pL, gA_pF, gA_pA, gA_pL, gL_pF, gL_pA, gL_pL, reduceIte, Nat.reduceEqDiff, and_false, false_and, and_true, true_and, and_self]
            · simp only [gF_pF, gF_pA, gF_pL, gA_pF, gA_pA, gA_pL, gL_pF, gL_pA, gL_pL, reduceIte, Nat.reduceEqDiff, and_false, false_and, and_true, true_and, and_self, upd]
            · simp only [gF_pF, gF_pA, gF_pL, gA_pF, gA_pA, gA_pL, gL_pF, gL_pA, gL_pL, reduceIte, Nat.reduceEqDiff, and_false, false_and, and_true, true_and, and_self]
            · simp only [gF_pF, gF_pA, gF_pL, gA_pF, gA_pA, gA_pL, gL_pF, gL_pA, gL_pL, reduceIte, Nat.reduceEqDiff, and_false, false_and, and_true, true_and, and_self]
          · exact absurd c2 (by omega)
        | succ t ih =>
          intro j hj hje g1 hg1
          obtain ⟨j', rfl⟩ : ∃ j', j = j' + 1 := ⟨at' + t, by omega⟩
          refine a_iload (pc := 80) dX9_allow_80 rfl ?_
          refine a_iload_n (pc := 82) dX9_allow_82 rfl ?_
          refine a_icmp_leN (pc := 83) 124 dX9_allow_83 (by decide) (by omega) (by omega) (fun c2 => ?_) (fun c2 => ?_)
          · exact absurd c2 (by omega)
          · refine a_aload_n (pc := 86) dX9_allow_86 rfl ?_
            refine a_gr (pc := 87) dX9_allow_87 fX9_21 rfl ?_
            refine a_iload (pc := 90) dX9_allow_90 rfl ?_
            refine a_aload_n (pc := 92) dX9_allow_92 rfl ?_
            refine a_gr (pc := 93) dX9_allow_93 fX9_21 rfl ?_
            refine a_iload (pc := 96) dX9_allow_96 rfl ?_
            refine a_iconst (pc := 98) (nI 1) dX9_allow_98 (by decide) ?_
            refine a_isub (pc := 99) dX9_allow_99 ?_
            rw [show nI (j' + 1) - nI 1 = nI j' from nI_pred j']
            refine a_ial (pc := 100) _ dX9_allow_100 rfl rfl (by omega) ?_
            refine a_ast (pc := 101) _ dX9_allow_101 rfl rfl (by omega) ?_
            refine a_aload_n (pc := 102) dX9_allow_102 rfl ?_
            refine a_gr (pc := 103) dX9_allow_103 fX9_24 rfl ?_
            refine a_iload (pc := 106) dX9_allow_106 rfl ?_
            refine a_aload_n (pc := 108) dX9_allow_108 rfl ?_
            refine a_gr (pc := 109) dX9_allow_109 fX9_24 rfl ?_
            refine a_iload (pc := 112) dX9_allow_112 rfl ?_
            refine a_iconst (pc := 114) (nI 1) dX9_allow_114 (by decide) ?_
            refine a_isub (pc := 115) dX9_allow_115 ?_
            rw [show nI (j' + 1) - nI 1 = nI j' from nI_pred j']
            refine a_ial (pc := 116) _ dX9_allow_116 rfl rfl (by omega) ?_
            refine a_ast (pc := 117) _ dX9_allow_117 rfl rfl (by omega) ?_
            refine AW_ls (ls' := [some (.ref 8), some (.int v), some (.int (nI m)), some (.int (nI at')), some (.int (nI (j' + 1)))]) rfl ?_
            refine a_iinc (pc := 118) (ls' := [_, _, _, _, _]) (-1) dX9_allow_118 (by decide) rfl (Nat.le_of_ble_eq_true rfl) rfl ?_
            rw [i_m1]
            rw [show nI (j' + 1) - nI 1 = nI j' from nI_pred j']
            refine a_goto (pc := 121) 80 dX9_allow_121 (by decide) ?_
            refine ih j' (by omega) (by omega) _ ?_
            subst hg1
            simp only [gF_pF, gF_pA, gF_pL, gA_pF, gA_pA, gA_pL, gL_pF, gL_pA, gL_pL, reduceIte, Nat.reduceEqDiff, and_false, false_and, and_true, true_and, and_self]
            rw [shf_s _ (by omega), shf_s _ (by omega), pA_comm _ _ _ _ _ (by decide), pA_pA, pA_comm _ _ _ _ _ (by decide), pA_pA]
      refine loop (e - at') e (by omega) (Nat.le_refl _) g ?_
      rw [shf_e, shf_e, pA_self]
      exact (pA_self g 13).symm
    · exact absurd c1 (by omega)
  have find : ∀ t at', e = at' + t → a ≤ at' → (∀ i, a ≤ i → i < at' → gA g 12 i < v) → AW mX9_allow X Q ad 0 0 (conc (SS kd kp rp) g) 10 [some (.ref 8), some (.int v), some (.int (nI m)), some (.int (nI at')), none] [] := by
    intro t
    induction t with
    | zero =>
      intro at' hat ha1 hlo
      refine a_iload_n (pc := 10) dX9_allow_10 rfl ?_
      refine a_aload_n (pc := 11) dX9_allow_11 rfl ?_
      refine a_gi (pc := 12) dX9_allow_12 fX9_40 rfl ?_
      rw [h9]
      refine a_icmp_geN (pc := 15) 34 dX9_allow_15 (by decide) (by omega) (by omega) (fun c1 => ?_) (fun c1 => ?_)
      · refine a_iload_n (pc := 34) dX9_allow_34 rfl ?_
        refine a_aload_n (pc := 35) dX9_allow_35 rfl ?_
        refine a_gi (pc := 36) dX9_allow_36 fX9_40 rfl ?_
        rw [h9]
        refine a_icmp_geN (pc := 39) 63 dX9_allow_39 (by decide) (by omega) (by omega) (fun c2 => ?_) (fun c2 => ?_)
        · exact ins at' ha1 (by omega) hlo (fun i h1 h2 => absurd h2 (by omega))
        · exact absurd c2 (by omega)
      · exact absurd c1 (by omega)
    | succ t ih =>
      intro at' hat ha1 hlo
      refine a_iload_n (pc := 10) dX9_allow_10 rfl ?_
      refine a_aload_n (pc := 11) dX9_allow_11 rfl ?_
      refine a_gi (pc := 12) dX9_allow_12 fX9_40 rfl ?_
      rw [h9]
      refine a_icmp_geN (pc := 15) 34 dX9_allow_15 (by decide) (by omega) (by omega) (fun c1 => ?_) (fun c1 => ?_)
      · exact absurd c1 (by omega)
      · refine a_aload_n (pc := 18) dX9_allow_18 rfl ?_
        refine a_gr (pc := 19) dX9_allow_19 fX9_21 rfl ?_
        refine a_iload_n (pc := 22) dX9_allow_22 rfl ?_
        refine a_ial (pc := 23) _ dX9_allow_23 rfl rfl (by omega) ?_
        refine a_iload_n (pc := 24) dX9_allow_24 rfl ?_
        refine a_icmp_ge (pc := 25) 34 dX9_allow_25 (by decide) (fun c2 => ?_) (fun c2 => ?_)
        · refine a_iload_n (pc := 34) dX9_allow_34 rfl ?_
          refine a_aload_n (pc := 35) dX9_allow_35 rfl ?_
          refine a_gi (pc := 36) dX9_allow_36 fX9_40 rfl ?_
          rw [h9]
          refine a_icmp_geN (pc := 39) 63 dX9_allow_39 (by decide) (by omega) (by omega) (fun c3 => ?_) (fun c3 => ?_)
          · exact absurd c3 (by omega)
          · refine a_aload_n (pc := 42) dX9_allow_42 rfl ?_
            refine a_gr (pc := 43) dX9_allow_43 fX9_21 rfl ?_
            refine a_iload_n (pc := 46) dX9_allow_46 rfl ?_
            refine a_ial (pc := 47) _ dX9_allow_47 rfl rfl (by omega) ?_
            refine a_iload_n (pc := 48) dX9_allow_48 rfl ?_
            refine a_icmp_ne (pc := 49) 63 dX9_allow_49 (by decide) (fun c4 => ?_) (fun c4 => ?_)
            · refine ins at' ha1 (by omega) hlo (fun i h1 h2 => ?_)
              have hv : v < gA g 12 at' := Int32.lt_of_le_of_ne c2 (fun z => c4 z.symm)
              by_cases z : i = at'
              · rw [z]
                exact hv
              · exact Int32.lt_trans hv (hs.2.1 at' i ha1 (by omega) h2)
            · obtain ⟨hv5, hv30⟩ := hs.2.2.1 at' ha1 (by omega)
              refine a_aload_n (pc := 52) dX9_allow_52 rfl ?_
              refine a_gr (pc := 53) dX9_allow_53 fX9_24 rfl ?_
              refine a_iload_n (pc := 56) dX9_allow_56 rfl ?_
              refine a_dup2 (pc := 57) dX9_allow_57 rfl rfl ?_
              refine a_ial (pc := 58) _ dX9_allow_58 rfl rfl (by omega) ?_
              rw [hv5]
              refine a_iload_n (pc := 59) dX9_allow_59 rfl ?_
              refine a_ior (pc := 60) dX9_allow_60 ?_
              rw [nI_or]
              refine a_ast (pc := 61) _ dX9_allow_61 rfl rfl (by omega) ?_
              refine ret _ _ 62 _ dX9_allow_62 rfl ?_
              refine ⟨rfl, (Fr.rf _ g).sA (by decide) _, fun k _ => rfl, fun i hi => ?_, e, h9, by omega, fun _ => rfl, ⟨at', ha1, by omega, c4⟩, hs.orr at' v m hm ha1 (by omega) c4 ?_ ?_⟩
              · simp only [gF_pF, gF_pA, gF_pL, gA_pF, gA_pA, gA_pL, gL_pF, gL_pA, gL_pL, reduceIte, Nat.reduceEqDiff, and_false, false_and, and_true, true_and, and_self, upd]
                rw [if_neg (by omega)]
              · simp only [gF_pF, gF_pA, gF_pL, gA_pF, gA_pA, gA_pL, gL_pF, gL_pA, gL_pL, reduceIte, Nat.reduceEqDiff, and_false, false_and, and_true, true_and, and_self]
              · simp only [gF_pF, gF_pA, gF_pL, gA_pF, gA_pA, gA_pL, gL_pF, gL_pA, gL_pL, reduceIte, Nat.reduceEqDiff, and_false, false_and, and_true, true_and, and_self]
        · refine a_iinc (pc := 28) (ls' := [_, _, _, _, _]) (nI 1) dX9_allow_28 (by decide) rfl (Nat.le_of_ble_eq_true rfl) rfl ?_
          try rw [nI_add]
          refine a_goto (pc := 31) 10 dX9_allow_31 (by decide) ?_
          refine ih (at' + 1) (by omega) (by omega) (fun i h1 h2 => ?_)
          by_cases z : i = at'
          · rw [z]
            exact Int32.not_le.mp c2
          · exact hlo i h1 (by omega)
  exact find (e - a) a (by omega) (Nat.le_refl _) (fun i h1 h2 => absurd h2 (by omega))
set_option maxHeartbeats 1000000 in
set_option maxRecDepth 100000 in
theorem c_allow_34 {d0 kd kp rp : Nat} {g : GH} {R : Nat → Int32 → Prop} (L a e : Nat) (v : Int32) (m : Nat) (hL : L < 32) (h8 : gF g 34 8 = nI L) (h3 : gA g 37 L = nI a) (h9 : gF g 34 9 = nI e) (hs : SegD 34 g a e R) (hm : m < 2 ^ 30) (hroom : e < 152 ∨ ∃ j, a ≤ j ∧ j < e ∧ gA g 38 j = v) : ACv mX9_allow d0 (SS kd kp rp) g [.ref 34, .int v, .int (nI m)] (fun S' g' => S' = SS kd kp rp ∧ Fr [34, 38, 39] g g' ∧ (∀ k, k ≠ 9 → gF g' 34 k = gF g 34 k) ∧ (∀ j, j < a → gA g' 38 j = gA g 38 j ∧ gA g' 39 j = gA g 39 j) ∧ ∃ e', gF g' 34 9 = nI e' ∧ e' ≤ e + 1 ∧ ((∃ j, a ≤ j ∧ j < e ∧ gA g 38 j = v) → e' = e) ∧ (∃ j, a ≤ j ∧ j < e' ∧ gA g' 38 j = v) ∧ SegD 34 g' a e' (fun ep x => R ep x ∨ (x = v ∧ m.testBit ep = true))) := by
  have hae := hs.1.1
  have he152 := hs.1.2
  refine ACv.of lcX9_allow rfl rfl (fun X Q ad hR ret => ?_)
  refine AW_ls (ls' := [_, _, _, _, _]) rfl ?_
  refine a_aload_n (pc := 0) dX9_allow_0 rfl ?_
  refine a_gr (pc := 1) dX9_allow_1 fX9_18 rfl ?_
  refine a_aload_n (pc := 4) dX9_allow_4 rfl ?_
  refine a_gi (pc := 5) dX9_allow_5 fX9_36 rfl ?_
  rw [h8]
  refine a_ial (pc := 8) _ dX9_allow_8 rfl rfl (by omega) ?_
  rw [h3]
  refine a_istore_n (pc := 9) (ls' := [_, _, _, _, _]) dX9_allow_9 (Nat.le_of_ble_eq_true rfl) rfl ?_
  have ins : ∀ at', a ≤ at' → at' ≤ e → (∀ i, a ≤ i → i < at' → gA g 38 i < v) → (∀ i, at' ≤ i → i < e → v < gA g 38 i) → AW mX9_allow X Q ad 0 0 (conc (SS kd kp rp) g) 63 [some (.ref 34), some (.int v), some (.int (nI m)), some (.int (nI at')), none] [] := by
    intro at' ha1 ha2 hlo hhi
    have hno : ¬ ∃ j, a ≤ j ∧ j < e ∧ gA g 38 j = v := by
      rintro ⟨j, j1, j2, j3⟩
      rcases Nat.lt_or_ge j at' with q | q
      · exact absurd j3 (Int32.ne_of_lt (hlo j j1 q))
      · exact absurd j3.symm (Int32.ne_of_lt (hhi j q j2))
    have he : e < 152 := hroom.elim id (fun z => absurd z hno)
    refine a_aload_n (pc := 63) dX9_allow_63 rfl ?_
    refine a_gi (pc := 64) dX9_allow_64 fX9_40 rfl ?_
    rw [h9]
    refine a_sipush (pc := 67) (nI 152) dX9_allow_67 (by decide) ?_
    refine a_icmp_ltN (pc := 70) 74 dX9_allow_70 (by decide) (by omega) (by omega) (fun c1 => ?_) (fun c1 => ?_)
    · refine a_aload_n (pc := 74) dX9_allow_74 rfl ?_
      refine a_gi (pc := 75) dX9_allow_75 fX9_40 rfl ?_
      rw [h9]
      refine a_istore (pc := 78) (ls' := [_, _, _, _, _]) dX9_allow_78 (Nat.le_of_ble_eq_true rfl) rfl ?_
      have loop : ∀ t j, j = at' + t → j ≤ e → ∀ g1 : GH, g1 = pA (pA g 38 (shf (gA g 38) j e)) 39 (shf (gA g 39) j e) → AW mX9_allow X Q ad 0 0 (conc (SS kd kp rp) g1) 80 [some (.ref 34), some (.int v), some (.int (nI m)), some (.int (nI at')), some (.int (nI j))] [] := by
        intro t
        induction t with
        | zero =>
          intro j hj hje g1 hg1
          obtain rfl : j = at' := by omega
          subst hg1
          refine a_iload (pc := 80) dX9_allow_80 rfl ?_
          refine a_iload_n (pc := 82) dX9_allow_82 rfl ?_
          refine a_icmp_leN (pc := 83) 124 dX9_allow_83 (by decide) (by omega) (by omega) (fun c2 => ?_) (fun c2 => ?_)
          · refine a_aload_n (pc := 124) dX9_allow_124 rfl ?_
            refine a_gr (pc := 125) dX9_allow_125 fX9_21 rfl ?_
            refine a_iload_n (pc := 128) dX9_allow_128 rfl ?_
            refine a_iload_n (pc := 129) dX9_allow_129 rfl ?_
            refine a_ast (pc := 130) _ dX9_allow_130 rfl rfl (by omega) ?_
            refine a_aload_n (pc := 131) dX9_allow_131 rfl ?_
            refine a_gr (pc := 132) dX9_allow_132 fX9_24 rfl ?_
            refine a_iload_n (pc := 135) dX9_allow_135 rfl ?_
            refine a_iload_n (pc := 136) dX9_allow_136 rfl ?_
            refine a_ast (pc := 137) _ dX9_allow_137 rfl rfl (by omega) ?_
            refine a_aload_n (pc := 138) dX9_allow_138 rfl ?_
            refine a_dup (pc := 139) dX9_allow_139 rfl ?_
            refine a_gi (pc := 140) dX9_allow_140 fX9_40 rfl ?_
            simp only [gF_pF, gF_pA, gF_pL, gA_pF, gA_pA, gA_pL, gL_pF, gL_pA, gL_pL, reduceIte, Nat.reduceEqDiff, and_false, false_and, and_true, true_and, and_self, h9]
            refine a_iconst (pc := 143) (nI 1) dX9_allow_143 (by decide) ?_
            refine a_iadd (pc := 144) dX9_allow_144 ?_
            try rw [nI_add]
            refine a_pi (pc := 145) dX9_allow_145 fX9_40 rfl ?_
            refine ret _ _ 148 _ dX9_allow_148 rfl ?_
            refine ⟨rfl, ?_, fun k hk => ?_, fun i hi => ?_, e + 1, ?_, Nat.le_refl _, fun z => absurd z hno, ⟨j, ha1, by omega, ?_⟩, hs.ins j v m hm ha1 ha2 he hlo hhi ?_ ?_⟩
            · exact ((((((Fr.rf _ g).sA (by decide) _).sA (by decide) _).sA (by decide) _).sA (by decide) _).sF (by decide) _ _)
            · rw [gF_pF, if_neg (fun z => hk z.2)]
              rfl
            · simp only [gF_pF, gF_pA, gF_pL, gA_pF, gA_pA, gA_pL, gL_pF, gL_pA, gL_pL, reduceIte, Nat.reduceEqDiff, and_false, false_and, and_true, true_and, and_self, upd, shf]
              rw [if_neg (by omega), if_neg (by omega), if_neg (by omega), if_neg (by omega)]
              exact ⟨rfl, rfl⟩
            · simp only [gF_pF, gF_pA, gF_pL, gA_pF, gA_pA, gA_pL, gL_pF, gL_pA, gL_pL, reduceIte, Nat.reduceEqDiff, and_false, false_and, and_true, true_and, and_self]
            · simp only [gF_pF, gF_pA, gF_pL, gA_pF, gA_pA, gA_pL, gL_pF, gL_pA, gL_pL, reduceIte, Nat.reduceEqDiff, and_false, false_and, and_true, true_and, and_self, upd]
            · simp only [gF_pF, gF_pA, gF_pL, gA_pF, gA_pA, gA_pL, gL_pF, gL_pA, gL_pL, reduceIte, Nat.reduceEqDiff, and_false, false_and, and_true, true_and, and_self]
            · simp only [gF_pF, gF_pA, gF_pL, gA_pF, gA_pA, gA_pL, gL_pF, gL_pA, gL_pL, reduceIte, Nat.reduceEqDiff, and_false, false_and, and_true, true_and, and_self]
          · exact absurd c2 (by omega)
        | succ t ih =>
          intro j hj hje g1 hg1
          obtain ⟨j', rfl⟩ : ∃ j', j = j' + 1 := ⟨at' + t, by omega⟩
          refine a_iload (pc := 80) dX9_allow_80 rfl ?_
          refine a_iload_n (pc := 82) dX9_allow_82 rfl ?_
          refine a_icmp_leN (pc := 83) 124 dX9_allow_83 (by decide) (by omega) (by omega) (fun c2 => ?_) (fun c2 => ?_)
          · exact absurd c2 (by omega)
          · refine a_aload_n (pc := 86) dX9_allow_86 rfl ?_
            refine a_gr (pc := 87) dX9_allow_87 fX9_21 rfl ?_
            refine a_iload (pc := 90) dX9_allow_90 rfl ?_
            refine a_aload_n (pc := 92) dX9_allow_92 rfl ?_
            refine a_gr (pc := 93) dX9_allow_93 fX9_21 rfl ?_
            refine a_iload (pc := 96) dX9_allow_96 rfl ?_
            refine a_iconst (pc := 98) (nI 1) dX9_allow_98 (by decide) ?_
            refine a_isub (pc := 99) dX9_allow_99 ?_
            rw [show nI (j' + 1) - nI 1 = nI j' from nI_pred j']
            refine a_ial (pc := 100) _ dX9_allow_100 rfl rfl (by omega) ?_
            refine a_ast (pc := 101) _ dX9_allow_101 rfl rfl (by omega) ?_
            refine a_aload_n (pc := 102) dX9_allow_102 rfl ?_
            refine a_gr (pc := 103) dX9_allow_103 fX9_24 rfl ?_
            refine a_iload (pc := 106) dX9_allow_106 rfl ?_
            refine a_aload_n (pc := 108) dX9_allow_108 rfl ?_
            refine a_gr (pc := 109) dX9_allow_109 fX9_24 rfl ?_
            refine a_iload (pc := 112) dX9_allow_112 rfl ?_
            refine a_iconst (pc := 114) (nI 1) dX9_allow_114 (by decide) ?_
            refine a_isub (pc := 115) dX9_allow_115 ?_
            rw [show nI (j' + 1) - nI 1 = nI j' from nI_pred j']
            refine a_ial (pc := 116) _ dX9_allow_116 rfl rfl (by omega) ?_
            refine a_ast (pc := 117) _ dX9_allow_117 rfl rfl (by omega) ?_
            refine AW_ls (ls' := [some (.ref 34), some (.int v), some (.int (nI m)), some (.int (nI at')), some (.int (nI (j' + 1)))]) rfl ?_
            refine a_iinc (pc := 118) (ls' := [_, _, _, _, _]) (-1) dX9_allow_118 (by decide) rfl (Nat.le_of_ble_eq_true rfl) rfl ?_
            rw [i_m1]
            rw [show nI (j' + 1) - nI 1 = nI j' from nI_pred j']
            refine a_goto (pc := 121) 80 dX9_allow_121 (by decide) ?_
            refine ih j' (by omega) (by omega) _ ?_
            subst hg1
            simp only [gF_pF, gF_pA, gF_pL, gA_pF, gA_pA, gA_pL, gL_pF, gL_pA, gL_pL, reduceIte, Nat.reduceEqDiff, and_false, false_and, and_true, true_and, and_self]
            rw [shf_s _ (by omega), shf_s _ (by omega), pA_comm _ _ _ _ _ (by decide), pA_pA, pA_comm _ _ _ _ _ (by decide), pA_pA]
      refine loop (e - at') e (by omega) (Nat.le_refl _) g ?_
      rw [shf_e, shf_e, pA_self]
      exact (pA_self g 39).symm
    · exact absurd c1 (by omega)
  have find : ∀ t at', e = at' + t → a ≤ at' → (∀ i, a ≤ i → i < at' → gA g 38 i < v) → AW mX9_allow X Q ad 0 0 (conc (SS kd kp rp) g) 10 [some (.ref 34), some (.int v), some (.int (nI m)), some (.int (nI at')), none] [] := by
    intro t
    induction t with
    | zero =>
      intro at' hat ha1 hlo
      refine a_iload_n (pc := 10) dX9_allow_10 rfl ?_
      refine a_aload_n (pc := 11) dX9_allow_11 rfl ?_
      refine a_gi (pc := 12) dX9_allow_12 fX9_40 rfl ?_
      rw [h9]
      refine a_icmp_geN (pc := 15) 34 dX9_allow_15 (by decide) (by omega) (by omega) (fun c1 => ?_) (fun c1 => ?_)
      · refine a_iload_n (pc := 34) dX9_allow_34 rfl ?_
        refine a_aload_n (pc := 35) dX9_allow_35 rfl ?_
        refine a_gi (pc := 36) dX9_allow_36 fX9_40 rfl ?_
        rw [h9]
        refine a_icmp_geN (pc := 39) 63 dX9_allow_39 (by decide) (by omega) (by omega) (fun c2 => ?_) (fun c2 => ?_)
        · exact ins at' ha1 (by omega) hlo (fun i h1 h2 => absurd h2 (by omega))
        · exact absurd c2 (by omega)
      · exact absurd c1 (by omega)
    | succ t ih =>
      intro at' hat ha1 hlo
      refine a_iload_n (pc := 10) dX9_allow_10 rfl ?_
      refine a_aload_n (pc := 11) dX9_allow_11 rfl ?_
      refine a_gi (pc := 12) dX9_allow_12 fX9_40 rfl ?_
      rw [h9]
      refine a_icmp_geN (pc := 15) 34 dX9_allow_15 (by decide) (by omega) (by omega) (fun c1 => ?_) (fun c1 => ?_)
      · exact absurd c1 (by omega)
      · refine a_aload_n (pc := 18) dX9_allow_18 rfl ?_
        refine a_gr (pc := 19) dX9_allow_19 fX9_21 rfl ?_
        refine a_iload_n (pc := 22) dX9_allow_22 rfl ?_
        refine a_ial (pc := 23) _ dX9_allow_23 rfl rfl (by omega) ?_
        refine a_iload_n (pc := 24) dX9_allow_24 rfl ?_
        refine a_icmp_ge (pc := 25) 34 dX9_allow_25 (by decide) (fun c2 => ?_) (fun c2 => ?_)
        · refine a_iload_n (pc := 34) dX9_allow_34 rfl ?_
          refine a_aload_n (pc := 35) dX9_allow_35 rfl ?_
          refine a_gi (pc := 36) dX9_allow_36 fX9_40 rfl ?_
          rw [h9]
          refine a_icmp_geN (pc := 39) 63 dX9_allow_39 (by decide) (by omega) (by omega) (fun c3 => ?_) (fun c3 => ?_)
          · exact absurd c3 (by omega)
          · refine a_aload_n (pc := 42) dX9_allow_42 rfl ?_
            refine a_gr (pc := 43) dX9_allow_43 fX9_21 rfl ?_
            refine a_iload_n (pc := 46) dX9_allow_46 rfl ?_
            refine a_ial (pc := 47) _ dX9_allow_47 rfl rfl (by omega) ?_
            refine a_iload_n (pc := 48) dX9_allow_48 rfl ?_
            refine a_icmp_ne (pc := 49) 63 dX9_allow_49 (by decide) (fun c4 => ?_) (fun c4 => ?_)
            · refine ins at' ha1 (by omega) hlo (fun i h1 h2 => ?_)
              have hv : v < gA g 38 at' := Int32.lt_of_le_of_ne c2 (fun z => c4 z.symm)
              by_cases z : i = at'
              · rw [z]
                exact hv
              · exact Int32.lt_trans hv (hs.2.1 at' i ha1 (by omega) h2)
            · obtain ⟨hv5, hv30⟩ := hs.2.2.1 at' ha1 (by omega)
              refine a_aload_n (pc := 52) dX9_allow_52 rfl ?_
              refine a_gr (pc := 53) dX9_allow_53 fX9_24 rfl ?_
              refine a_iload_n (pc := 56) dX9_allow_56 rfl ?_
              refine a_dup2 (pc := 57) dX9_allow_57 rfl rfl ?_
              refine a_ial (pc := 58) _ dX9_allow_58 rfl rfl (by omega) ?_
              rw [hv5]
              refine a_iload_n (pc := 59) dX9_allow_59 rfl ?_
              refine a_ior (pc := 60) dX9_allow_60 ?_
              rw [nI_or]
              refine a_ast (pc := 61) _ dX9_allow_61 rfl rfl (by omega) ?_
              refine ret _ _ 62 _ dX9_allow_62 rfl ?_
              refine ⟨rfl, (Fr.rf _ g).sA (by decide) _, fun k _ => rfl, fun i hi => ?_, e, h9, by omega, fun _ => rfl, ⟨at', ha1, by omega, c4⟩, hs.orr at' v m hm ha1 (by omega) c4 ?_ ?_⟩
              · simp only [gF_pF, gF_pA, gF_pL, gA_pF, gA_pA, gA_pL, gL_pF, gL_pA, gL_pL, reduceIte, Nat.reduceEqDiff, and_false, false_and, and_true, true_and, and_self, upd]
                rw [if_neg (by omega)]
              · simp only [gF_pF, gF_pA, gF_pL, gA_pF, gA_pA, gA_pL, gL_pF, gL_pA, gL_pL, reduceIte, Nat.reduceEqDiff, and_false, false_and, and_true, true_and, and_self]
              · simp only [gF_pF, gF_pA, gF_pL, gA_pF, gA_pA, gA_pL, gL_pF, gL_pA, gL_pL, reduceIte, Nat.reduceEqDiff, and_false, false_and, and_true, true_and, and_self]
        · refine a_iinc (pc := 28) (ls' := [_, _, _, _, _]) (nI 1) dX9_allow_28 (by decide) rfl (Nat.le_of_ble_eq_true rfl) rfl ?_
          try rw [nI_add]
          refine a_goto (pc := 31) 10 dX9_allow_31 (by decide) ?_
          refine ih (at' + 1) (by omega) (by omega) (fun i h1 h2 => ?_)
          by_cases z : i = at'
          · rw [z]
            exact Int32.not_le.mp c2
          · exact hlo i h1 (by omega)
  exact find (e - a) a (by omega) (Nat.le_refl _) (fun i h1 h2 => absurd h2 (by omega))
