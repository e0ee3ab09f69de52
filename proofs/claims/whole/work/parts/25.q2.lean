set_option maxHeartbeats 4000000 in
set_option maxRecDepth 100000 in
theorem c_compare {d0 kd kp rp : Nat} {g : GH} (s : Nat) (nw : Nat → Nat) (hs : s < 4096) (hw : ∀ p, p < 32 → gA g 89 p = nI (nw p) ∧ nw p < 61) : ACi mX11_compare d0 (SS kd kp rp) g [.ref 76, .int (nI s)] (fun r S' g' => S' = SS kd kp rp ∧ g' = g ∧ ((r = nI 0 ∧ eq32 (fun p => gA g 87 (61 * p + nw p)) (fun p => gA g 84 (32 * s + p))) ∨ (r = -1 ∧ lexLt (fun p => gA g 87 (61 * p + nw p)) (fun p => gA g 84 (32 * s + p))) ∨ (r = nI 1 ∧ lexLt (fun p => gA g 84 (32 * s + p)) (fun p => gA g 87 (61 * p + nw p))))) := by
  refine ACi.of lcX11_compare rfl rfl (fun X Q ad hR ret => ?_)
  refine AW_ls (ls' := [_, _, _, _, _]) rfl ?_
  refine a_iconst (pc := 0) (nI 0) dX11_compare_0 (by decide) ?_
  refine a_istore_n (pc := 1) (ls' := [_, _, _, _, _]) dX11_compare_1 (Nat.le_of_ble_eq_true rfl) rfl ?_
  have loop : ∀ m i, 32 = i + m → (∀ q, q < i → gA g 87 (61 * q + nw q) = gA g 84 (32 * s + q)) → ∀ w w2 : Option Value, AW mX11_compare X Q ad 0 0 (conc (SS kd kp rp) g) 2 [some (.ref 76), some (.int (nI s)), some (.int (nI i)), w, w2] [] := by
    intro m
    induction m with
    | zero =>
      intro i hi he w w2
      obtain rfl : i = 32 := by omega
      refine a_iload_n (pc := 2) dX11_compare_2 rfl ?_
      refine a_bipush (pc := 3) (nI 32) dX11_compare_3 (by decide) ?_
      refine a_icmp_geN (pc := 5) 62 dX11_compare_5 (by decide) (by omega) (by omega) (fun c1 => ?_) (fun c1 => ?_)
      · refine a_iconst (pc := 62) (nI 0) dX11_compare_62 (by decide) ?_
        refine ret _ _ 63 _ _ dX11_compare_63 rfl ?_
        exact ⟨rfl, rfl, Or.inl ⟨rfl, he⟩⟩
      · exact absurd c1 (by omega)
    | succ m ih =>
      intro i hi he w w2
      obtain ⟨hw1, hw2⟩ := hw i (by omega)
      refine a_iload_n (pc := 2) dX11_compare_2 rfl ?_
      refine a_bipush (pc := 3) (nI 32) dX11_compare_3 (by decide) ?_
      refine a_icmp_geN (pc := 5) 62 dX11_compare_5 (by decide) (by omega) (by omega) (fun c1 => ?_) (fun c1 => ?_)
      · exact absurd c1 (by omega)
      · refine a_aload_n (pc := 8) dX11_compare_8 rfl ?_
        refine a_gr (pc := 9) dX11_compare_9 fX11_46 rfl ?_
        refine a_bipush (pc := 12) (nI 61) dX11_compare_12 (by decide) ?_
        refine a_iload_n (pc := 14) dX11_compare_14 rfl ?_
        refine a_imul (pc := 15) dX11_compare_15 ?_
        try rw [pk_mul]
        refine a_aload_n (pc := 16) dX11_compare_16 rfl ?_
        refine a_gr (pc := 17) dX11_compare_17 fX11_52 rfl ?_
        refine a_iload_n (pc := 20) dX11_compare_20 rfl ?_
        refine a_ial (pc := 21) _ dX11_compare_21 rfl rfl (by omega) ?_
        rw [hw1]
        refine a_iadd (pc := 22) dX11_compare_22 ?_
        try rw [nI_add]
        refine a_ial (pc := 23) _ dX11_compare_23 rfl rfl (by omega) ?_
        refine a_istore_n (pc := 24) (ls' := [_, _, _, _, _]) dX11_compare_24 (Nat.le_of_ble_eq_true rfl) rfl ?_
        refine a_aload_n (pc := 25) dX11_compare_25 rfl ?_
        refine a_gr (pc := 26) dX11_compare_26 fX11_37 rfl ?_
        refine a_bipush (pc := 29) (nI 32) dX11_compare_29 (by decide) ?_
        refine a_iload_n (pc := 31) dX11_compare_31 rfl ?_
        refine a_imul (pc := 32) dX11_compare_32 ?_
        try rw [pk_mul]
        refine a_iload_n (pc := 33) dX11_compare_33 rfl ?_
        refine a_iadd (pc := 34) dX11_compare_34 ?_
        try rw [nI_add]
        refine a_ial (pc := 35) _ dX11_compare_35 rfl rfl (by omega) ?_
        refine a_istore (pc := 36) (ls' := [_, _, _, _, _]) dX11_compare_36 (Nat.le_of_ble_eq_true rfl) rfl ?_
        refine a_iload_n (pc := 38) dX11_compare_38 rfl ?_
        refine a_iload (pc := 39) dX11_compare_39 rfl ?_
        refine a_icmp_eq (pc := 41) 56 dX11_compare_41 (by decide) (fun c2 => ?_) (fun c2 => ?_)
        · refine a_iinc (pc := 56) (ls' := [_, _, _, _, _]) (nI 1) dX11_compare_56 (by decide) rfl (Nat.le_of_ble_eq_true rfl) rfl ?_
          try rw [nI_add]
          refine a_goto (pc := 59) 2 dX11_compare_59 (by decide) ?_
          refine ih (i + 1) (by omega) (fun q hq => ?_) _ _
          rcases Nat.lt_or_ge q i with r | r
          · exact he q r
          · rw [show q = i by omega]
            exact c2
        · refine a_iload_n (pc := 44) dX11_compare_44 rfl ?_
          refine a_iload (pc := 45) dX11_compare_45 rfl ?_
          refine a_icmp_ge (pc := 47) 54 dX11_compare_47 (by decide) (fun c3 => ?_) (fun c3 => ?_)
          · refine a_iconst (pc := 54) (nI 1) dX11_compare_54 (by decide) ?_
            refine ret _ _ 55 _ _ dX11_compare_55 rfl ?_
            refine ⟨rfl, rfl, Or.inr (Or.inr ⟨rfl, i, by omega, fun q hq => (he q hq).symm, ?_⟩)⟩
            rw [Int32.lt_iff_le_and_ne]
            exact ⟨c3, fun z => c2 z.symm⟩
          · refine a_iconst (pc := 50) (-1) dX11_compare_50 (by decide) ?_
            refine a_goto (pc := 51) 55 dX11_compare_51 (by decide) ?_
            refine ret _ _ 55 _ _ dX11_compare_55 rfl ?_
            exact ⟨rfl, rfl, Or.inr (Or.inl ⟨rfl, i, by omega, he, Int32.not_le.mp c3⟩)⟩
  exact loop 32 0 (by omega) (fun q h => absurd h (by omega)) none none
/-- the states that are kept: by their order, rows of 32 -/
def SrtA (St Od : Nat → Int32) (N : Nat) (o : Nat → Nat) : Prop := (∀ i, i < N → Od i = nI (o i) ∧ o i < N) ∧ ∀ i j, i < j → j < N → lexLt (fun p => St (32 * o i + p)) (fun p => St (32 * o j + p))
def insO (o : Nat → Nat) (N k : Nat) : Nat → Nat := fun i => if i = k then N else if k < i ∧ i ≤ N then o (i - 1) else o i
theorem insO_S {St St' Od Od' : Nat → Int32} {N k : Nat} {o : Nat → Nat} {f : Nat → Int32} (h : SrtA St Od N o) (hk : k ≤ N) (h1 : ∀ i, i < k → lexLt (fun p => St (32 * o i + p)) f) (h2 : ∀ i, k ≤ i → i < N → lexLt f (fun p => St (32 * o i + p)))
    (hSt : ∀ r p, r < N → p < 32 → St' (32 * r + p) = St (32 * r + p)) (hf : ∀ p, p < 32 → St' (32 * N + p) = f p) (hOd : ∀ i, i ≤ N → Od' i = nI (insO o N k i)) : SrtA St' Od' (N + 1) (insO o N k) ∧ ∀ f0, (∃ i, i < N + 1 ∧ eq32 f0 (fun p => St' (32 * insO o N k i + p))) ↔ ((∃ i, i < N ∧ eq32 f0 (fun p => St (32 * o i + p))) ∨ eq32 f0 f) := by
  have rw0 : eq32 (fun p => St' (32 * insO o N k k + p)) f := fun p hp => by
    simp only [insO, if_pos]
    exact hf p hp
  have rwl : ∀ i, i < k → eq32 (fun p => St' (32 * insO o N k i + p)) (fun p => St (32 * o i + p)) := fun i hi p hp => by
    simp only [insO]
    rw [if_neg (by omega), if_neg (by omega)]
    exact hSt _ _ (h.1 i (by omega)).2 hp
  have rwg : ∀ i, k ≤ i → i < N → eq32 (fun p => St' (32 * insO o N k (i + 1) + p)) (fun p => St (32 * o i + p)) := fun i hi hiN p hp => by
    simp only [insO]
    rw [if_neg (by omega), if_pos (by omega), Nat.add_sub_cancel]
    exact hSt _ _ (h.1 i hiN).2 hp
  refine ⟨⟨fun i hi => ⟨hOd i (by omega), ?_⟩, fun i j hij hj => ?_⟩, fun f0 => ⟨?_, ?_⟩⟩
  · simp only [insO]
    split
    · omega
    · split
      · have := (h.1 (i - 1) (by omega)).2
        omega
      · have := (h.1 i (by omega)).2
        omega
  · rcases Nat.lt_trichotomy i k with qi | qi | qi
    · rcases Nat.lt_trichotomy j k with qj | qj | qj
      · exact ((h.2 i j hij (by omega)).eqL (rwl i qi).sm).eqR (rwl j qj).sm
      · subst qj
        exact ((h1 i qi).eqL (rwl i qi).sm).eqR rw0.sm
      · have e : j = (j - 1) + 1 := by omega
        rw [e]
        exact ((((h1 i qi).tr (h2 (j - 1) (by omega) (by omega))).eqL (rwl i qi).sm)).eqR (rwg (j - 1) (by omega) (by omega)).sm
    · subst qi
      have e : j = (j - 1) + 1 := by omega
      rw [e]
      exact ((h2 (j - 1) (by omega) (by omega)).eqL rw0.sm).eqR (rwg (j - 1) (by omega) (by omega)).sm
    · have e : j = (j - 1) + 1 := by omega
      have e2 : i = (i - 1) + 1 := by omega
      rw [e, e2]
      exact ((h.2 (i - 1) (j - 1) (by omega) (by omega)).eqL (rwg (i - 1) (by omega) (by omega)).sm).eqR (rwg (j - 1) (by omega) (by omega)).sm
  · rintro ⟨i, hi, e⟩
    rcases Nat.lt_trichotomy i k with qi | qi | qi
    · exact Or.inl ⟨i, by omega, e.tr (rwl i qi)⟩
    · subst qi
      exact Or.inr (e.tr rw0)
    · have e2 : i = (i - 1) + 1 := by omega
      rw [e2] at e
      exact Or.inl ⟨i - 1, by omega, e.tr (rwg (i - 1) (by omega) (by omega))⟩
  · rintro (⟨i, hi, e⟩ | e)
    · rcases Nat.lt_or_ge i k with qi | qi
      · exact ⟨i, by omega, e.tr (rwl i qi).sm⟩
      · exact ⟨i + 1, by omega, e.tr (rwg i qi hi).sm⟩
    · exact ⟨k, by omega, e.tr rw0.sm⟩
set_option maxHeartbeats 4000000 in
set_option maxRecDepth 100000 in
theorem c_keepState {d0 kd kp rp : Nat} {g : GH} (N : Nat) (nw o : Nat → Nat) (hN : N ≤ 4096) (h11 : gF g 76 11 = nI N) (hw : ∀ p, p < 32 → gA g 89 p = nI (nw p) ∧ nw p < 61) (hs : SrtA (gA g 84) (gA g 85) N o) : ACi mX11_keepState (d0 + 1) (SS kd kp rp) g [.ref 76] (fun r S' g' => S' = SS kd kp rp ∧ ∃ b : Bool, r = bI b ∧ (b = true → ∃ (St' Od' : Nat → Int32) (N' : Nat) (o' : Nat → Nat), g' = pF (pA (pA g 84 St') 85 Od') 76 11 (nI N') ∧ N' ≤ 4096 ∧ SrtA St' Od' N' o' ∧ ∀ f0, (∃ i, i < N' ∧ eq32 f0 (fun p => St' (32 * o' i + p))) ↔ ((∃ i, i < N ∧ eq32 f0 (fun p => gA g 84 (32 * o i + p))) ∨ eq32 f0 (fun p => gA g 87 (61 * p + nw p)))) ∧ (b = false → N = 4096 ∧ (∀ i, i < N → ¬ eq32 (fun p => gA g 84 (32 * o i + p)) (fun p => gA g 87 (61 * p + nw p))) ∧ g' = g)) := by
  refine ACz.of lcX11_keepState rfl rfl (fun X Q ad hR ret => ?_)
  refine AW_ls (ls' := [_, _, _, _, _]) rfl ?_
  refine a_iconst (pc := 0) (nI 0) dX11_keepState_0 (by decide) ?_
  refine a_istore_n (pc := 1) (ls' := [_, _, _, _, _]) dX11_keepState_1 (Nat.le_of_ble_eq_true rfl) rfl ?_
  refine a_aload_n (pc := 2) dX11_keepState_2 rfl ?_
  refine a_gi (pc := 3) dX11_keepState_3 fX11_137 rfl ?_
  rw [h11]
  refine a_istore_n (pc := 6) (ls' := [_, _, _, _, _]) dX11_keepState_6 (Nat.le_of_ble_eq_true rfl) rfl ?_
  have put : ∀ k, k ≤ N → (∀ i, i < k → lexLt (fun p => gA g 84 (32 * o i + p)) (fun p => gA g 87 (61 * p + nw p))) → (∀ i, k ≤ i → i < N → lexLt (fun p => gA g 87 (61 * p + nw p)) (fun p => gA g 84 (32 * o i + p))) → ∀ (w w2 : Option Value) (x3 : Int32), AW mX11_keepState X Q ad 0 0 (conc (SS kd kp rp) g) 64 [some (.ref 76), some (.int (nI k)), some (.int x3), w, w2] [] := by
    intro k hk h1 h2 w w2 x3
    refine a_aload_n (pc := 64) dX11_keepState_64 rfl ?_
    refine a_gi (pc := 65) dX11_keepState_65 fX11_137 rfl ?_
    rw [h11]
    refine a_sipush (pc := 68) (nI 4096) dX11_keepState_68 (by decide) ?_
    refine a_icmp_neN (pc := 71) 76 dX11_keepState_71 (by decide) (by omega) (by omega) (fun c1 => ?_) (fun c1 => ?_)
    · refine a_aload_n (pc := 76) dX11_keepState_76 rfl ?_
      refine a_gi (pc := 77) dX11_keepState_77 fX11_137 rfl ?_
      rw [h11]
      refine a_istore_n (pc := 80) (ls' := [_, _, _, _, _]) dX11_keepState_80 (Nat.le_of_ble_eq_true rfl) rfl ?_
      have row : ∀ m i, 32 = i + m → ∀ St : Nat → Int32, (∀ r p, r < N → p < 32 → St (32 * r + p) = gA g 84 (32 * r + p)) → (∀ p, p < i → St (32 * N + p) = gA g 87 (61 * p + nw p)) → ∀ Od : Nat → Int32, (∀ i, i ≤ N → Od i = nI (insO o N k i)) → AW mX11_keepState X Q ad 0 0 (conc (SS kd kp rp) (pA (pA g 84 St) 85 Od)) 118 [some (.ref 76), some (.int (nI k)), some (.int x3), some (.int (nI i)), w2] [] := by
        intro m
        induction m with
        | zero =>
          intro i hi St h3 h4 Od h5
          obtain rfl : i = 32 := by omega
          refine a_iload_n (pc := 118) dX11_keepState_118 rfl ?_
          refine a_bipush (pc := 119) (nI 32) dX11_keepState_119 (by decide) ?_
          refine a_icmp_geN (pc := 121) 160 dX11_keepState_121 (by decide) (by omega) (by omega) (fun c2 => ?_) (fun c2 => ?_)
          · refine a_aload_n (pc := 160) dX11_keepState_160 rfl ?_
            refine a_dup (pc := 161) dX11_keepState_161 rfl ?_
            refine a_gi (pc := 162) dX11_keepState_162 fX11_137 rfl ?_
            simp only [gF_pF, gF_pA, gF_pL, gA_pF, gA_pA, gA_pL, gL_pF, gL_pA, gL_pL, reduceIte, Nat.reduceEqDiff, and_false, false_and, and_true, true_and, and_self, h11]
            refine a_iconst (pc := 165) (nI 1) dX11_keepState_165 (by decide) ?_
            refine a_iadd (pc := 166) dX11_keepState_166 ?_
            try rw [nI_add]
            refine a_pi (pc := 167) dX11_keepState_167 fX11_137 rfl ?_
            refine a_iconst (pc := 170) (nI 1) dX11_keepState_170 (by decide) ?_
            refine ret _ _ 171 _ _ dX11_keepState_171 rfl (by first | exact Or.inl rfl | exact Or.inr rfl | exact bI_01 _) ?_
            obtain ⟨q1, q2⟩ := insO_S hs hk h1 h2 h3 h4 h5
            exact ⟨rfl, true, rfl, fun _ => ⟨St, Od, N + 1, _, rfl, by omega, q1, q2⟩, fun z => by cases z⟩
          · exact absurd c2 (by omega)
        | succ m ih =>
          intro i hi St h3 h4 Od h5
          obtain ⟨hw1, hw2⟩ := hw i (by omega)
          refine a_iload_n (pc := 118) dX11_keepState_118 rfl ?_
          refine a_bipush (pc := 119) (nI 32) dX11_keepState_119 (by decide) ?_
          refine a_icmp_geN (pc := 121) 160 dX11_keepState_121 (by decide) (by omega) (by omega) (fun c2 => ?_) (fun c2 => ?_)
          · exact absurd c2 (by omega)
          · refine a_aload_n (pc := 124) dX11_keepState_124 rfl ?_
            refine a_gr (pc := 125) dX11_keepState_125 fX11_37 rfl ?_
            refine a_bipush (pc := 128) (nI 32) dX11_keepState_128 (by decide) ?_
            refine a_aload_n (pc := 130) dX11_keepState_130 rfl ?_
            refine a_gi (pc := 131) dX11_keepState_131 fX11_137 rfl ?_
            simp only [gF_pF, gF_pA, gF_pL, gA_pF, gA_pA, gA_pL, gL_pF, gL_pA, gL_pL, reduceIte, Nat.reduceEqDiff, and_false, false_and, and_true, true_and, and_self, h11]
            refine a_imul (pc := 134) dX11_keepState_134 ?_
            try rw [pk_mul]
            refine a_iload_n (pc := 135) dX11_keepState_135 rfl ?_
            refine a_iadd (pc := 136) dX11_keepState_136 ?_
            try rw [nI_add]
            refine a_aload_n (pc := 137) dX11_keepState_137 rfl ?_
            refine a_gr (pc := 138) dX11_keepState_138 fX11_46 rfl ?_
            refine a_bipush (pc := 141) (nI 61) dX11_keepState_141 (by decide) ?_
            refine a_iload_n (pc := 143) dX11_keepState_143 rfl ?_
            refine a_imul (pc := 144) dX11_keepState_144 ?_
            try rw [pk_mul]
            refine a_aload_n (pc := 145) dX11_keepState_145 rfl ?_
            refine a_gr (pc := 146) dX11_keepState_146 fX11_52 rfl ?_
            refine a_iload_n (pc := 149) dX11_keepState_149 rfl ?_
            refine a_ial (pc := 150) _ dX11_keepState_150 rfl rfl (by omega) ?_
            simp only [gF_pF, gF_pA, gF_pL, gA_pF, gA_pA, gA_pL, gL_pF, gL_pA, gL_pL, reduceIte, Nat.reduceEqDiff, and_false, false_and, and_true, true_and, and_self, hw1]
            refine a_iadd (pc := 151) dX11_keepState_151 ?_
            try rw [nI_add]
            refine a_ial (pc := 152) _ dX11_keepState_152 rfl rfl (by omega) ?_
            simp only [gF_pF, gF_pA, gF_pL, gA_pF, gA_pA, gA_pL, gL_pF, gL_pA, gL_pL, reduceIte, Nat.reduceEqDiff, and_false, false_and, and_true, true_and, and_self]
            refine a_ast (pc := 153) _ dX11_keepState_153 rfl rfl (by omega) ?_
            refine a_iinc (pc := 154) (ls' := [_, _, _, _, _]) (nI 1) dX11_keepState_154 (by decide) rfl (Nat.le_of_ble_eq_true rfl) rfl ?_
            try rw [nI_add]
            refine a_goto (pc := 157) 118 dX11_keepState_157 (by decide) ?_
            simp only [gF_pF, gF_pA, gF_pL, gA_pF, gA_pA, gA_pL, gL_pF, gL_pA, gL_pL, reduceIte, Nat.reduceEqDiff, and_false, false_and, and_true, true_and, and_self]
            rw [pA_comm _ 85 84 _ _ (by decide), pA_pA]
            refine ih (i + 1) (by omega) _ ?_ ?_ Od h5
            · intro r p hr hp
              simp only [upd]
              rw [if_neg (by omega)]
              exact h3 r p hr hp
            · intro p hp
              simp only [upd]
              by_cases q : p = i
              · subst q
                rw [if_pos rfl]
              · rw [if_neg (by omega)]
                exact h4 p (by omega)
      have shift : ∀ t j, j = k + t → j ≤ N → AW mX11_keepState X Q ad 0 0 (conc (SS kd kp rp) (pA g 85 (fun i => if j < i ∧ i ≤ N then gA g 85 (i - 1) else gA g 85 i))) 81 [some (.ref 76), some (.int (nI k)), some (.int x3), some (.int (nI j)), w2] [] := by
        intro t
        induction t with
        | zero =>
          intro j hj hjN
          obtain rfl : j = k := by omega
          refine a_iload_n (pc := 81) dX11_keepState_81 rfl ?_
          refine a_iload_n (pc := 82) dX11_keepState_82 rfl ?_
          refine a_icmp_leN (pc := 83) 106 dX11_keepState_83 (by decide) (by omega) (by omega) (fun c2 => ?_) (fun c2 => ?_)
          · refine a_aload_n (pc := 106) dX11_keepState_106 rfl ?_
            refine a_gr (pc := 107) dX11_keepState_107 fX11_40 rfl ?_
            refine a_iload_n (pc := 110) dX11_keepState_110 rfl ?_
            refine a_aload_n (pc := 111) dX11_keepState_111 rfl ?_
            refine a_gi (pc := 112) dX11_keepState_112 fX11_137 rfl ?_
            simp only [gF_pF, gF_pA, gF_pL, gA_pF, gA_pA, gA_pL, gL_pF, gL_pA, gL_pL, reduceIte, Nat.reduceEqDiff, and_false, false_and, and_true, true_and, and_self, h11]
            refine a_ast (pc := 115) _ dX11_keepState_115 rfl rfl (by omega) ?_
            refine a_iconst (pc := 116) (nI 0) dX11_keepState_116 (by decide) ?_
            refine a_istore_n (pc := 117) (ls' := [_, _, _, _, _]) dX11_keepState_117 (Nat.le_of_ble_eq_true rfl) rfl ?_
            simp only [gF_pF, gF_pA, gF_pL, gA_pF, gA_pA, gA_pL, gL_pF, gL_pA, gL_pL, reduceIte, Nat.reduceEqDiff, and_false, false_and, and_true, true_and, and_self]
            rw [pA_pA]
            have h0 := row 32 0 (by omega) (gA g 84) (fun _ _ _ _ => rfl) (fun p h => absurd h (by omega)) (upd (fun i => if j < i ∧ i ≤ N then gA g 85 (i - 1) else gA g 85 i) j (nI N)) (fun i hi => by
              simp only [upd, insO]
              by_cases q : i = j
              · rw [if_pos q, if_pos q]
              · rw [if_neg q, if_neg q]
                by_cases r : j < i ∧ i ≤ N
                · rw [if_pos r, if_pos r]
                  exact (hs.1 (i - 1) (by omega)).1
                · rw [if_neg r, if_neg r]
                  exact (hs.1 i (by omega)).1)
            rw [pA_self] at h0
            exact h0
          · exact absurd c2 (by omega)
        | succ t ih =>
          intro j hj hjN
          refine a_iload_n (pc := 81) dX11_keepState_81 rfl ?_
          refine a_iload_n (pc := 82) dX11_keepState_82 rfl ?_
          refine a_icmp_leN (pc := 83) 106 dX11_keepState_83 (by decide) (by omega) (by omega) (fun c2 => ?_) (fun c2 => ?_)
          · exact absurd c2 (by omega)
          · refine a_aload_n (pc := 86) dX11_keepState_86 rfl ?_
            refine a_gr (pc := 87) dX11_keepState_87 fX11_40 rfl ?_
            refine a_iload_n (pc := 90) dX11_keepState_90 rfl ?_
            refine a_aload_n (pc := 91) dX11_keepState_91 rfl ?_
            refine a_gr (pc := 92) dX11_keepState_92 fX11_40 rfl ?_
            refine a_iload_n (pc := 95) dX11_keepState_95 rfl ?_
            refine a_iconst (pc := 96) (nI 1) dX11_keepState_96 (by decide) ?_
            refine a_isub (pc := 97) dX11_keepState_97 ?_
            rw [pk_sub (by omega)]
            refine a_ial (pc := 98) _ dX11_keepState_98 rfl rfl (by omega) ?_
            simp only [gF_pF, gF_pA, gF_pL, gA_pF, gA_pA, gA_pL, gL_pF, gL_pA, gL_pL, reduceIte, Nat.reduceEqDiff, and_false, false_and, and_true, true_and, and_self]
            rw [if_neg (by omega)]
            refine a_ast (pc := 99) _ dX11_keepState_99 rfl rfl (by omega) ?_
            simp only [gF_pF, gF_pA, gF_pL, gA_pF, gA_pA, gA_pL, gL_pF, gL_pA, gL_pL, reduceIte, Nat.reduceEqDiff, and_false, false_and, and_true, true_and, and_self]
            rw [pA_pA]
            refine a_iinc (pc := 100) (ls' := [_, _, _, _, _]) (-1) dX11_keepState_100 (by decide) rfl (Nat.le_of_ble_eq_true rfl) rfl ?_
            rw [i_m1, pk_sub (by omega)]
            refine a_goto (pc := 103) 81 dX11_keepState_103 (by decide) ?_
            have e : upd (fun i => if j < i ∧ i ≤ N then gA g 85 (i - 1) else gA g 85 i) j (gA g 85 (j - 1)) = (fun i => if j - 1 < i ∧ i ≤ N then gA g 85 (i - 1) else gA g 85 i) := funext fun i => by
              simp only [upd]
              by_cases q : i = j
              · subst q
                rw [if_pos rfl, if_pos (by omega)]
              · rw [if_neg q]
                by_cases r : j < i ∧ i ≤ N
                · rw [if_pos r, if_pos (by omega)]
                · rw [if_neg r, if_neg (by omega)]
            rw [e]
            exact ih (j - 1) (by omega) (by omega)
      have h0 := shift (N - k) N (by omega) (Nat.le_refl _)
      have e0 : (fun i => if N < i ∧ i ≤ N then gA g 85 (i - 1) else gA g 85 i) = gA g 85 := funext fun i => by
        rw [if_neg (by omega)]
      rw [e0, pA_self] at h0
      exact h0
    · refine a_iconst (pc := 74) (nI 0) dX11_keepState_74 (by decide) ?_
      refine ret _ _ 75 _ _ dX11_keepState_75 rfl (by first | exact Or.inl rfl | exact Or.inr rfl | exact bI_01 _) ?_
      refine ⟨rfl, false, rfl, (fun z => by cases z), fun _ => ⟨c1, fun i hi e => ?_, rfl⟩⟩
      rcases Nat.lt_or_ge i k with q | q
      · exact (h1 i q).ne e
      · exact (h2 i q hi).ne e.sm
  have find : ∀ t lo hi', lo ≤ hi' → hi' ≤ N → hi' - lo ≤ t → (∀ i, i < lo → lexLt (fun p => gA g 84 (32 * o i + p)) (fun p => gA g 87 (61 * p + nw p))) → (∀ i, hi' ≤ i → i < N → lexLt (fun p => gA g 87 (61 * p + nw p)) (fun p => gA g 84 (32 * o i + p))) → ∀ w w2 : Option Value, AW mX11_keepState X Q ad 0 0 (conc (SS kd kp rp) g) 7 [some (.ref 76), some (.int (nI lo)), some (.int (nI hi')), w, w2] [] := by
    intro t
    induction t with
    | zero =>
      intro lo hi' h1 h2 h3 h4 h5 w w2
      obtain rfl : hi' = lo := by omega
      refine a_iload_n (pc := 7) dX11_keepState_7 rfl ?_
      refine a_iload_n (pc := 8) dX11_keepState_8 rfl ?_
      refine a_icmp_geN (pc := 9) 64 dX11_keepState_9 (by decide) (by omega) (by omega) (fun c1 => ?_) (fun c1 => ?_)
      · exact put hi' h2 h4 h5 _ _ _
      · exact absurd c1 (by omega)
    | succ t ih =>
      intro lo hi' h1 h2 h3 h4 h5 w w2
      refine a_iload_n (pc := 7) dX11_keepState_7 rfl ?_
      refine a_iload_n (pc := 8) dX11_keepState_8 rfl ?_
      refine a_icmp_geN (pc := 9) 64 dX11_keepState_9 (by decide) (by omega) (by omega) (fun c1 => ?_) (fun c1 => ?_)
      · obtain rfl : hi' = lo := by omega
        exact put hi' h2 h4 h5 _ _ _
      · refine a_iload_n (pc := 12) dX11_keepState_12 rfl ?_
        refine a_iload_n (pc := 13) dX11_keepState_13 rfl ?_
        refine a_iadd (pc := 14) dX11_keepState_14 ?_
        try rw [nI_add]
        refine a_iconst (pc := 15) (nI 2) dX11_keepState_15 (by decide) ?_
        refine a_idiv (pc := 16) dX11_keepState_16 (by decide) ?_
        rw [pk_div (by omega) (by decide) (by decide)]
        generalize hm : (lo + hi') / 2 = m
        have hm1 : lo ≤ m := by omega
        have hm2 : m < hi' := by omega
        obtain ⟨ho1, ho2⟩ := hs.1 m (by omega)
        refine a_istore_n (pc := 17) (ls' := [_, _, _, _, _]) dX11_keepState_17 (Nat.le_of_ble_eq_true rfl) rfl ?_
        refine a_aload_n (pc := 18) dX11_keepState_18 rfl ?_
        refine a_aload_n (pc := 19) dX11_keepState_19 rfl ?_
        refine a_gr (pc := 20) dX11_keepState_20 fX11_40 rfl ?_
        refine a_iload_n (pc := 23) dX11_keepState_23 rfl ?_
        refine a_ial (pc := 24) _ dX11_keepState_24 rfl rfl (by omega) ?_
        rw [ho1]
        refine a_V1i (pc := 25) 10 dX11_keepState_25 lcX11_compare lX11_140 rfl rfl rfl (fit_of hR (by omega) rfl) (c_compare (d0 := d0) (o m) nw (by omega) hw) rfl rfl (fun rr S' g' hS hp => ?_)
        obtain ⟨rfl, rfl, hc⟩ := hp
        refine a_istore (pc := 28) (ls' := [_, _, _, _, _]) dX11_keepState_28 (Nat.le_of_ble_eq_true rfl) rfl ?_
        refine a_iload (pc := 30) dX11_keepState_30 rfl ?_
        rcases hc with ⟨rfl, he⟩ | ⟨rfl, he⟩ | ⟨rfl, he⟩
        · refine a_if_neN (pc := 32) 37 dX11_keepState_32 (by decide) (by omega) (fun c2 => ?_) (fun c2 => ?_)
          · exact absurd rfl c2
          · refine a_iconst (pc := 35) (nI 1) dX11_keepState_35 (by decide) ?_
            refine ret _ _ 36 _ _ dX11_keepState_36 rfl (by first | exact Or.inl rfl | exact Or.inr rfl | exact bI_01 _) ?_
            refine ⟨rfl, true, rfl, fun _ => ⟨gA g' 84, gA g' 85, N, o, ?_, hN, hs, fun f0 => ⟨Or.inl, fun z => z.elim id (fun e => ⟨m, by omega, e.tr he⟩)⟩⟩, fun z => by cases z⟩
            rw [pA_self, pA_self, ← h11, pF_self]
        · refine a_if_ne (pc := 32) 37 dX11_keepState_32 (by decide) (fun c2 => ?_) (fun c2 => ?_)
          · refine a_iload (pc := 37) dX11_keepState_37 rfl ?_
            refine a_if_le (pc := 39) 48 dX11_keepState_39 (by decide) (fun c3 => ?_) (fun c3 => ?_)
            · refine a_iload_n (pc := 48) dX11_keepState_48 rfl ?_
              refine a_istore_n (pc := 49) (ls' := [_, _, _, _, _]) dX11_keepState_49 (Nat.le_of_ble_eq_true rfl) rfl ?_
              refine a_iload (pc := 50) dX11_keepState_50 rfl ?_
              refine a_if_ge (pc := 52) 59 dX11_keepState_52 (by decide) (fun c4 => ?_) (fun c4 => ?_)
              · exact absurd c4 (by decide)
              · refine a_iload_n (pc := 55) dX11_keepState_55 rfl ?_
                refine a_goto (pc := 56) 60 dX11_keepState_56 (by decide) ?_
                refine a_istore_n (pc := 60) (ls' := [_, _, _, _, _]) dX11_keepState_60 (Nat.le_of_ble_eq_true rfl) rfl ?_
                refine a_goto (pc := 61) 7 dX11_keepState_61 (by decide) ?_
                exact ih lo m hm1 (by omega) (by omega) h4 (fun i h6 h7 => by
                  rcases Nat.lt_or_ge m i with q | q
                  · exact he.tr (hs.2 m i q h7)
                  · rw [show i = m by omega]
                    exact he) _ _
            · exact absurd (by decide) c3
          · exact absurd c2 (by decide)
        · refine a_if_neN (pc := 32) 37 dX11_keepState_32 (by decide) (by omega) (fun c2 => ?_) (fun c2 => ?_)
          · refine a_iload (pc := 37) dX11_keepState_37 rfl ?_
            refine a_if_leN (pc := 39) 48 dX11_keepState_39 (by decide) (by omega) (fun c3 => ?_) (fun c3 => ?_)
            · exact absurd c3 (by decide)
            · refine a_iload_n (pc := 42) dX11_keepState_42 rfl ?_
              refine a_iconst (pc := 43) (nI 1) dX11_keepState_43 (by decide) ?_
              refine a_iadd (pc := 44) dX11_keepState_44 ?_
              try rw [nI_add]
              refine a_goto (pc := 45) 49 dX11_keepState_45 (by decide) ?_
              refine a_istore_n (pc := 49) (ls' := [_, _, _, _, _]) dX11_keepState_49 (Nat.le_of_ble_eq_true rfl) rfl ?_
              refine a_iload (pc := 50) dX11_keepState_50 rfl ?_
              refine a_if_geN (pc := 52) 59 dX11_keepState_52 (by decide) (by omega) (fun c4 => ?_) (fun c4 => ?_)
              · refine a_iload_n (pc := 59) dX11_keepState_59 rfl ?_
                refine a_istore_n (pc := 60) (ls' := [_, _, _, _, _]) dX11_keepState_60 (Nat.le_of_ble_eq_true rfl) rfl ?_
                refine a_goto (pc := 61) 7 dX11_keepState_61 (by decide) ?_
                exact ih (m + 1) hi' (by omega) h2 (by omega) (fun i h6 => by
                  rcases Nat.lt_or_ge i m with q | q
                  · exact (hs.2 i m q (by omega)).tr he
                  · rw [show i = m by omega]
                    exact he) h5 _ _
              · exact absurd c4 (by decide)
          · exact absurd c2 (by decide)
  exact find N 0 N (by omega) (Nat.le_refl _) (by omega) (fun i h => absurd h (by omega)) (fun i h h' => absurd h' (by omega)) none none
