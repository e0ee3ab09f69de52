/-! scripts, and what is due behind n acts -/
abbrev Ac : Type := Nat × Nat × Nat × Int64
def okA (a : Ac) : Prop := a.1 < 3 ∧ (a.1 = 0 → a.2.1 < 3) ∧ (a.1 = 1 → a.2.1 < 3 ∧ a.2.2.1 < 3 ∧ a.2.1 ≠ a.2.2.1)
def dueS (a : Ac) (f : Nat → Int64) (k : Nat) : Int64 := if a.1 = 0 then (if k = a.2.1 then a.2.2.2 else f k) else if a.1 = 1 then (if k = a.2.1 then 0 else if k = a.2.2.1 then f a.2.1 else f k) else f k
def dueP (A : List Ac) : Nat → Nat → Int64
  | 0 => fun _ => 0
  | n + 1 => match A[n]? with
    | none => dueP A n
    | some a => dueS a (dueP A n)
theorem dueP_s {A : List Ac} {n : Nat} {a : Ac} (h : A[n]? = some a) : dueP A (n + 1) = dueS a (dueP A n) := by simp [dueP, h]
/-- the reference's script -/
def MSc (g : GH) (A : List Ac) : Prop := gF g 76 22 = nI A.length ∧ A.length ≤ 8 ∧ ∀ n a, A[n]? = some a → okA a ∧ gA g 93 n = nI a.1 ∧ (a.1 = 0 → gA g 94 n = nI a.2.1 ∧ gL g 96 n = a.2.2.2) ∧ (a.1 = 1 → gA g 94 n = nI a.2.1 ∧ gA g 95 n = nI a.2.2.1)
set_option maxHeartbeats 1000000 in
set_option maxRecDepth 100000 in
theorem c_findDue {d0 kd kp rp : Nat} {g : GH} (A : List Ac) (hA : MSc g A) : ACv mX11_findDue d0 (SS kd kp rp) g [.ref 76] (fun S' g' => S' = SS kd kp rp ∧ ∃ D : Nat → Int64, g' = pL g 97 D ∧ ∀ n k, n ≤ A.length → k < 3 → D (3 * n + k) = dueP A n k) := by
  obtain ⟨hA1, hA2, hA3⟩ := hA
  refine ACv.of lcX11_findDue rfl rfl (fun X Q ad hR ret => ?_)
  refine AW_ls (ls' := [_, _, _]) rfl ?_
  refine a_iconst (pc := 0) (nI 0) dX11_findDue_0 (by decide) ?_
  refine a_istore_n (pc := 1) (ls' := [_, _, _]) dX11_findDue_1 (Nat.le_of_ble_eq_true rfl) rfl ?_
  have acts : ∀ t n, A.length = n + t → ∀ (D : Nat → Int64) (w : Option Value), (∀ n' k, n' ≤ n → k < 3 → D (3 * n' + k) = dueP A n' k) → AW mX11_findDue X Q ad 0 0 (conc (SS kd kp rp) (pL g 97 D)) 22 [some (.ref 76), some (.int (nI n)), w] [] := by
    intro t
    induction t with
    | zero =>
      intro n hn D w hD
      obtain rfl : n = A.length := by omega
      refine a_iload_n (pc := 22) dX11_findDue_22 rfl ?_
      refine a_aload_n (pc := 23) dX11_findDue_23 rfl ?_
      refine a_gi (pc := 24) dX11_findDue_24 fX11_225 rfl ?_
      simp only [gF_pF, gF_pA, gF_pL, gA_pF, gA_pA, gA_pL, gL_pF, gL_pA, gL_pL, reduceIte, Nat.reduceEqDiff, and_false, false_and, and_true, true_and, and_self, hA1]
      refine a_icmp_geN (pc := 27) 166 dX11_findDue_27 (by decide) (by omega) (by omega) (fun c1 => ?_) (fun c1 => ?_)
      · refine ret _ _ 166 _ dX11_findDue_166 rfl ?_
        exact ⟨rfl, D, rfl, hD⟩
      · exact absurd c1 (by omega)
    | succ t ih =>
      intro n hn D w hD
      have ha : A[n]? = some A[n] := List.getElem?_eq_getElem (by omega)
      generalize A[n] = a at ha
      obtain ⟨hok, b1, b2, b3⟩ := hA3 n a ha
      have hdn := dueP_s ha
      refine a_iload_n (pc := 22) dX11_findDue_22 rfl ?_
      refine a_aload_n (pc := 23) dX11_findDue_23 rfl ?_
      refine a_gi (pc := 24) dX11_findDue_24 fX11_225 rfl ?_
      simp only [gF_pF, gF_pA, gF_pL, gA_pF, gA_pA, gA_pL, gL_pF, gL_pA, gL_pL, reduceIte, Nat.reduceEqDiff, and_false, false_and, and_true, true_and, and_self, hA1]
      refine a_icmp_geN (pc := 27) 166 dX11_findDue_27 (by decide) (by omega) (by omega) (fun c1 => ?_) (fun c1 => ?_)
      · exact absurd c1 (by omega)
      · refine a_iconst (pc := 30) (nI 0) dX11_findDue_30 (by decide) ?_
        refine a_istore_n (pc := 31) (ls' := [_, _, _]) dX11_findDue_31 (Nat.le_of_ble_eq_true rfl) rfl ?_
        have fin : ∀ (D' : Nat → Int64) (w : Option Value), (∀ n' k, n' ≤ n + 1 → k < 3 → D' (3 * n' + k) = dueP A n' k) → AW mX11_findDue X Q ad 0 0 (conc (SS kd kp rp) (pL g 97 D')) 160 [some (.ref 76), some (.int (nI n)), w] [] := by
          intro D' w h
          refine a_iinc (pc := 160) (ls' := [_, _, _]) (nI 1) dX11_findDue_160 (by decide) rfl (Nat.le_of_ble_eq_true rfl) rfl ?_
          try rw [nI_add]
          refine a_goto (pc := 163) 22 dX11_findDue_163 (by decide) ?_
          exact ih (n + 1) (by omega) D' _ h
        have inner : ∀ t2 k, 3 = k + t2 → ∀ D' : Nat → Int64, (∀ n' k, n' ≤ n → k < 3 → D' (3 * n' + k) = dueP A n' k) → (∀ j, j < k → D' (3 * n + 3 + j) = dueP A n j) → AW mX11_findDue X Q ad 0 0 (conc (SS kd kp rp) (pL g 97 D')) 32 [some (.ref 76), some (.int (nI n)), some (.int (nI k))] [] := by
          intro t2
          induction t2 with
          | zero =>
            intro k hk D' h1 h2
            obtain rfl : k = 3 := by omega
            refine a_iload_n (pc := 32) dX11_findDue_32 rfl ?_
            refine a_iconst (pc := 33) (nI 3) dX11_findDue_33 (by decide) ?_
            refine a_icmp_geN (pc := 34) 65 dX11_findDue_34 (by decide) (by omega) (by omega) (fun c2 => ?_) (fun c2 => ?_)
            · refine a_aload_n (pc := 65) dX11_findDue_65 rfl ?_
              refine a_gr (pc := 66) dX11_findDue_66 fX11_64 rfl ?_
              refine a_iload_n (pc := 69) dX11_findDue_69 rfl ?_
              refine a_ial (pc := 70) _ dX11_findDue_70 rfl rfl (by omega) ?_
              simp only [gF_pF, gF_pA, gF_pL, gA_pF, gA_pA, gA_pL, gL_pF, gL_pA, gL_pL, reduceIte, Nat.reduceEqDiff, and_false, false_and, and_true, true_and, and_self, b1]
              have hok1 := hok.1
              refine a_if_neN (pc := 71) 100 dX11_findDue_71 (by decide) (by omega) (fun c3 => ?_) (fun c3 => ?_)
              · refine a_aload_n (pc := 100) dX11_findDue_100 rfl ?_
                refine a_gr (pc := 101) dX11_findDue_101 fX11_64 rfl ?_
                refine a_iload_n (pc := 104) dX11_findDue_104 rfl ?_
                refine a_ial (pc := 105) _ dX11_findDue_105 rfl rfl (by omega) ?_
                simp only [gF_pF, gF_pA, gF_pL, gA_pF, gA_pA, gA_pL, gL_pF, gL_pA, gL_pL, reduceIte, Nat.reduceEqDiff, and_false, false_and, and_true, true_and, and_self, b1]
                refine a_iconst (pc := 106) (nI 1) dX11_findDue_106 (by decide) ?_
                refine a_icmp_neN (pc := 107) 160 dX11_findDue_107 (by decide) (by omega) (by omega) (fun c4 => ?_) (fun c4 => ?_)
                · refine fin D' _ (fun n' k hn' hk => ?_)
                  rcases Nat.lt_or_ge n' (n + 1) with q | q
                  · exact h1 n' k (by omega) hk
                  · obtain rfl : n' = n + 1 := by omega
                    rw [hdn, dueS, if_neg c3, if_neg c4, show 3 * (n + 1) + k = 3 * n + 3 + k by omega]
                    exact h2 k hk
                · obtain ⟨e1, e2⟩ := b3 c4
                  obtain ⟨o1, o2, o3⟩ := hok.2.2 c4
                  refine a_aload_n (pc := 110) dX11_findDue_110 rfl ?_
                  refine a_gr (pc := 111) dX11_findDue_111 fX11_77 rfl ?_
                  refine a_iconst (pc := 114) (nI 3) dX11_findDue_114 (by decide) ?_
                  refine a_iload_n (pc := 115) dX11_findDue_115 rfl ?_
                  refine a_imul (pc := 116) dX11_findDue_116 ?_
                  try rw [pk_mul]
                  refine a_iconst (pc := 117) (nI 3) dX11_findDue_117 (by decide) ?_
                  refine a_iadd (pc := 118) dX11_findDue_118 ?_
                  try rw [nI_add]
                  refine a_aload_n (pc := 119) dX11_findDue_119 rfl ?_
                  refine a_gr (pc := 120) dX11_findDue_120 fX11_70 rfl ?_
                  refine a_iload_n (pc := 123) dX11_findDue_123 rfl ?_
                  refine a_ial (pc := 124) _ dX11_findDue_124 rfl rfl (by omega) ?_
                  simp only [gF_pF, gF_pA, gF_pL, gA_pF, gA_pA, gA_pL, gL_pF, gL_pA, gL_pL, reduceIte, Nat.reduceEqDiff, and_false, false_and, and_true, true_and, and_self, e2]
                  refine a_iadd (pc := 125) dX11_findDue_125 ?_
                  try rw [nI_add]
                  refine a_aload_n (pc := 126) dX11_findDue_126 rfl ?_
                  refine a_gr (pc := 127) dX11_findDue_127 fX11_77 rfl ?_
                  refine a_iconst (pc := 130) (nI 3) dX11_findDue_130 (by decide) ?_
                  refine a_iload_n (pc := 131) dX11_findDue_131 rfl ?_
                  refine a_imul (pc := 132) dX11_findDue_132 ?_
                  try rw [pk_mul]
                  refine a_aload_n (pc := 133) dX11_findDue_133 rfl ?_
                  refine a_gr (pc := 134) dX11_findDue_134 fX11_67 rfl ?_
                  refine a_iload_n (pc := 137) dX11_findDue_137 rfl ?_
                  refine a_ial (pc := 138) _ dX11_findDue_138 rfl rfl (by omega) ?_
                  simp only [gF_pF, gF_pA, gF_pL, gA_pF, gA_pA, gA_pL, gL_pF, gL_pA, gL_pL, reduceIte, Nat.reduceEqDiff, and_false, false_and, and_true, true_and, and_self, e1]
                  refine a_iadd (pc := 139) dX11_findDue_139 ?_
                  try rw [nI_add]
                  refine a_lal (pc := 140) _ dX11_findDue_140 rfl rfl (by omega) ?_
                  simp only [gF_pF, gF_pA, gF_pL, gA_pF, gA_pA, gA_pL, gL_pF, gL_pA, gL_pL, reduceIte, Nat.reduceEqDiff, and_false, false_and, and_true, true_and, and_self]
                  rw [h1 n a.2.1 (Nat.le_refl _) o1]
                  refine a_lst (pc := 141) _ dX11_findDue_141 rfl rfl (by omega) ?_
                  refine a_aload_n (pc := 142) dX11_findDue_142 rfl ?_
                  refine a_gr (pc := 143) dX11_findDue_143 fX11_77 rfl ?_
                  refine a_iconst (pc := 146) (nI 3) dX11_findDue_146 (by decide) ?_
                  refine a_iload_n (pc := 147) dX11_findDue_147 rfl ?_
                  refine a_imul (pc := 148) dX11_findDue_148 ?_
                  try rw [pk_mul]
                  refine a_iconst (pc := 149) (nI 3) dX11_findDue_149 (by decide) ?_
                  refine a_iadd (pc := 150) dX11_findDue_150 ?_
                  try rw [nI_add]
                  refine a_aload_n (pc := 151) dX11_findDue_151 rfl ?_
                  refine a_gr (pc := 152) dX11_findDue_152 fX11_67 rfl ?_
                  refine a_iload_n (pc := 155) dX11_findDue_155 rfl ?_
                  refine a_ial (pc := 156) _ dX11_findDue_156 rfl rfl (by omega) ?_
                  simp only [gF_pF, gF_pA, gF_pL, gA_pF, gA_pA, gA_pL, gL_pF, gL_pA, gL_pL, reduceIte, Nat.reduceEqDiff, and_false, false_and, and_true, true_and, and_self, e1]
                  refine a_iadd (pc := 157) dX11_findDue_157 ?_
                  try rw [nI_add]
                  refine a_lconst (pc := 158) 0 dX11_findDue_158 (by decide) ?_
                  refine a_lst (pc := 159) _ dX11_findDue_159 rfl rfl (by omega) ?_
                  simp only [gF_pF, gF_pA, gF_pL, gA_pF, gA_pA, gA_pL, gL_pF, gL_pA, gL_pL, reduceIte, Nat.reduceEqDiff, and_false, false_and, and_true, true_and, and_self]
                  rw [pL_pL, pL_pL]
                  refine fin _ _ (fun n' k hn' hk => ?_)
                  simp only [vp_updL]
                  rcases Nat.lt_or_ge n' (n + 1) with q | q
                  · rw [if_neg (by omega), if_neg (by omega)]
                    exact h1 n' k (by omega) hk
                  · obtain rfl : n' = n + 1 := by omega
                    rw [hdn, dueS, if_neg c3, if_pos c4]
                    by_cases k1 : k = a.2.1
                    · rw [if_pos (by omega), if_pos k1]
                    · rw [if_neg (by omega), if_neg k1]
                      by_cases k2 : k = a.2.2.1
                      · rw [if_pos (by omega), if_pos k2]
                      · rw [if_neg (by omega), if_neg k2, show 3 * (n + 1) + k = 3 * n + 3 + k by omega]
                        exact h2 k hk
              · obtain ⟨e1, e2⟩ := b2 c3
                have o1 := hok.2.1 c3
                refine a_aload_n (pc := 74) dX11_findDue_74 rfl ?_
                refine a_gr (pc := 75) dX11_findDue_75 fX11_77 rfl ?_
                refine a_iconst (pc := 78) (nI 3) dX11_findDue_78 (by decide) ?_
                refine a_iload_n (pc := 79) dX11_findDue_79 rfl ?_
                refine a_imul (pc := 80) dX11_findDue_80 ?_
                try rw [pk_mul]
                refine a_iconst (pc := 81) (nI 3) dX11_findDue_81 (by decide) ?_
                refine a_iadd (pc := 82) dX11_findDue_82 ?_
                try rw [nI_add]
                refine a_aload_n (pc := 83) dX11_findDue_83 rfl ?_
                refine a_gr (pc := 84) dX11_findDue_84 fX11_67 rfl ?_
                refine a_iload_n (pc := 87) dX11_findDue_87 rfl ?_
                refine a_ial (pc := 88) _ dX11_findDue_88 rfl rfl (by omega) ?_
                simp only [gF_pF, gF_pA, gF_pL, gA_pF, gA_pA, gA_pL, gL_pF, gL_pA, gL_pL, reduceIte, Nat.reduceEqDiff, and_false, false_and, and_true, true_and, and_self, e1]
                refine a_iadd (pc := 89) dX11_findDue_89 ?_
                try rw [nI_add]
                refine a_aload_n (pc := 90) dX11_findDue_90 rfl ?_
                refine a_gr (pc := 91) dX11_findDue_91 fX11_73 rfl ?_
                refine a_iload_n (pc := 94) dX11_findDue_94 rfl ?_
                refine a_lal (pc := 95) _ dX11_findDue_95 rfl rfl (by omega) ?_
                simp only [gF_pF, gF_pA, gF_pL, gA_pF, gA_pA, gA_pL, gL_pF, gL_pA, gL_pL, reduceIte, Nat.reduceEqDiff, and_false, false_and, and_true, true_and, and_self, e2]
                refine a_lst (pc := 96) _ dX11_findDue_96 rfl rfl (by omega) ?_
                refine a_goto (pc := 97) 160 dX11_findDue_97 (by decide) ?_
                simp only [gF_pF, gF_pA, gF_pL, gA_pF, gA_pA, gA_pL, gL_pF, gL_pA, gL_pL, reduceIte, Nat.reduceEqDiff, and_false, false_and, and_true, true_and, and_self]
                rw [pL_pL]
                refine fin _ _ (fun n' k hn' hk => ?_)
                simp only [vp_updL]
                rcases Nat.lt_or_ge n' (n + 1) with q | q
                · rw [if_neg (by omega)]
                  exact h1 n' k (by omega) hk
                · obtain rfl : n' = n + 1 := by omega
                  rw [hdn, dueS, if_pos c3]
                  by_cases k1 : k = a.2.1
                  · rw [if_pos (by omega), if_pos k1]
                  · rw [if_neg (by omega), if_neg k1, show 3 * (n + 1) + k = 3 * n + 3 + k by omega]
                    exact h2 k hk
            · exact absurd c2 (by omega)
          | succ t2 ih2 =>
            intro k hk D' h1 h2
            refine a_iload_n (pc := 32) dX11_findDue_32 rfl ?_
            refine a_iconst (pc := 33) (nI 3) dX11_findDue_33 (by decide) ?_
            refine a_icmp_geN (pc := 34) 65 dX11_findDue_34 (by decide) (by omega) (by omega) (fun c2 => ?_) (fun c2 => ?_)
            · exact absurd c2 (by omega)
            · refine a_aload_n (pc := 37) dX11_findDue_37 rfl ?_
              refine a_gr (pc := 38) dX11_findDue_38 fX11_77 rfl ?_
              refine a_iconst (pc := 41) (nI 3) dX11_findDue_41 (by decide) ?_
              refine a_iload_n (pc := 42) dX11_findDue_42 rfl ?_
              refine a_imul (pc := 43) dX11_findDue_43 ?_
              try rw [pk_mul]
              refine a_iconst (pc := 44) (nI 3) dX11_findDue_44 (by decide) ?_
              refine a_iadd (pc := 45) dX11_findDue_45 ?_
              try rw [nI_add]
              refine a_iload_n (pc := 46) dX11_findDue_46 rfl ?_
              refine a_iadd (pc := 47) dX11_findDue_47 ?_
              try rw [nI_add]
              refine a_aload_n (pc := 48) dX11_findDue_48 rfl ?_
              refine a_gr (pc := 49) dX11_findDue_49 fX11_77 rfl ?_
              refine a_iconst (pc := 52) (nI 3) dX11_findDue_52 (by decide) ?_
              refine a_iload_n (pc := 53) dX11_findDue_53 rfl ?_
              refine a_imul (pc := 54) dX11_findDue_54 ?_
              try rw [pk_mul]
              refine a_iload_n (pc := 55) dX11_findDue_55 rfl ?_
              refine a_iadd (pc := 56) dX11_findDue_56 ?_
              try rw [nI_add]
              refine a_lal (pc := 57) _ dX11_findDue_57 rfl rfl (by omega) ?_
              simp only [gF_pF, gF_pA, gF_pL, gA_pF, gA_pA, gA_pL, gL_pF, gL_pA, gL_pL, reduceIte, Nat.reduceEqDiff, and_false, false_and, and_true, true_and, and_self]
              rw [h1 n k (Nat.le_refl _) (by omega)]
              refine a_lst (pc := 58) _ dX11_findDue_58 rfl rfl (by omega) ?_
              refine a_iinc (pc := 59) (ls' := [_, _, _]) (nI 1) dX11_findDue_59 (by decide) rfl (Nat.le_of_ble_eq_true rfl) rfl ?_
              try rw [nI_add]
              refine a_goto (pc := 62) 32 dX11_findDue_62 (by decide) ?_
              simp only [gF_pF, gF_pA, gF_pL, gA_pF, gA_pA, gA_pL, gL_pF, gL_pA, gL_pL, reduceIte, Nat.reduceEqDiff, and_false, false_and, and_true, true_and, and_self]
              rw [pL_pL]
              refine ih2 (k + 1) (by omega) _ (fun n' k' hn' hk' => ?_) (fun j hj => ?_)
              · simp only [vp_updL]
                rw [if_neg (by omega)]
                exact h1 n' k' hn' hk'
              · simp only [vp_updL]
                by_cases z : j = k
                · rw [if_pos (by omega), z]
                · rw [if_neg (by omega)]
                  exact h2 j (by omega)
        exact inner 3 0 (by omega) D hD (fun j h => absurd h (by omega))
  have first : ∀ t k, 3 = k + t → ∀ D : Nat → Int64, (∀ j, j < k → D j = 0) → AW mX11_findDue X Q ad 0 0 (conc (SS kd kp rp) (pL g 97 D)) 2 [some (.ref 76), some (.int (nI k)), none] [] := by
    intro t
    induction t with
    | zero =>
      intro k hk D hD
      obtain rfl : k = 3 := by omega
      refine a_iload_n (pc := 2) dX11_findDue_2 rfl ?_
      refine a_iconst (pc := 3) (nI 3) dX11_findDue_3 (by decide) ?_
      refine a_icmp_geN (pc := 4) 20 dX11_findDue_4 (by decide) (by omega) (by omega) (fun c1 => ?_) (fun c1 => ?_)
      · refine a_iconst (pc := 20) (nI 0) dX11_findDue_20 (by decide) ?_
        refine a_istore_n (pc := 21) (ls' := [_, _, _]) dX11_findDue_21 (Nat.le_of_ble_eq_true rfl) rfl ?_
        refine acts A.length 0 (by omega) D _ (fun n' k hn' hk => ?_)
        rw [show n' = 0 by omega, show 3 * 0 + k = k by omega, hD k hk]
        rfl
      · exact absurd c1 (by omega)
    | succ t ih =>
      intro k hk D hD
      refine a_iload_n (pc := 2) dX11_findDue_2 rfl ?_
      refine a_iconst (pc := 3) (nI 3) dX11_findDue_3 (by decide) ?_
      refine a_icmp_geN (pc := 4) 20 dX11_findDue_4 (by decide) (by omega) (by omega) (fun c1 => ?_) (fun c1 => ?_)
      · exact absurd c1 (by omega)
      · refine a_aload_n (pc := 7) dX11_findDue_7 rfl ?_
        refine a_gr (pc := 8) dX11_findDue_8 fX11_77 rfl ?_
        refine a_iload_n (pc := 11) dX11_findDue_11 rfl ?_
        refine a_lconst (pc := 12) 0 dX11_findDue_12 (by decide) ?_
        refine a_lst (pc := 13) _ dX11_findDue_13 rfl rfl (by omega) ?_
        refine a_iinc (pc := 14) (ls' := [_, _, _]) (nI 1) dX11_findDue_14 (by decide) rfl (Nat.le_of_ble_eq_true rfl) rfl ?_
        try rw [nI_add]
        refine a_goto (pc := 17) 2 dX11_findDue_17 (by decide) ?_
        simp only [gF_pF, gF_pA, gF_pL, gA_pF, gA_pA, gA_pL, gL_pF, gL_pA, gL_pL, reduceIte, Nat.reduceEqDiff, and_false, false_and, and_true, true_and, and_self]
        rw [pL_pL]
        refine ih (k + 1) (by omega) _ (fun j hj => ?_)
        simp only [vp_updL]
        by_cases z : j = k
        · rw [if_pos z]
        · rw [if_neg z]
          exact hD j (by omega)
  have h0 := first 3 0 (by omega) (gL g 97) (fun j h => absurd h (by omega))
  rw [pL_self] at h0
  exact h0
def rgt (D cm : Nat → Int64) (su be : Nat) : Prop := ∃ n, su ≤ n ∧ n ≤ be ∧ ∀ k, k < 3 → D (3 * n + k) = cm k
set_option maxHeartbeats 1000000 in
set_option maxRecDepth 100000 in
theorem c_isRight {d0 kd kp rp : Nat} {g : GH} (su be : Nat) (h32 : gF g 76 32 = nI su) (h33 : gF g 76 33 = nI be) (hbe : be ≤ 8) (hsu : su ≤ be) : ACi mX11_isRight d0 (SS kd kp rp) g [.ref 76] (fun r S' g' => S' = SS kd kp rp ∧ ∃ b : Bool, r = bI b ∧ g' = g ∧ (b = true ↔ rgt (gL g 97) (gL g 102) su be)) := by
  refine ACz.of lcX11_isRight rfl rfl (fun X Q ad hR ret => ?_)
  refine AW_ls (ls' := [_, _, _, _]) rfl ?_
  refine a_aload_n (pc := 0) dX11_isRight_0 rfl ?_
  refine a_gi (pc := 1) dX11_isRight_1 fX11_232 rfl ?_
  rw [h32]
  refine a_istore_n (pc := 4) (ls' := [_, _, _, _]) dX11_isRight_4 (Nat.le_of_ble_eq_true rfl) rfl ?_
  have outer : ∀ t n, be + 1 = n + t → su ≤ n → (∀ n', su ≤ n' → n' < n → ¬ ∀ k, k < 3 → gL g 97 (3 * n' + k) = gL g 102 k) → ∀ w w2 : Option Value, AW mX11_isRight X Q ad 0 0 (conc (SS kd kp rp) g) 5 [some (.ref 76), some (.int (nI n)), w, w2] [] := by
    intro t
    induction t with
    | zero =>
      intro n hn hsn hno w w2
      refine a_iload_n (pc := 5) dX11_isRight_5 rfl ?_
      refine a_aload_n (pc := 6) dX11_isRight_6 rfl ?_
      refine a_gi (pc := 7) dX11_isRight_7 fX11_235 rfl ?_
      rw [h33]
      refine a_icmp_gtN (pc := 10) 70 dX11_isRight_10 (by decide) (by omega) (by omega) (fun c1 => ?_) (fun c1 => ?_)
      · refine a_iconst (pc := 70) (nI 0) dX11_isRight_70 (by decide) ?_
        refine ret _ _ 71 _ _ dX11_isRight_71 rfl (by first | exact Or.inl rfl | exact Or.inr rfl | exact bI_01 _) ?_
        refine ⟨rfl, false, rfl, rfl, ⟨fun z => (by cases z), ?_⟩⟩
        rintro ⟨n', h1, h2, h3⟩
        exact absurd h3 (hno n' h1 (by omega))
      · exact absurd c1 (by omega)
    | succ t ih =>
      intro n hn hsn hno w w2
      refine a_iload_n (pc := 5) dX11_isRight_5 rfl ?_
      refine a_aload_n (pc := 6) dX11_isRight_6 rfl ?_
      refine a_gi (pc := 7) dX11_isRight_7 fX11_235 rfl ?_
      rw [h33]
      refine a_icmp_gtN (pc := 10) 70 dX11_isRight_10 (by decide) (by omega) (by omega) (fun c1 => ?_) (fun c1 => ?_)
      · exact absurd c1 (by omega)
      · refine a_iconst (pc := 13) (nI 1) dX11_isRight_13 (by decide) ?_
        refine a_istore_n (pc := 14) (ls' := [_, _, _, _]) dX11_isRight_14 (Nat.le_of_ble_eq_true rfl) rfl ?_
        refine a_iconst (pc := 15) (nI 0) dX11_isRight_15 (by decide) ?_
        refine a_istore_n (pc := 16) (ls' := [_, _, _, _]) dX11_isRight_16 (Nat.le_of_ble_eq_true rfl) rfl ?_
        have inner : ∀ t2 k, 3 = k + t2 → ∀ same : Bool, (same = true ↔ ∀ j, j < k → gL g 97 (3 * n + j) = gL g 102 j) → AW mX11_isRight X Q ad 0 0 (conc (SS kd kp rp) g) 17 [some (.ref 76), some (.int (nI n)), some (.int (bI same)), some (.int (nI k))] [] := by
          intro t2
          induction t2 with
          | zero =>
            intro k hk same hsm
            obtain rfl : k = 3 := by omega
            refine a_iload_n (pc := 17) dX11_isRight_17 rfl ?_
            refine a_iconst (pc := 18) (nI 3) dX11_isRight_18 (by decide) ?_
            refine a_icmp_geN (pc := 19) 58 dX11_isRight_19 (by decide) (by omega) (by omega) (fun c2 => ?_) (fun c2 => ?_)
            · refine a_iload_n (pc := 58) dX11_isRight_58 rfl ?_
              refine a_if_eqB (pc := 59) 64 dX11_isRight_59 (by decide) (fun c3 => ?_) (fun c3 => ?_)
              · refine a_iinc (pc := 64) (ls' := [_, _, _, _]) (nI 1) dX11_isRight_64 (by decide) rfl (Nat.le_of_ble_eq_true rfl) rfl ?_
                try rw [nI_add]
                refine a_goto (pc := 67) 5 dX11_isRight_67 (by decide) ?_
                refine ih (n + 1) (by omega) (by omega) (fun n' h1 h2 h3 => ?_) _ _
                rcases Nat.lt_or_ge n' n with q | q
                · exact hno n' h1 q h3
                · rw [show n' = n by omega] at h3
                  exact absurd ((hsm.mpr h3).symm.trans c3) (by decide)
              · refine a_iconst (pc := 62) (nI 1) dX11_isRight_62 (by decide) ?_
                refine ret _ _ 63 _ _ dX11_isRight_63 rfl (by first | exact Or.inl rfl | exact Or.inr rfl | exact bI_01 _) ?_
                exact ⟨rfl, true, rfl, rfl, ⟨fun _ => ⟨n, hsn, by omega, hsm.mp c3⟩, fun _ => rfl⟩⟩
            · exact absurd c2 (by omega)
          | succ t2 ih2 =>
            intro k hk same hsm
            refine a_iload_n (pc := 17) dX11_isRight_17 rfl ?_
            refine a_iconst (pc := 18) (nI 3) dX11_isRight_18 (by decide) ?_
            refine a_icmp_geN (pc := 19) 58 dX11_isRight_19 (by decide) (by omega) (by omega) (fun c2 => ?_) (fun c2 => ?_)
            · exact absurd c2 (by omega)
            · refine a_iload_n (pc := 22) dX11_isRight_22 rfl ?_
              refine AW_val2 51 (bI (same && decide (gL g 97 (3 * n + k) = gL g 102 k))) (fun hJ => ?_) ?_
              · refine a_if_eqB (pc := 23) 50 dX11_isRight_23 (by decide) (fun c3 => ?_) (fun c3 => ?_)
                · refine a_iconst (pc := 50) (nI 0) dX11_isRight_50 (by decide) ?_
                  exact AW_top (by rw [c3]; rfl) hJ
                · refine a_aload_n (pc := 26) dX11_isRight_26 rfl ?_
                  refine a_gr (pc := 27) dX11_isRight_27 fX11_77 rfl ?_
                  refine a_iconst (pc := 30) (nI 3) dX11_isRight_30 (by decide) ?_
                  refine a_iload_n (pc := 31) dX11_isRight_31 rfl ?_
                  refine a_imul (pc := 32) dX11_isRight_32 ?_
                  try rw [pk_mul]
                  refine a_iload_n (pc := 33) dX11_isRight_33 rfl ?_
                  refine a_iadd (pc := 34) dX11_isRight_34 ?_
                  try rw [nI_add]
                  refine a_lal (pc := 35) _ dX11_isRight_35 rfl rfl (by omega) ?_
                  refine a_aload_n (pc := 36) dX11_isRight_36 rfl ?_
                  refine a_gr (pc := 37) dX11_isRight_37 fX11_92 rfl ?_
                  refine a_iload_n (pc := 40) dX11_isRight_40 rfl ?_
                  refine a_lal (pc := 41) _ dX11_isRight_41 rfl rfl (by omega) ?_
                  refine a_lcmp (pc := 42) dX11_isRight_42 ?_
                  refine a_if_ne (pc := 43) 50 dX11_isRight_43 (by decide) (fun c4 => ?_) (fun c4 => ?_)
                  · refine a_iconst (pc := 50) (nI 0) dX11_isRight_50 (by decide) ?_
                    exact AW_top (by rw [c3, decide_eq_false (fun z => c4 ((lg_cmp_eq _ _).mpr z))]; rfl) hJ
                  · refine a_iconst (pc := 46) (nI 1) dX11_isRight_46 (by decide) ?_
                    refine a_goto (pc := 47) 51 dX11_isRight_47 (by decide) ?_
                    exact AW_top (by rw [c3, decide_eq_true ((lg_cmp_eq _ _).mp c4)]; rfl) hJ
              refine a_istore_n (pc := 51) (ls' := [_, _, _, _]) dX11_isRight_51 (Nat.le_of_ble_eq_true rfl) rfl ?_
              refine a_iinc (pc := 52) (ls' := [_, _, _, _]) (nI 1) dX11_isRight_52 (by decide) rfl (Nat.le_of_ble_eq_true rfl) rfl ?_
              try rw [nI_add]
              refine a_goto (pc := 55) 17 dX11_isRight_55 (by decide) ?_
              refine ih2 (k + 1) (by omega) _ ?_
              rw [Bool.and_eq_true, hsm, decide_eq_true_iff]
              constructor
              · rintro ⟨h1, h2⟩ j hj
                rcases Nat.lt_or_ge j k with q | q
                · exact h1 j q
                · rw [show j = k by omega]
                  exact h2
              · intro h
                exact ⟨fun j hj => h j (by omega), h k (by omega)⟩
        exact inner 3 0 (by omega) true ⟨fun _ j h => absurd h (by omega), fun _ => rfl⟩
  exact outer (be + 1 - su) su (by omega) (Nat.le_refl _) (fun n' h1 h2 => absurd h2 (by omega)) none none
