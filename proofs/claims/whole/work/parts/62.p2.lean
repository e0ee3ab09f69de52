/-! the class's script, and what is due -/
def CSc (g : GH) (A : List Ac) : Prop := gF g 21 4 = nI A.length ∧ A.length ≤ 8 ∧ ∀ n a, A[n]? = some a → okA a ∧ gA g 22 n = nI a.1 ∧ (a.1 = 0 → gA g 23 n = nI a.2.1 ∧ gL g 25 n = a.2.2.2) ∧ (a.1 = 1 → gA g 23 n = nI a.2.1 ∧ gA g 24 n = nI a.2.2.1)
theorem CSc.fr {g g' : GH} {A : List Ac} {B : List Nat} (h : CSc g A) (f : Fr B g g') (h1 : 21 ∉ B) (h2 : 22 ∉ B) (h3 : 23 ∉ B) (h4 : 24 ∉ B) (h5 : 25 ∉ B) : CSc g' A := by
  unfold CSc at h ⊢
  rw [f.f h1, f.a h2, f.a h3, f.a h4, f.l h5]
  exact h
abbrev duL : List Nat := [52, 53, 54, 55, 56, 57, 58, 59, 60]
theorem due_at {kd kp rp : Nat} : ∀ j, j < 9 → arAt (SS kd kp rp) 51 4 j = some (52 + j)
  | 0, _ => rfl
  | 1, _ => rfl
  | 2, _ => rfl
  | 3, _ => rfl
  | 4, _ => rfl
  | 5, _ => rfl
  | 6, _ => rfl
  | 7, _ => rfl
  | 8, _ => rfl
  | n + 9, h => absurd h (by omega)
theorem due_ai {kd kp rp : Nat} : ∀ j, j < 9 → aiAt (SS kd kp rp) (52 + j) 0 = some 6
  | 0, _ => rfl
  | 1, _ => rfl
  | 2, _ => rfl
  | 3, _ => rfl
  | 4, _ => rfl
  | 5, _ => rfl
  | 6, _ => rfl
  | 7, _ => rfl
  | 8, _ => rfl
  | n + 9, h => absurd h (by omega)
theorem due_in : ∀ j, j < 9 → 52 + j ∈ duL
  | 0, _ => by decide
  | 1, _ => by decide
  | 2, _ => by decide
  | 3, _ => by decide
  | 4, _ => by decide
  | 5, _ => by decide
  | 6, _ => by decide
  | 7, _ => by decide
  | 8, _ => by decide
  | n + 9, h => absurd h (by omega)
def rowD (f : Nat → Int32) (d : Nat → Int64) : Prop := ∀ k, k < 3 → f (2 * k) = hi32 (d k) ∧ f (2 * k + 1) = (d k).toInt32
def DuC (g : GH) (A : List Ac) : Prop := ∀ n, n ≤ A.length → rowD (gA g (52 + n)) (dueP A n)
theorem DuC.fr {g g' : GH} {A : List Ac} {B : List Nat} (h : DuC g A) (h8 : A.length ≤ 8) (f : Fr B g g') (hB : ∀ j, j < 9 → 52 + j ∉ B) : DuC g' A := fun n hn => by
  rw [f.a (hB n (by omega))]
  exact h n hn
set_option maxHeartbeats 1000000 in
set_option maxRecDepth 100000 in
theorem c_append {d0 kd kp rp : Nat} {g : GH} (A : List Ac) (a : Ac) (w k l : Int32) (v : Int64) (hA : CSc g A) (h8 : A.length < 8) (ha : okA a) (hw : w = nI a.1) (h0 : a.1 = 0 → k = nI a.2.1 ∧ v = a.2.2.2) (h1 : a.1 = 1 → k = nI a.2.1 ∧ l = nI a.2.2.1) : ACv mX7_append d0 (SS kd kp rp) g [.ref 21, .int w, .int k, .int l, .long v] (fun S' g' => S' = SS kd kp rp ∧ CSc g' (A ++ [a]) ∧ Fr [21, 22, 23, 24, 25] g g') := by
  have h4 := hA.1
  refine ACv.of lcX7_append rfl rfl (fun X Q ad hR ret => ?_)
  refine AW_ls (ls' := [_, _, _, _, _, _]) rfl ?_
  refine a_aload_n (pc := 0) dX7_append_0 rfl ?_
  refine a_gi (pc := 1) dX7_append_1 fX7_25 rfl ?_
  rw [h4]
  refine a_bipush (pc := 4) (nI 8) dX7_append_4 (by decide) ?_
  refine a_icmp_geN (pc := 6) 60 dX7_append_6 (by decide) (by omega) (by omega) (fun c1 => ?_) (fun c1 => ?_)
  · exact absurd c1 (by omega)
  · refine a_aload_n (pc := 9) dX7_append_9 rfl ?_
    refine a_gr (pc := 10) dX7_append_10 fX7_9 rfl ?_
    refine a_aload_n (pc := 13) dX7_append_13 rfl ?_
    refine a_gi (pc := 14) dX7_append_14 fX7_25 rfl ?_
    rw [h4]
    refine a_iload_n (pc := 17) dX7_append_17 rfl ?_
    refine a_ast (pc := 18) _ dX7_append_18 rfl rfl (by omega) ?_
    refine a_aload_n (pc := 19) dX7_append_19 rfl ?_
    refine a_gr (pc := 20) dX7_append_20 fX7_15 rfl ?_
    refine a_aload_n (pc := 23) dX7_append_23 rfl ?_
    refine a_gi (pc := 24) dX7_append_24 fX7_25 rfl ?_
    simp only [gF_pF, gF_pA, gF_pL, gA_pF, gA_pA, gA_pL, gL_pF, gL_pA, gL_pL, reduceIte, Nat.reduceEqDiff, and_false, false_and, and_true, true_and, and_self, h4]
    refine a_iload_n (pc := 27) dX7_append_27 rfl ?_
    refine a_ast (pc := 28) _ dX7_append_28 rfl rfl (by omega) ?_
    refine a_aload_n (pc := 29) dX7_append_29 rfl ?_
    refine a_gr (pc := 30) dX7_append_30 fX7_18 rfl ?_
    refine a_aload_n (pc := 33) dX7_append_33 rfl ?_
    refine a_gi (pc := 34) dX7_append_34 fX7_25 rfl ?_
    simp only [gF_pF, gF_pA, gF_pL, gA_pF, gA_pA, gA_pL, gL_pF, gL_pA, gL_pL, reduceIte, Nat.reduceEqDiff, and_false, false_and, and_true, true_and, and_self, h4]
    refine a_iload_n (pc := 37) dX7_append_37 rfl ?_
    refine a_ast (pc := 38) _ dX7_append_38 rfl rfl (by omega) ?_
    refine a_aload_n (pc := 39) dX7_append_39 rfl ?_
    refine a_gr (pc := 40) dX7_append_40 fX7_21 rfl ?_
    refine a_aload_n (pc := 43) dX7_append_43 rfl ?_
    refine a_gi (pc := 44) dX7_append_44 fX7_25 rfl ?_
    simp only [gF_pF, gF_pA, gF_pL, gA_pF, gA_pA, gA_pL, gL_pF, gL_pA, gL_pL, reduceIte, Nat.reduceEqDiff, and_false, false_and, and_true, true_and, and_self, h4]
    refine a_lload (pc := 47) dX7_append_47 rfl ?_
    refine a_lst (pc := 49) _ dX7_append_49 rfl rfl (by omega) ?_
    refine a_aload_n (pc := 50) dX7_append_50 rfl ?_
    refine a_dup (pc := 51) dX7_append_51 rfl ?_
    refine a_gi (pc := 52) dX7_append_52 fX7_25 rfl ?_
    refine a_iconst (pc := 55) (nI 1) dX7_append_55 (by decide) ?_
    refine a_iadd (pc := 56) dX7_append_56 ?_
    try rw [nI_add]
    refine a_pi (pc := 57) dX7_append_57 fX7_25 rfl ?_
    refine ret _ _ 60 _ dX7_append_60 rfl ?_
    refine ⟨rfl, ⟨?_, ?_, fun n b hb => ?_⟩, (((((Fr.rf _ g).sA (by decide) _).sA (by decide) _).sA (by decide) _).sL (by decide) _).sF (by decide) _ _⟩
    · simp only [gF_pF, gF_pA, gF_pL, gA_pF, gA_pA, gA_pL, gL_pF, gL_pA, gL_pL, reduceIte, Nat.reduceEqDiff, and_false, false_and, and_true, true_and, and_self, h4]
      rw [nI_add, List.length_append, List.length_singleton]
    · rw [List.length_append, List.length_singleton]
      omega
    · by_cases z : n = A.length
      · subst z
        rw [List.getElem?_concat_length] at hb
        cases hb
        simp only [gF_pF, gF_pA, gF_pL, gA_pF, gA_pA, gA_pL, gL_pF, gL_pA, gL_pL, reduceIte, Nat.reduceEqDiff, and_false, false_and, and_true, true_and, and_self, upd, vp_updL]
        exact ⟨ha, hw, fun z => ⟨(h0 z).1, (h0 z).2⟩, fun z => h1 z⟩
      · have hn : n < A.length := by
          have : n < (A ++ [a]).length := (List.getElem?_eq_some_iff.mp hb).1
          rw [List.length_append, List.length_singleton] at this
          omega
        rw [List.getElem?_append_left hn] at hb
        have := hA.2.2 n b hb
        simp only [gF_pF, gF_pA, gF_pL, gA_pF, gA_pA, gA_pL, gL_pF, gL_pA, gL_pL, reduceIte, Nat.reduceEqDiff, and_false, false_and, and_true, true_and, and_self, upd, vp_updL]
        rw [if_neg z, if_neg z, if_neg z, if_neg z]
        exact this
theorem rowD.put {f f' : Nat → Int32} {d : Nat → Int64} {k : Nat} {v : Int64} (h : rowD f d) (hk : k < 3) (e : ∀ j, j < 6 → f' j = if j = 2 * k then hi32 v else if j = 2 * k + 1 then v.toInt32 else f j) : rowD f' (fun x => if x = k then v else d x) := by
  intro x hx
  show f' (2 * x) = hi32 (if x = k then v else d x) ∧ f' (2 * x + 1) = (if x = k then v else d x).toInt32
  rw [e (2 * x) (by omega), e (2 * x + 1) (by omega)]
  by_cases z : x = k
  · subst z
    rw [if_pos (rfl : 2 * x = 2 * x), if_neg (by omega : ¬ 2 * x + 1 = 2 * x), if_pos (rfl : 2 * x + 1 = 2 * x + 1), if_pos (rfl : x = x)]
    exact ⟨rfl, rfl⟩
  · rw [if_neg (by omega : ¬ 2 * x = 2 * k), if_neg (by omega : ¬ 2 * x = 2 * k + 1), if_neg (by omega : ¬ 2 * x + 1 = 2 * k), if_neg (by omega : ¬ 2 * x + 1 = 2 * k + 1), if_neg z]
    exact h x hx
theorem rowD.congr {f : Nat → Int32} {d d' : Nat → Int64} (h : rowD f d) (e : ∀ k, k < 3 → d k = d' k) : rowD f d' := fun k hk => by
  rw [← e k hk]
  exact h k hk
set_option maxHeartbeats 1000000 in
set_option maxRecDepth 100000 in
theorem c_foresee {d0 kd kp rp : Nat} {g : GH} (A : List Ac) (hA : CSc g A) : ACv mX7_foresee (d0 + 1) (SS kd kp rp) g [.ref 21, .ref 51] (fun S' g' => S' = SS kd kp rp ∧ DuC g' A ∧ Fr duL g g') := by
  have h8 := hA.2.1
  refine ACv.of lcX7_foresee rfl rfl (fun X Q ad hR ret => ?_)
  refine AW_ls (ls' := [_, _, _, _, _, _]) rfl ?_
  refine a_aload_n (pc := 0) dX7_foresee_0 rfl ?_
  refine a_iconst (pc := 1) (nI 0) dX7_foresee_1 (by decide) ?_
  refine a_aal (pc := 2) 4 0 (Or.inr rfl) dX7_foresee_2 (due_at 0 (by decide)) rfl ?_
  refine a_iconst (pc := 3) (nI 0) dX7_foresee_3 (by decide) ?_
  refine a_S2v (pc := 4) dX7_foresee_4 lcJ7_fill_53178 lX7_29 (fit_of hR (by omega) rfl) (c_fill (d0 := d0) 52 6 (nI 0) rfl (by decide)) rfl rfl (fun S' g' hS hp => ?_)
  obtain ⟨rfl, hz, hf0, -⟩ := hp
  refine a_iconst (pc := 7) (nI 0) dX7_foresee_7 (by decide) ?_
  refine a_istore_n (pc := 8) (ls' := [_, _, _, _, _, _]) dX7_foresee_8 (Nat.le_of_ble_eq_true rfl) rfl ?_
  have loop : ∀ t i, A.length = i + t → ∀ (g1 : GH) (w3 : Option Value) (x4 x5 : Option Value), Fr duL g g1 → (∀ n, n ≤ i → rowD (gA g1 (52 + n)) (dueP A n)) → AW mX7_foresee X Q ad 0 0 (conc (SS kd kp rp) g1) 9 [some (.ref 21), some (.ref 51), some (.int (nI i)), w3, x4, x5] [] := by
    intro t
    induction t with
    | zero =>
      intro i hi g1 w3 x4 x5 hfr hrow
      have hA1 := hA.fr hfr (by decide) (by decide) (by decide) (by decide) (by decide)
      refine a_iload_n (pc := 9) dX7_foresee_9 rfl ?_
      refine a_aload_n (pc := 10) dX7_foresee_10 rfl ?_
      refine a_gi (pc := 11) dX7_foresee_11 fX7_25 rfl ?_
      rw [hA1.1]
      refine a_icmp_geN (pc := 14) 142 dX7_foresee_14 (by decide) (by omega) (by omega) (fun c1 => ?_) (fun c1 => ?_)
      · refine ret _ _ 142 _ dX7_foresee_142 rfl ?_
        exact ⟨rfl, fun n hn => hrow n (by omega), hfr⟩
      · exact absurd c1 (by omega)
    | succ t ih =>
      intro i hi g1 w3 x4 x5 hfr hrow
      have hA1 := hA.fr hfr (by decide) (by decide) (by decide) (by decide) (by decide)
      have ha : A[i]? = some A[i] := List.getElem?_eq_getElem (by omega)
      generalize A[i] = a at ha
      obtain ⟨ok, e22, e0, e1⟩ := hA1.2.2 i a ha
      have hds := dueP_s ha
      refine a_iload_n (pc := 9) dX7_foresee_9 rfl ?_
      refine a_aload_n (pc := 10) dX7_foresee_10 rfl ?_
      refine a_gi (pc := 11) dX7_foresee_11 fX7_25 rfl ?_
      rw [hA1.1]
      refine a_icmp_geN (pc := 14) 142 dX7_foresee_14 (by decide) (by omega) (by omega) (fun c1 => ?_) (fun c1 => ?_)
      · exact absurd c1 (by omega)
      · refine a_aload_n (pc := 17) dX7_foresee_17 rfl ?_
        refine a_iload_n (pc := 18) dX7_foresee_18 rfl ?_
        refine a_iconst (pc := 19) (nI 1) dX7_foresee_19 (by decide) ?_
        refine a_iadd (pc := 20) dX7_foresee_20 ?_
        try rw [nI_add]
        refine a_aal (pc := 21) 4 (i + 1) (Or.inr rfl) dX7_foresee_21 (due_at (i + 1) (by omega)) rfl ?_
        refine a_astore_n (pc := 22) (ls' := [_, _, _, _, _, _]) dX7_foresee_22 (Nat.le_of_ble_eq_true rfl) rfl ?_
        refine a_aload_n (pc := 23) dX7_foresee_23 rfl ?_
        refine a_iload_n (pc := 24) dX7_foresee_24 rfl ?_
        refine a_aal (pc := 25) 4 i (Or.inr rfl) dX7_foresee_25 (due_at i (by omega)) rfl ?_
        refine a_iconst (pc := 26) (nI 0) dX7_foresee_26 (by decide) ?_
        refine a_aload_n (pc := 27) dX7_foresee_27 rfl ?_
        refine a_iconst (pc := 28) (nI 0) dX7_foresee_28 (by decide) ?_
        refine a_bipush (pc := 29) (nI 6) dX7_foresee_29 (by decide) ?_
        refine a_copy (pc := 31) 0 0 6 dX7_foresee_31 lX7_35 hR (by omega) (due_ai i (by omega)) (due_ai (i + 1) (by omega)) (by decide) (by decide) rfl ?_
        generalize hg2 : pA g1 (52 + (i + 1)) (va_cpy (gA g1 (52 + i)) (gA g1 (52 + (i + 1))) 0 0 6) = g2
        have f2 : Fr duL g g2 := by
          rw [← hg2]
          exact hfr.sA (due_in (i + 1) (by omega)) _
        have hA2 := hA.fr f2 (by decide) (by decide) (by decide) (by decide) (by decide)
        obtain ⟨-, e22, e0, e1⟩ := hA2.2.2 i a ha
        have hr2 : ∀ n, n ≤ i → rowD (gA g2 (52 + n)) (dueP A n) := fun n hn => by
          rw [← hg2, gA_pA, if_neg (by omega)]
          exact hrow n hn
        have hr3 : rowD (gA g2 (52 + (i + 1))) (dueP A i) := by
          intro k hk
          rw [← hg2, gA_pA, if_pos rfl, pk_cpy_in (by omega) (by omega), pk_cpy_in (by omega) (by omega)]
          have := hrow i (Nat.le_refl _) k hk
          simpa using this
        have fin : ∀ (g3 : GH) (y3 : Nat) (y4 y5 : Int32), Fr duL g g3 → (∀ n, n ≤ i → gA g3 (52 + n) = gA g2 (52 + n)) → rowD (gA g3 (52 + (i + 1))) (dueP A (i + 1)) → AW mX7_foresee X Q ad 0 0 (conc (SS kd kp rp) g3) 136 [some (.ref 21), some (.ref 51), some (.int (nI i)), some (.ref y3), some (.int y4), some (.int y5)] [] := by
          intro g3 y3 y4 y5 hf3 hn3 hr
          refine a_iinc (pc := 136) (ls' := [_, _, _, _, _, _]) (nI 1) dX7_foresee_136 (by decide) rfl (Nat.le_of_ble_eq_true rfl) rfl ?_
          try rw [nI_add]
          refine a_goto (pc := 139) 9 dX7_foresee_139 (by decide) ?_
          refine ih (i + 1) (by omega) g3 _ _ _ hf3 (fun n hn => ?_)
          by_cases z : n = i + 1
          · rw [z]
            exact hr
          · rw [hn3 n (by omega)]
            exact hr2 n (by omega)
        refine a_iconst (pc := 34) (nI 2) dX7_foresee_34 (by decide) ?_
        refine a_aload_n (pc := 35) dX7_foresee_35 rfl ?_
        refine a_gr (pc := 36) dX7_foresee_36 fX7_15 rfl ?_
        refine a_iload_n (pc := 39) dX7_foresee_39 rfl ?_
        refine a_ial (pc := 40) _ dX7_foresee_40 rfl rfl (by omega) ?_
        by_cases z0 : a.1 = 0
        · obtain ⟨k0, v0⟩ := e0 z0
          have hk := ok.2.1 z0
          rw [k0]
          refine a_imul (pc := 41) dX7_foresee_41 ?_
          try rw [pk_mul]
          refine a_istore (pc := 42) (ls' := [_, _, _, _, _, _]) dX7_foresee_42 (Nat.le_of_ble_eq_true rfl) rfl ?_
          refine a_iconst (pc := 44) (nI 2) dX7_foresee_44 (by decide) ?_
          refine a_aload_n (pc := 45) dX7_foresee_45 rfl ?_
          refine a_gr (pc := 46) dX7_foresee_46 fX7_18 rfl ?_
          refine a_iload_n (pc := 49) dX7_foresee_49 rfl ?_
          refine a_ial (pc := 50) _ dX7_foresee_50 rfl rfl (by omega) ?_
          refine a_imul (pc := 51) dX7_foresee_51 ?_
          try rw [pk_mul]
          refine a_istore (pc := 52) (ls' := [_, _, _, _, _, _]) dX7_foresee_52 (Nat.le_of_ble_eq_true rfl) rfl ?_
          refine a_aload_n (pc := 54) dX7_foresee_54 rfl ?_
          refine a_gr (pc := 55) dX7_foresee_55 fX7_9 rfl ?_
          refine a_iload_n (pc := 58) dX7_foresee_58 rfl ?_
          refine a_ial (pc := 59) _ dX7_foresee_59 rfl rfl (by omega) ?_
          rw [e22, z0]
          refine a_if_neN (pc := 60) 94 dX7_foresee_60 (by decide) (by omega) (fun c2 => ?_) (fun c2 => ?_)
          · exact absurd rfl c2
          · refine a_aload_n (pc := 63) dX7_foresee_63 rfl ?_
            refine a_iload (pc := 64) dX7_foresee_64 rfl ?_
            refine a_aload_n (pc := 66) dX7_foresee_66 rfl ?_
            refine a_gr (pc := 67) dX7_foresee_67 fX7_21 rfl ?_
            refine a_iload_n (pc := 70) dX7_foresee_70 rfl ?_
            refine a_lal (pc := 71) _ dX7_foresee_71 rfl rfl (by omega) ?_
            rw [v0]
            refine a_S1i (pc := 72) dX7_foresee_72 lcX10_high lX7_41 (fit_of hR (by omega) rfl) (c_khigh (d0 := d0) a.2.2.2) rfl rfl (ex_i ?_)
            refine a_ast (pc := 75) (2 * a.2.1) dX7_foresee_75 (due_ai (i + 1) (by omega)) rfl (by omega) ?_
            refine a_aload_n (pc := 76) dX7_foresee_76 rfl ?_
            refine a_iload (pc := 77) dX7_foresee_77 rfl ?_
            refine a_iconst (pc := 79) (nI 1) dX7_foresee_79 (by decide) ?_
            refine a_iadd (pc := 80) dX7_foresee_80 ?_
            try rw [nI_add]
            refine a_aload_n (pc := 81) dX7_foresee_81 rfl ?_
            refine a_gr (pc := 82) dX7_foresee_82 fX7_21 rfl ?_
            refine a_iload_n (pc := 85) dX7_foresee_85 rfl ?_
            refine a_lal (pc := 86) _ dX7_foresee_86 rfl rfl (by omega) ?_
            rw [show gL (pA g2 (52 + (i + 1)) (upd (gA g2 (52 + (i + 1))) (2 * a.2.1) (hi32 a.2.2.2))) 25 i = a.2.2.2 from v0]
            refine a_S1i (pc := 87) dX7_foresee_87 lcX10_low lX7_45 (fit_of hR (by omega) rfl) (c_klow (d0 := d0) a.2.2.2) rfl rfl (ex_i ?_)
            refine a_ast (pc := 90) (2 * a.2.1 + 1) dX7_foresee_90 (due_ai (i + 1) (by omega)) rfl (by omega) ?_
            refine a_goto (pc := 91) 136 dX7_foresee_91 (by decide) ?_
            refine fin _ _ _ _ ((f2.sA (due_in (i + 1) (by omega)) _).sA (due_in (i + 1) (by omega)) _) (fun n hn => by rw [gA_pA, if_neg (by omega), gA_pA, if_neg (by omega)]) ?_
            rw [hds]
            refine (hr3.put hk (v := a.2.2.2) (fun j hj => ?_)).congr (fun x hx => by rw [dueS, if_pos z0])
            rw [gA_pA, if_pos rfl, gA_pA, if_pos rfl]
            simp only [upd]
            by_cases q1 : j = 2 * a.2.1
            · rw [if_neg (by omega), if_pos q1, if_pos q1]
            · rw [if_neg q1, if_neg q1]
        · by_cases z1 : a.1 = 1
          · obtain ⟨k0, l0⟩ := e1 z1
            have hk := ok.2.2 z1
            rw [k0]
            refine a_imul (pc := 41) dX7_foresee_41 ?_
            try rw [pk_mul]
            refine a_istore (pc := 42) (ls' := [_, _, _, _, _, _]) dX7_foresee_42 (Nat.le_of_ble_eq_true rfl) rfl ?_
            refine a_iconst (pc := 44) (nI 2) dX7_foresee_44 (by decide) ?_
            refine a_aload_n (pc := 45) dX7_foresee_45 rfl ?_
            refine a_gr (pc := 46) dX7_foresee_46 fX7_18 rfl ?_
            refine a_iload_n (pc := 49) dX7_foresee_49 rfl ?_
            refine a_ial (pc := 50) _ dX7_foresee_50 rfl rfl (by omega) ?_
            rw [l0]
            refine a_imul (pc := 51) dX7_foresee_51 ?_
            try rw [pk_mul]
            refine a_istore (pc := 52) (ls' := [_, _, _, _, _, _]) dX7_foresee_52 (Nat.le_of_ble_eq_true rfl) rfl ?_
            refine a_aload_n (pc := 54) dX7_foresee_54 rfl ?_
            refine a_gr (pc := 55) dX7_foresee_55 fX7_9 rfl ?_
            refine a_iload_n (pc := 58) dX7_foresee_58 rfl ?_
            refine a_ial (pc := 59) _ dX7_foresee_59 rfl rfl (by omega) ?_
            rw [e22, z1]
            refine a_if_neN (pc := 60) 94 dX7_foresee_60 (by decide) (by omega) (fun c2 => ?_) (fun c2 => ?_)
            · refine a_aload_n (pc := 94) dX7_foresee_94 rfl ?_
              refine a_gr (pc := 95) dX7_foresee_95 fX7_9 rfl ?_
              refine a_iload_n (pc := 98) dX7_foresee_98 rfl ?_
              refine a_ial (pc := 99) _ dX7_foresee_99 rfl rfl (by omega) ?_
              rw [e22, z1]
              refine a_iconst (pc := 100) (nI 1) dX7_foresee_100 (by decide) ?_
              refine a_icmp_neN (pc := 101) 136 dX7_foresee_101 (by decide) (by omega) (by omega) (fun c3 => ?_) (fun c3 => ?_)
              · exact absurd rfl c3
              · refine a_aload_n (pc := 104) dX7_foresee_104 rfl ?_
                refine a_iload (pc := 105) dX7_foresee_105 rfl ?_
                refine a_aload_n (pc := 107) dX7_foresee_107 rfl ?_
                refine a_iload (pc := 108) dX7_foresee_108 rfl ?_
                refine a_ial (pc := 110) (2 * a.2.1) dX7_foresee_110 (due_ai (i + 1) (by omega)) rfl (by omega) ?_
                refine a_ast (pc := 111) (2 * a.2.2.1) dX7_foresee_111 (due_ai (i + 1) (by omega)) rfl (by omega) ?_
                refine a_aload_n (pc := 112) dX7_foresee_112 rfl ?_
                refine a_iload (pc := 113) dX7_foresee_113 rfl ?_
                refine a_iconst (pc := 115) (nI 1) dX7_foresee_115 (by decide) ?_
                refine a_iadd (pc := 116) dX7_foresee_116 ?_
                try rw [nI_add]
                refine a_aload_n (pc := 117) dX7_foresee_117 rfl ?_
                refine a_iload (pc := 118) dX7_foresee_118 rfl ?_
                refine a_iconst (pc := 120) (nI 1) dX7_foresee_120 (by decide) ?_
                refine a_iadd (pc := 121) dX7_foresee_121 ?_
                try rw [nI_add]
                refine a_ial (pc := 122) (2 * a.2.1 + 1) dX7_foresee_122 (due_ai (i + 1) (by omega)) rfl (by omega) ?_
                refine a_ast (pc := 123) (2 * a.2.2.1 + 1) dX7_foresee_123 (due_ai (i + 1) (by omega)) rfl (by omega) ?_
                refine a_aload_n (pc := 124) dX7_foresee_124 rfl ?_
                refine a_iload (pc := 125) dX7_foresee_125 rfl ?_
                refine a_iconst (pc := 127) (nI 0) dX7_foresee_127 (by decide) ?_
                refine a_ast (pc := 128) (2 * a.2.1) dX7_foresee_128 (due_ai (i + 1) (by omega)) rfl (by omega) ?_
                refine a_aload_n (pc := 129) dX7_foresee_129 rfl ?_
                refine a_iload (pc := 130) dX7_foresee_130 rfl ?_
                refine a_iconst (pc := 132) (nI 1) dX7_foresee_132 (by decide) ?_
                refine a_iadd (pc := 133) dX7_foresee_133 ?_
                try rw [nI_add]
                refine a_iconst (pc := 134) (nI 0) dX7_foresee_134 (by decide) ?_
                refine a_ast (pc := 135) (2 * a.2.1 + 1) dX7_foresee_135 (due_ai (i + 1) (by omega)) rfl (by omega) ?_
                refine fin _ _ _ _ ((((f2.sA (due_in (i + 1) (by omega)) _).sA (due_in (i + 1) (by omega)) _).sA (due_in (i + 1) (by omega)) _).sA (due_in (i + 1) (by omega)) _) (fun n hn => by rw [gA_pA, if_neg (by omega), gA_pA, if_neg (by omega), gA_pA, if_neg (by omega), gA_pA, if_neg (by omega)]) ?_
                rw [hds]
                have r1 := (hr3.put (k := a.2.2.1) hk.2.1 (v := dueP A i a.2.1) (fun j hj => rfl)).put (k := a.2.1) hk.1 (v := 0) (fun j hj => rfl)
                intro x hx
                have r2 := r1 x hx
                have hkk := hr3 a.2.1 hk.1
                rw [show dueS a (dueP A i) x = (if x = a.2.1 then 0 else if x = a.2.2.1 then dueP A i a.2.1 else dueP A i x) by rw [dueS, if_neg z0, if_pos z1]]
                rw [← r2.1, ← r2.2]
                simp only [gA_pA, if_pos, upd]
                rw [hi0, lo0, ← hkk.1, ← hkk.2]
                have hne := hk.2.2
                refine ⟨?_, ?_⟩
                · by_cases q1 : x = a.2.1
                  · simp [q1]
                  · by_cases q2 : x = a.2.2.1
                    · subst q2
                      simp [show ¬ 2 * a.2.2.1 = 2 * a.2.1 by omega, show ¬ 2 * a.2.2.1 = 2 * a.2.1 + 1 by omega, show ¬ 2 * a.2.2.1 = 2 * a.2.2.1 + 1 by omega]
                    · simp [show ¬ 2 * x = 2 * a.2.1 by omega, show ¬ 2 * x = 2 * a.2.1 + 1 by omega, show ¬ 2 * x = 2 * a.2.2.1 + 1 by omega, show ¬ 2 * x = 2 * a.2.2.1 by omega]
                · by_cases q1 : x = a.2.1
                  · simp [q1]
                  · by_cases q2 : x = a.2.2.1
                    · subst q2
                      simp [show ¬ 2 * a.2.2.1 + 1 = 2 * a.2.1 by omega, show ¬ 2 * a.2.2.1 + 1 = 2 * a.2.1 + 1 by omega, show ¬ 2 * a.2.1 + 1 = 2 * a.2.2.1 by omega, show ¬ 2 * a.2.2.1 + 1 = 2 * a.2.2.1 by omega]
                    · simp [show ¬ 2 * x = 2 * a.2.1 by omega, show ¬ 2 * x = 2 * a.2.2.1 by omega, show ¬ 2 * a.2.1 + 1 = 2 * a.2.2.1 by omega, show ¬ 2 * x + 1 = 2 * a.2.1 by omega, show ¬ 2 * x + 1 = 2 * a.2.1 + 1 by omega, show ¬ 2 * x + 1 = 2 * a.2.2.1 + 1 by omega, show ¬ 2 * x + 1 = 2 * a.2.2.1 by omega]
            · exact absurd c2 (by decide)
          · have ok1 := ok.1
            have z2 : a.1 = 2 := by omega
            refine a_imul (pc := 41) dX7_foresee_41 ?_
            try rw [pk_mul]
            refine a_istore (pc := 42) (ls' := [_, _, _, _, _, _]) dX7_foresee_42 (Nat.le_of_ble_eq_true rfl) rfl ?_
            refine a_iconst (pc := 44) (nI 2) dX7_foresee_44 (by decide) ?_
            refine a_aload_n (pc := 45) dX7_foresee_45 rfl ?_
            refine a_gr (pc := 46) dX7_foresee_46 fX7_18 rfl ?_
            refine a_iload_n (pc := 49) dX7_foresee_49 rfl ?_
            refine a_ial (pc := 50) _ dX7_foresee_50 rfl rfl (by omega) ?_
            refine a_imul (pc := 51) dX7_foresee_51 ?_
            try rw [pk_mul]
            refine a_istore (pc := 52) (ls' := [_, _, _, _, _, _]) dX7_foresee_52 (Nat.le_of_ble_eq_true rfl) rfl ?_
            refine a_aload_n (pc := 54) dX7_foresee_54 rfl ?_
            refine a_gr (pc := 55) dX7_foresee_55 fX7_9 rfl ?_
            refine a_iload_n (pc := 58) dX7_foresee_58 rfl ?_
            refine a_ial (pc := 59) _ dX7_foresee_59 rfl rfl (by omega) ?_
            rw [e22, z2]
            refine a_if_neN (pc := 60) 94 dX7_foresee_60 (by decide) (by omega) (fun c2 => ?_) (fun c2 => ?_)
            · refine a_aload_n (pc := 94) dX7_foresee_94 rfl ?_
              refine a_gr (pc := 95) dX7_foresee_95 fX7_9 rfl ?_
              refine a_iload_n (pc := 98) dX7_foresee_98 rfl ?_
              refine a_ial (pc := 99) _ dX7_foresee_99 rfl rfl (by omega) ?_
              rw [e22, z2]
              refine a_iconst (pc := 100) (nI 1) dX7_foresee_100 (by decide) ?_
              refine a_icmp_neN (pc := 101) 136 dX7_foresee_101 (by decide) (by omega) (by omega) (fun c3 => ?_) (fun c3 => ?_)
              · refine fin _ _ _ _ f2 (fun n hn => rfl) ?_
                rw [hds]
                exact hr3.congr (fun x hx => by rw [dueS, if_neg z0, if_neg z1])
              · exact absurd c3 (by decide)
            · exact absurd c2 (by decide)
  refine loop A.length 0 (by omega) _ _ _ _ (hf0.mono (by decide)) (fun n hn => ?_)
  rw [show n = 0 by omega]
  intro k hk
  rw [hz _ (by omega), hz _ (by omega)]
  exact ⟨hi0.symm, lo0.symm⟩
