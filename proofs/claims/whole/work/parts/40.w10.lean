theorem KG.th0 (g : GH) : th0 g = pF g 76 0 (nI 0) := rfl
set_option maxRecDepth 100000 in
theorem c_mthrough1 {d0 kd kp rp : Nat} {g : GH} (s : Int32) (hs : insQ s (nI 0) (nI 2) = false) : ACi mX11_through (d0 + 1) (SS kd kp rp) g [.ref 76, .int s] (fun r S' g' => S' = SS kd kp rp ∧ g' = rfu (th0 g) 2 ∧ r = -nI 2) := by
  refine ACi.of lcX11_through rfl rfl (fun X Q ad hR ret => ?_)
  refine AW_ls (ls' := [_, _, _]) rfl ?_
  refine a_aload_n (pc := 0) dX11_through_0 rfl ?_
  refine a_iconst (pc := 1) (nI 0) dX11_through_1 (by decide) ?_
  refine a_pi (pc := 2) dX11_through_2 fX11_104 rfl ?_
  refine a_iload_n (pc := 5) dX11_through_5 rfl ?_
  refine a_iconst (pc := 6) (nI 0) dX11_through_6 (by decide) ?_
  refine a_iconst (pc := 7) (nI 2) dX11_through_7 (by decide) ?_
  refine a_S3i (pc := 8) dX11_through_8 lcX11_in lX11_110 (fit_of hR (by omega) rfl) (c_in (d := d0) s (nI 0) (nI 2)) rfl rfl (ex_i ?_)
  refine a_if_neB (pc := 11) 21 dX11_through_11 (by decide) (fun cc => ?_) (fun cc => ?_)
  · exact absurd (cc.symm.trans hs) (by decide)
  · refine a_aload_n (pc := 14) dX11_through_14 rfl ?_
    refine a_bipush (pc := 15) (-2) dX11_through_15 (by decide) ?_
    refine a_V1i (pc := 17) 10 dX11_through_17 lcX11_refuse lX11_114 rfl rfl rfl (fit_of hR (by omega) rfl) (c_refuse (d := d0) 2 (by decide)) rfl rfl (ex_i ?_)
    refine ret _ _ 20 _ _ dX11_through_20 rfl ?_
    exact ⟨rfl, rfl, rfl⟩
/-- the kept report -/
def RpK (g : GH) (rp : Rp) : Prop := (∀ j, j < 7 → gA g 99 j = nI (rp.1 j)) ∧ rp.2.length = min (rp.1 2) 50 ∧ ∀ i row, rp.2[i]? = some row → ∀ w, w < 10 → gA g 101 (10 * i + w) = row.getD w 0
/-- what a call that goes through leaves alone: all but the rows of its own, the kept report, thrown and the refusals -/
def KT (g g' : GH) : Prop := (∀ a, a ∉ [77, 78, 79, 80, 81, 84, 85, 86, 87, 88, 89, 90, 91, 92, 98, 99, 100, 101, 103, 104, 105] → gA g' a = gA g a) ∧ (∀ a k, ¬ (a = 76 ∧ (k = 0 ∨ k = 11 ∨ k = 21 ∨ k = 32 ∨ k = 33)) → gF g' a k = gF g a k) ∧ (∀ a, a ≠ 97 → a ≠ 102 → gL g' a = gL g a) ∧ (∀ p, p < 32 → gA g' 77 p = gA g 77 p) ∧ (∀ k, k < 60 → gA g' 78 k = gA g 78 k ∧ gA g' 79 k = gA g 79 k ∧ gA g' 80 k = gA g 80 k) ∧ gA g' 81 0 = gA g 81 0
theorem KT.of {g g' : GH} (h : KG (th0 g) g') : KT g g' := by
  refine ⟨fun a ha => (h.1 a (fun z => ha ?_)).trans rfl, fun a k hk => (h.2.1 a k (fun z => hk ⟨z.1, by omega⟩)).trans ?_, fun a h1 h2 => (h.2.2.1 a h1 h2).trans rfl, h.2.2.2⟩
  · simp only [List.mem_cons, List.not_mem_nil, or_false] at z ⊢
    omega
  · unfold th0
    rw [gF_pF, if_neg (fun z => hk ⟨z.1, by omega⟩)]
theorem KT.keep {g g' : GH} (h : KT g g') (f f' : Nat → Int32) : KT g (pA (pA g' 99 f) 101 f') := by
  refine ⟨fun a ha => ?_, h.2.1, h.2.2.1, h.2.2.2⟩
  have h1 : a ≠ 99 ∧ a ≠ 101 := by
    refine ⟨?_, ?_⟩ <;> (rintro rfl; exact ha (by decide))
  simp only [gA_pA]
  rw [if_neg h1.2, if_neg h1.1]
  exact h.1 a ha
set_option maxHeartbeats 1000000 in
set_option maxRecDepth 100000 in
theorem c_mthrough2 {d0 kd kp rp : Nat} {g : GH} (store : Nat) (A : List Ac) (hst : store < 3) (hA : MSc g A) (hw : walkO A store (gA g 82) = none) : ACi mX11_through (d0 + 8) (SS kd kp rp) g [.ref 76, .int (nI store)] (fun r S' g' => S' = SS kd kp rp ∧ (∃ g1, KG (th0 g) g1 ∧ g' = rfu g1 6) ∧ r = -nI 6) := by
  have hs : insQ (nI store) (nI 0) (nI 2) = true := (insQ_ok (by decide)).mpr ⟨store, by omega, rfl⟩
  have hA' : MSc (th0 g) A := hA
  refine ACi.of lcX11_through rfl rfl (fun X Q ad hR ret => ?_)
  refine AW_ls (ls' := [_, _, _]) rfl ?_
  refine a_aload_n (pc := 0) dX11_through_0 rfl ?_
  refine a_iconst (pc := 1) (nI 0) dX11_through_1 (by decide) ?_
  refine a_pi (pc := 2) dX11_through_2 fX11_104 rfl ?_
  refine a_iload_n (pc := 5) dX11_through_5 rfl ?_
  refine a_iconst (pc := 6) (nI 0) dX11_through_6 (by decide) ?_
  refine a_iconst (pc := 7) (nI 2) dX11_through_7 (by decide) ?_
  refine a_S3i (pc := 8) dX11_through_8 lcX11_in lX11_110 (fit_of hR (by omega) rfl) (c_in (d := d0) (nI store) (nI 0) (nI 2)) rfl rfl (ex_i ?_)
  refine a_if_neB (pc := 11) 21 dX11_through_11 (by decide) (fun c1 => ?_) (fun c1 => ?_)
  · refine a_aload_n (pc := 21) dX11_through_21 rfl ?_
    refine a_iload_n (pc := 22) dX11_through_22 rfl ?_
    refine a_V1i (pc := 23) 10 dX11_through_23 lcX11_goThrough lX11_250 rfl rfl rfl (fit_of hR (by omega) rfl) (c_goThrough (d0 := d0) store A hst hA') rfl rfl (fun rr S' g' hS hp => ?_)
    obtain ⟨rfl, b, rfl, hk, hy, hno⟩ := hp
    refine a_if_neB (pc := 26) 36 dX11_through_26 (by decide) (fun c2 => ?_) (fun c2 => ?_)
    · obtain ⟨rp', h1, -⟩ := hy c2
      rw [show gA (pF g 76 0 (nI 0)) 82 = gA g 82 from rfl, hw] at h1
      cases h1
    · refine a_aload_n (pc := 29) dX11_through_29 rfl ?_
      refine a_bipush (pc := 30) (-6) dX11_through_30 (by decide) ?_
      refine a_V1i (pc := 32) 10 dX11_through_32 lcX11_refuse lX11_114 rfl rfl rfl (fit_of hR (by omega) rfl) (c_refuse (d := d0) 6 (by decide)) rfl rfl (ex_i ?_)
      refine ret _ _ 35 _ _ dX11_through_35 rfl ?_
      exact ⟨rfl, ⟨g', hk, rfl⟩, rfl⟩
  · exact absurd (c1.symm.trans hs) (by decide)
set_option maxHeartbeats 1000000 in
set_option maxRecDepth 100000 in
theorem c_mthrough3 {d0 kd kp rp : Nat} {g : GH} (store : Nat) (A : List Ac) (rp' : Rp) (hst : store < 3) (hA : MSc g A) (hw : walkO A store (gA g 82) = some rp') : ACi mX11_through (d0 + 8) (SS kd kp rp) g [.ref 76, .int (nI store)] (fun r S' g' => S' = SS kd kp rp ∧ KT g g' ∧ gF g' 76 0 = nI 0 ∧ RpK g' rp' ∧ r = nI (rp'.1 2)) := by
  have hs : insQ (nI store) (nI 0) (nI 2) = true := (insQ_ok (by decide)).mpr ⟨store, by omega, rfl⟩
  have hA' : MSc (th0 g) A := hA
  refine ACi.of lcX11_through rfl rfl (fun X Q ad hR ret => ?_)
  refine AW_ls (ls' := [_, _, _]) rfl ?_
  refine a_aload_n (pc := 0) dX11_through_0 rfl ?_
  refine a_iconst (pc := 1) (nI 0) dX11_through_1 (by decide) ?_
  refine a_pi (pc := 2) dX11_through_2 fX11_104 rfl ?_
  refine a_iload_n (pc := 5) dX11_through_5 rfl ?_
  refine a_iconst (pc := 6) (nI 0) dX11_through_6 (by decide) ?_
  refine a_iconst (pc := 7) (nI 2) dX11_through_7 (by decide) ?_
  refine a_S3i (pc := 8) dX11_through_8 lcX11_in lX11_110 (fit_of hR (by omega) rfl) (c_in (d := d0) (nI store) (nI 0) (nI 2)) rfl rfl (ex_i ?_)
  refine a_if_neB (pc := 11) 21 dX11_through_11 (by decide) (fun c1 => ?_) (fun c1 => ?_)
  · refine a_aload_n (pc := 21) dX11_through_21 rfl ?_
    refine a_iload_n (pc := 22) dX11_through_22 rfl ?_
    refine a_V1i (pc := 23) 10 dX11_through_23 lcX11_goThrough lX11_250 rfl rfl rfl (fit_of hR (by omega) rfl) (c_goThrough (d0 := d0) store A hst hA') rfl rfl (fun rr S' g' hS hp => ?_)
    obtain ⟨rfl, b, rfl, hk, hy, hno⟩ := hp
    rw [show gA (pF g 76 0 (nI 0)) 82 = gA g 82 from rfl, hw] at hy hno
    refine a_if_neB (pc := 26) 36 dX11_through_26 (by decide) (fun c2 => ?_) (fun c2 => ?_)
    · obtain ⟨rp2, h1, hr⟩ := hy c2
      cases h1
      refine a_iconst (pc := 36) (nI 0) dX11_through_36 (by decide) ?_
      refine a_istore_n (pc := 37) (ls' := [_, _, _]) dX11_through_37 (Nat.le_of_ble_eq_true rfl) rfl ?_
      have loop2 : ∀ t k, 500 = k + t → ∀ f f' : Nat → Int32, (∀ j, j < 7 → f j = gA g' 98 j) → (∀ j, j < k → f' j = gA g' 100 j) → AW mX11_through X Q ad 0 0 (conc (SS kd kp rp) (pA (pA g' 99 f) 101 f')) 64 [some (.ref 76), some (.int (nI store)), some (.int (nI k))] [] := by
        intro t
        induction t with
        | zero =>
          intro k hk2 f f' hf hf'
          obtain rfl : k = 500 := by omega
          refine a_iload_n (pc := 64) dX11_through_64 rfl ?_
          refine a_sipush (pc := 65) (nI 500) dX11_through_65 (by decide) ?_
          refine a_icmp_geN (pc := 68) 89 dX11_through_68 (by decide) (by omega) (by omega) (fun c3 => ?_) (fun c3 => ?_)
          · refine a_aload_n (pc := 89) dX11_through_89 rfl ?_
            refine a_gr (pc := 90) dX11_through_90 fX11_83 rfl ?_
            refine a_iconst (pc := 93) (nI 2) dX11_through_93 (by decide) ?_
            refine a_ial (pc := 94) _ dX11_through_94 rfl rfl (by omega) ?_
            simp only [gF_pF, gF_pA, gF_pL, gA_pF, gA_pA, gA_pL, gL_pF, gL_pA, gL_pL, reduceIte, Nat.reduceEqDiff, and_false, false_and, and_true, true_and, and_self]
            rw [hf 2 (by decide), hr.1 2 (by decide)]
            refine ret _ _ 95 _ _ dX11_through_95 rfl ?_
            refine ⟨rfl, (KT.of hk).keep _ _, (hk.2.1 76 0 (by decide)).trans rfl, ⟨fun j hj => ?_, hr.2.1, fun i row h w hw => ?_⟩, rfl⟩
            · simp only [gF_pF, gF_pA, gF_pL, gA_pF, gA_pA, gA_pL, gL_pF, gL_pA, gL_pL, reduceIte, Nat.reduceEqDiff, and_false, false_and, and_true, true_and, and_self]
              rw [hf j hj]
              exact hr.1 j hj
            · simp only [gF_pF, gF_pA, gF_pL, gA_pF, gA_pA, gA_pL, gL_pF, gL_pA, gL_pL, reduceIte, Nat.reduceEqDiff, and_false, false_and, and_true, true_and, and_self]
              have hi : i < rp'.2.length := (List.getElem?_eq_some_iff.mp h).1
              have := hr.2.1
              rw [hf' _ (by omega)]
              exact hr.2.2 i row h w hw
          · exact absurd c3 (by omega)
        | succ t ih =>
          intro k hk2 f f' hf hf'
          refine a_iload_n (pc := 64) dX11_through_64 rfl ?_
          refine a_sipush (pc := 65) (nI 500) dX11_through_65 (by decide) ?_
          refine a_icmp_geN (pc := 68) 89 dX11_through_68 (by decide) (by omega) (by omega) (fun c3 => ?_) (fun c3 => ?_)
          · exact absurd c3 (by omega)
          · refine a_aload_n (pc := 71) dX11_through_71 rfl ?_
            refine a_gr (pc := 72) dX11_through_72 fX11_89 rfl ?_
            refine a_iload_n (pc := 75) dX11_through_75 rfl ?_
            refine a_aload_n (pc := 76) dX11_through_76 rfl ?_
            refine a_gr (pc := 77) dX11_through_77 fX11_86 rfl ?_
            refine a_iload_n (pc := 80) dX11_through_80 rfl ?_
            refine a_ial (pc := 81) _ dX11_through_81 rfl rfl (by omega) ?_
            refine a_ast (pc := 82) _ dX11_through_82 rfl rfl (by omega) ?_
            refine a_iinc (pc := 83) (ls' := [_, _, _]) (nI 1) dX11_through_83 (by decide) rfl (Nat.le_of_ble_eq_true rfl) rfl ?_
            try rw [nI_add]
            refine a_goto (pc := 86) 64 dX11_through_86 (by decide) ?_
            simp only [gF_pF, gF_pA, gF_pL, gA_pF, gA_pA, gA_pL, gL_pF, gL_pA, gL_pL, reduceIte, Nat.reduceEqDiff, and_false, false_and, and_true, true_and, and_self]
            rw [pA_pA]
            refine ih (k + 1) (by omega) f _ hf (fun j hj => ?_)
            simp only [upd]
            by_cases z : j = k
            · rw [if_pos z, z]
            · rw [if_neg z]
              exact hf' j (by omega)
      have loop1 : ∀ t k, 7 = k + t → ∀ f : Nat → Int32, (∀ j, j < k → f j = gA g' 98 j) → AW mX11_through X Q ad 0 0 (conc (SS kd kp rp) (pA g' 99 f)) 38 [some (.ref 76), some (.int (nI store)), some (.int (nI k))] [] := by
        intro t
        induction t with
        | zero =>
          intro k hk2 f hf
          obtain rfl : k = 7 := by omega
          refine a_iload_n (pc := 38) dX11_through_38 rfl ?_
          refine a_bipush (pc := 39) (nI 7) dX11_through_39 (by decide) ?_
          refine a_icmp_geN (pc := 41) 62 dX11_through_41 (by decide) (by omega) (by omega) (fun c3 => ?_) (fun c3 => ?_)
          · refine a_iconst (pc := 62) (nI 0) dX11_through_62 (by decide) ?_
            refine a_istore_n (pc := 63) (ls' := [_, _, _]) dX11_through_63 (Nat.le_of_ble_eq_true rfl) rfl ?_
            have h9 := loop2 500 0 (by omega) f (gA (pA g' 99 f) 101) hf (fun j h => absurd h (by omega))
            rw [pA_self] at h9
            exact h9
          · exact absurd c3 (by omega)
        | succ t ih =>
          intro k hk2 f hf
          refine a_iload_n (pc := 38) dX11_through_38 rfl ?_
          refine a_bipush (pc := 39) (nI 7) dX11_through_39 (by decide) ?_
          refine a_icmp_geN (pc := 41) 62 dX11_through_41 (by decide) (by omega) (by omega) (fun c3 => ?_) (fun c3 => ?_)
          · exact absurd c3 (by omega)
          · refine a_aload_n (pc := 44) dX11_through_44 rfl ?_
            refine a_gr (pc := 45) dX11_through_45 fX11_83 rfl ?_
            refine a_iload_n (pc := 48) dX11_through_48 rfl ?_
            refine a_aload_n (pc := 49) dX11_through_49 rfl ?_
            refine a_gr (pc := 50) dX11_through_50 fX11_80 rfl ?_
            refine a_iload_n (pc := 53) dX11_through_53 rfl ?_
            refine a_ial (pc := 54) _ dX11_through_54 rfl rfl (by omega) ?_
            refine a_ast (pc := 55) _ dX11_through_55 rfl rfl (by omega) ?_
            refine a_iinc (pc := 56) (ls' := [_, _, _]) (nI 1) dX11_through_56 (by decide) rfl (Nat.le_of_ble_eq_true rfl) rfl ?_
            try rw [nI_add]
            refine a_goto (pc := 59) 38 dX11_through_59 (by decide) ?_
            simp only [gF_pF, gF_pA, gF_pL, gA_pF, gA_pA, gA_pL, gL_pF, gL_pA, gL_pL, reduceIte, Nat.reduceEqDiff, and_false, false_and, and_true, true_and, and_self]
            rw [pA_pA]
            refine ih (k + 1) (by omega) _ (fun j hj => ?_)
            simp only [upd]
            by_cases z : j = k
            · rw [if_pos z, z]
            · rw [if_neg z]
              exact hf j (by omega)
      have h9 := loop1 7 0 (by omega) (gA g' 99) (fun j h => absurd h (by omega))
      rw [pA_self] at h9
      exact h9
    · cases hno c2
  · exact absurd (c1.symm.trans hs) (by decide)
