/-! the reference's plans: a list of what is to come -/
abbrev En : Type := Int32 × Int32 × Int32
def wrL (f : Nat → Int32) (L : List En) (pr : En → Int32) : Nat → Int32 := fun j => match L[j]? with
  | some x => pr x
  | none => f j
theorem wrL_add (f : Nat → Int32) (L : List En) (pr : En → Int32) (x : En) : upd (wrL f L pr) L.length (pr x) = wrL f (L ++ [x]) pr := by
  funext j
  simp only [upd, wrL]
  by_cases h : j = L.length
  · subst h
    simp
  · rw [if_neg h]
    by_cases h2 : j < L.length
    · rw [List.getElem?_append_left h2]
    · rw [List.getElem?_eq_none (by omega), List.getElem?_eq_none (by simp; omega)]
def plA (g : GH) (L : List En) : GH := pF (pA (pA (pA g 90 (wrL (gA g 90) L (fun x => x.1))) 91 (wrL (gA g 91) L (fun x => x.2.1))) 92 (wrL (gA g 92) L (fun x => x.2.2))) 76 21 (nI L.length)
theorem plA_nil (g : GH) : plA g [] = pF g 76 21 (nI 0) := by
  have e : ∀ (f : Nat → Int32) (pr : En → Int32), wrL f [] pr = f := fun f pr => funext fun j => by simp [wrL]
  unfold plA
  simp only [e]
  refine GH_ext (fun a k => ?_) (fun a j => ?_) (fun a j => ?_)
  · rfl
  · simp only [gA_pF, gA_pA]
    split <;> (try split) <;> (try split) <;> simp_all
  · rfl
theorem plA_21 (g : GH) (L : List En) : gF (plA g L) 76 21 = nI L.length := rfl
theorem plA_add (g : GH) (L : List En) (s a b : Int32) : pF (pA (pA (pA (plA g L) 90 (upd (gA (plA g L) 90) L.length s)) 91 (upd (gA (plA g L) 91) L.length a)) 92 (upd (gA (plA g L) 92) L.length b)) 76 21 (nI (L.length + 1)) = plA g (L ++ [(s, a, b)]) := by
  have e0 : gA (plA g L) 90 = wrL (gA g 90) L (fun x => x.1) := rfl
  have e1 : gA (plA g L) 91 = wrL (gA g 91) L (fun x => x.2.1) := rfl
  have e2 : gA (plA g L) 92 = wrL (gA g 92) L (fun x => x.2.2) := rfl
  rw [e0, e1, e2, wrL_add (pr := fun x => x.1) (x := (s, a, b)), wrL_add (pr := fun x => x.2.1) (x := (s, a, b)), wrL_add (pr := fun x => x.2.2) (x := (s, a, b))]
  refine GH_ext (fun c k => ?_) (fun c j => ?_) (fun c j => rfl)
  · simp only [plA, gF_pF, gF_pA, List.length_append, List.length_singleton]
    split <;> rfl
  · simp only [plA, gA_pF, gA_pA]
    split
    · rfl
    · split
      · rfl
      · split <;> rfl
theorem plA_F (g : GH) (L : List En) (a k : Nat) (h : ¬ (a = 76 ∧ k = 21)) : gF (plA g L) a k = gF g a k := by
  simp [plA, gF_pF, gF_pA, h]
theorem plA_A (g : GH) (L : List En) (a : Nat) (h : a ≠ 90) (h1 : a ≠ 91) (h2 : a ≠ 92) : gA (plA g L) a = gA g a := by
  simp [plA, gA_pF, gA_pA, h, h1, h2]
theorem plA_L (g : GH) (L : List En) (a : Nat) : gL (plA g L) a = gL g a := rfl
set_option maxRecDepth 100000 in
theorem c_plan {d0 kd kp rp : Nat} {g : GH} (L : List En) (s a b : Int32) (hL : L.length < 16) : ACv mX11_plan d0 (SS kd kp rp) (plA g L) [.ref 76, .int s, .int a, .int b] (fun S' g' => S' = SS kd kp rp ∧ g' = plA g (L ++ [(s, a, b)])) := by
  refine ACv.of lcX11_plan rfl rfl (fun X Q ad hR ret => ?_)
  refine AW_ls (ls' := [_, _, _, _]) rfl ?_
  refine a_aload_n (pc := 0) dX11_plan_0 rfl ?_
  refine a_gr (pc := 1) dX11_plan_1 fX11_55 rfl ?_
  refine a_aload_n (pc := 4) dX11_plan_4 rfl ?_
  refine a_gi (pc := 5) dX11_plan_5 fX11_188 rfl ?_
  rw [plA_21]
  refine a_iload_n (pc := 8) dX11_plan_8 rfl ?_
  refine a_ast (pc := 9) _ dX11_plan_9 rfl rfl (by omega) ?_
  refine a_aload_n (pc := 10) dX11_plan_10 rfl ?_
  refine a_gr (pc := 11) dX11_plan_11 fX11_58 rfl ?_
  refine a_aload_n (pc := 14) dX11_plan_14 rfl ?_
  refine a_gi (pc := 15) dX11_plan_15 fX11_188 rfl ?_
  simp only [gF_pF, gF_pA, gF_pL, gA_pF, gA_pA, gA_pL, gL_pF, gL_pA, gL_pL, reduceIte, Nat.reduceEqDiff, and_false, false_and, and_true, true_and, and_self, plA_21]
  refine a_iload_n (pc := 18) dX11_plan_18 rfl ?_
  refine a_ast (pc := 19) _ dX11_plan_19 rfl rfl (by omega) ?_
  refine a_aload_n (pc := 20) dX11_plan_20 rfl ?_
  refine a_gr (pc := 21) dX11_plan_21 fX11_61 rfl ?_
  refine a_aload_n (pc := 24) dX11_plan_24 rfl ?_
  refine a_gi (pc := 25) dX11_plan_25 fX11_188 rfl ?_
  simp only [gF_pF, gF_pA, gF_pL, gA_pF, gA_pA, gA_pL, gL_pF, gL_pA, gL_pL, reduceIte, Nat.reduceEqDiff, and_false, false_and, and_true, true_and, and_self, plA_21]
  refine a_iload_n (pc := 28) dX11_plan_28 rfl ?_
  refine a_ast (pc := 29) _ dX11_plan_29 rfl rfl (by omega) ?_
  refine a_aload_n (pc := 30) dX11_plan_30 rfl ?_
  refine a_dup (pc := 31) dX11_plan_31 rfl ?_
  refine a_gi (pc := 32) dX11_plan_32 fX11_188 rfl ?_
  simp only [gF_pF, gF_pA, gF_pL, gA_pF, gA_pA, gA_pL, gL_pF, gL_pA, gL_pL, reduceIte, Nat.reduceEqDiff, and_false, false_and, and_true, true_and, and_self, plA_21]
  refine a_iconst (pc := 35) (nI 1) dX11_plan_35 (by decide) ?_
  refine a_iadd (pc := 36) dX11_plan_36 ?_
  try rw [nI_add]
  refine a_pi (pc := 37) dX11_plan_37 fX11_188 rfl ?_
  refine ret _ _ 40 _ dX11_plan_40 rfl ?_
  exact ⟨rfl, plA_add g L s a b⟩
/-- a fence, where it isn't spared -/
def fnc (sp : Nat → Int32) (i : Nat) : List En := if sp i = 0 then [(-1, nI 0, nI 0)] else []
theorem fnc_len (sp : Nat → Int32) (i : Nat) : (fnc sp i).length ≤ 1 := by unfold fnc; split <;> simp
set_option maxRecDepth 100000 in
theorem c_planFence {d0 kd kp rp : Nat} {g : GH} (L : List En) (store f : Nat) (hst : store < 3) (hf : f < 4) (hL : L.length < 16) : ACv mX11_planFence (d0 + 1) (SS kd kp rp) (plA g L) [.ref 76, .int (nI store), .int (nI f)] (fun S' g' => S' = SS kd kp rp ∧ g' = plA g (L ++ fnc (gA g 82) (4 * store + f))) := by
  refine ACv.of lcX11_planFence rfl rfl (fun X Q ad hR ret => ?_)
  refine AW_ls (ls' := [_, _, _]) rfl ?_
  refine a_aload_n (pc := 0) dX11_planFence_0 rfl ?_
  refine a_gr (pc := 1) dX11_planFence_1 fX11_29 rfl ?_
  refine a_iconst (pc := 4) (nI 4) dX11_planFence_4 (by decide) ?_
  refine a_iload_n (pc := 5) dX11_planFence_5 rfl ?_
  refine a_imul (pc := 6) dX11_planFence_6 ?_
  try rw [pk_mul]
  refine a_iload_n (pc := 7) dX11_planFence_7 rfl ?_
  refine a_iadd (pc := 8) dX11_planFence_8 ?_
  try rw [nI_add]
  refine a_zal (pc := 9) _ dX11_planFence_9 rfl rfl (by omega) ?_
  rw [plA_A g L 82 (by decide) (by decide) (by decide)]
  refine a_if_ne (pc := 10) 20 dX11_planFence_10 (by decide) (fun cc => ?_) (fun cc => ?_)
  · refine ret _ _ 20 _ dX11_planFence_20 rfl ?_
    exact ⟨rfl, by rw [fnc, if_neg cc, List.append_nil]⟩
  · refine a_aload_n (pc := 13) dX11_planFence_13 rfl ?_
    refine a_iconst (pc := 14) (-1) dX11_planFence_14 (by decide) ?_
    refine a_iconst (pc := 15) (nI 0) dX11_planFence_15 (by decide) ?_
    refine a_iconst (pc := 16) (nI 0) dX11_planFence_16 (by decide) ?_
    refine a_V3v (pc := 17) 10 dX11_planFence_17 lcX11_plan lX11_191 rfl rfl rfl (fit_of hR (by omega) rfl) (c_plan (d0 := d0) L (-1) (nI 0) (nI 0) hL) rfl rfl (ex_v ?_)
    refine ret _ _ 20 _ dX11_planFence_20 rfl ?_
    exact ⟨rfl, by rw [fnc, if_pos cc]⟩
set_option maxRecDepth 100000 in
theorem c_planEnd {d0 kd kp rp : Nat} {g : GH} (L : List En) (store : Nat) (hst : store < 3) (hL : L.length < 13) : ACv mX11_planEnd (d0 + 2) (SS kd kp rp) (plA g L) [.ref 76, .int (nI store)] (fun S' g' => S' = SS kd kp rp ∧ g' = plA g (L ++ fnc (gA g 82) (4 * store + 2) ++ [(nI 3, nI 0, nI 0)] ++ fnc (gA g 82) (4 * store + 3))) := by
  have h2 := fnc_len (gA g 82) (4 * store + 2)
  refine ACv.of lcX11_planEnd rfl rfl (fun X Q ad hR ret => ?_)
  refine AW_ls (ls' := [_, _]) rfl ?_
  refine a_aload_n (pc := 0) dX11_planEnd_0 rfl ?_
  refine a_iload_n (pc := 1) dX11_planEnd_1 rfl ?_
  refine a_iconst (pc := 2) (nI 2) dX11_planEnd_2 (by decide) ?_
  refine a_V2v (pc := 3) 10 dX11_planEnd_3 lcX11_planFence lX11_195 rfl rfl rfl (fit_of hR (by omega) rfl) (c_planFence (d0 := d0) L store 2 hst (by decide) (by omega)) rfl rfl (ex_v ?_)
  refine a_aload_n (pc := 6) dX11_planEnd_6 rfl ?_
  refine a_iconst (pc := 7) (nI 3) dX11_planEnd_7 (by decide) ?_
  refine a_iconst (pc := 8) (nI 0) dX11_planEnd_8 (by decide) ?_
  refine a_iconst (pc := 9) (nI 0) dX11_planEnd_9 (by decide) ?_
  refine a_V3v (pc := 10) 10 dX11_planEnd_10 lcX11_plan lX11_191 rfl rfl rfl (fit_of hR (by omega) rfl) (c_plan (d0 := d0 + 1) _ (nI 3) (nI 0) (nI 0) (by simp; omega)) rfl rfl (ex_v ?_)
  refine a_aload_n (pc := 13) dX11_planEnd_13 rfl ?_
  refine a_iload_n (pc := 14) dX11_planEnd_14 rfl ?_
  refine a_iconst (pc := 15) (nI 3) dX11_planEnd_15 (by decide) ?_
  refine a_V2v (pc := 16) 10 dX11_planEnd_16 lcX11_planFence lX11_195 rfl rfl rfl (fit_of hR (by omega) rfl) (c_planFence (d0 := d0) _ store 3 hst (by decide) (by simp; omega)) rfl rfl (ex_v ?_)
  refine ret _ _ 19 _ dX11_planEnd_19 rfl ?_
  exact ⟨rfl, rfl⟩
