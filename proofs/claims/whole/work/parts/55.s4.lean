/-! going down, and to the next -/
def upJ (J : Nat → Nat) (k j : Nat) : Nat → Nat := fun i => if i = k then j else J i
theorem upJ_lt (J : Nat → Nat) (k j : Nat) : ∀ i, i < k → upJ J k j i = J i := fun i hi => if_neg (by omega)
theorem upJ_at (J : Nat → Nat) (k j : Nat) : upJ J k j k = j := if_pos rfl
theorem cm_up {lv : Nat → Nat} {E0 : Nat} (J : Nat → Nat) (k j : Nat) : cm lv E0 (upJ J k j) (k + 1) = cm lv E0 J k &&& lv j := by
  rw [cm, cm_congr k (upJ_lt J k j), upJ_at]
theorem rk_upJ {s lv : Nat → Nat} {L E0 : Nat} (J : Nat → Nat) (k j : Nat) : rk s lv L E0 (upJ J k j) (k + 1) = rk s lv L E0 J k + sU (fun i => ct s lv L (k + 1) (cm lv E0 J k &&& lv i)) (s k) j := by
  rw [rk, rk_congr k (upJ_lt J k j), cm_congr k (upJ_lt J k j), upJ_at]
def PrJ (b : Nat) (g : GH) (L E0 : Nat) (op lv : Nat → Nat) (P : Nat → Int32) (J : Nat → Nat) (k : Nat) : Prop := (∀ l, l < k → gA g (b + 7) l = nI (J l)) ∧ (∀ l, l ≤ k → gA g (b + 8) l = nI (cm lv E0 J l)) ∧ (∀ l, l < k → gA g (b + 1) (op l) = gA g (b + 4) (J l)) ∧ ∀ p, p < 32 → (∀ l, l < L → op l ≠ p) → gA g (b + 1) p = P p
theorem PrJ.less {b : Nat} {g : GH} {L E0 : Nat} {op lv : Nat → Nat} {P : Nat → Int32} {J : Nat → Nat} {k m : Nat} (h : PrJ b g L E0 op lv P J k) (hm : m ≤ k) : PrJ b g L E0 op lv P J m := ⟨fun l hl => h.1 l (by omega), fun l hl => h.2.1 l (by omega), fun l hl => h.2.2.1 l (by omega), h.2.2.2⟩
theorem PrJ.congr {b : Nat} {g : GH} {L E0 : Nat} {op lv : Nat → Nat} {P : Nat → Int32} {J J' : Nat → Nat} {k : Nat} (h : PrJ b g L E0 op lv P J k) (e : ∀ i, i < k → J' i = J i) : PrJ b g L E0 op lv P J' k := ⟨fun l hl => by rw [e l hl]; exact h.1 l hl, fun l hl => by rw [cm_congr l (fun i hi => e i (by omega))]; exact h.2.1 l hl, fun l hl => by rw [e l hl]; exact h.2.2.1 l hl, h.2.2.2⟩
theorem PrJ.con {b : Nat} {g : GH} {L E0 : Nat} {op lv : Nat → Nat} {P : Nat → Int32} {J : Nat → Nat} (h : PrJ b g L E0 op lv P J L) (hm : ∀ a b, a < b → b < L → op a < op b) : ∀ p, p < 32 → gA g (b + 1) p = fJ P (gA g (b + 4)) op J L p := by
  intro p hp
  rcases fJ_dec (op := op) p L with z | ⟨l, h1, h2⟩
  · rw [fJ_no L z]
    exact h.2.2.2 p hp z
  · subst h2
    rw [fJ_at hm h1]
    exact h.2.2.1 l h1
theorem cm_le {lv : Nat → Nat} {E0 : Nat} (J : Nat → Nat) : ∀ l, cm lv E0 J l ≤ E0
  | 0 => Nat.le_refl _
  | l + 1 => Nat.le_trans Nat.and_le_left (cm_le J l)
set_option maxHeartbeats 1000000 in
set_option maxRecDepth 100000 in
theorem c_pick_8 {d0 kd kp rp : Nat} {g : GH} {L E E0 : Nat} {op s lv : Nat → Nat} {P : Nat → Int32} {J : Nat → Nat} (h : StD 8 g L E op s lv) (hm : ∀ a b, a < b → b < L → op a < op b) (k j : Nat) (hk : k < L) (hj : j < s (k + 1)) (hp : PrJ 8 g L E0 op lv P J k) : ACv mX9_pick d0 (SS kd kp rp) g [.ref 8, .int (nI k), .int (nI j)] (fun S' g' => S' = SS kd kp rp ∧ PrJ 8 g' L E0 op lv P (upJ J k j) (k + 1) ∧ Fr [9, 15, 16] g g') := by
  have hL := h.1.2
  have hs152 := h.2.2.2.2.1.1
  have hle := h.le (l := k + 1) (m := L) (by omega) (Nat.le_refl _)
  obtain ⟨ho, ho32⟩ := h.2.2.1 k hk
  obtain ⟨hv, hv30⟩ := h.2.2.2.2.2 j (by omega)
  have hc := hp.2.1 k (Nat.le_refl _)
  refine ACv.of lcX9_pick rfl rfl (fun X Q ad hR ret => ?_)
  refine AW_ls (ls' := [_, _, _]) rfl ?_
  refine a_aload_n (pc := 0) dX9_pick_0 rfl ?_
  refine a_gr (pc := 1) dX9_pick_1 fX9_30 rfl ?_
  refine a_iload_n (pc := 4) dX9_pick_4 rfl ?_
  refine a_iload_n (pc := 5) dX9_pick_5 rfl ?_
  refine a_ast (pc := 6) _ dX9_pick_6 rfl rfl (by omega) ?_
  refine a_aload_n (pc := 7) dX9_pick_7 rfl ?_
  refine a_gr (pc := 8) dX9_pick_8 fX9_9 rfl ?_
  refine a_aload_n (pc := 11) dX9_pick_11 rfl ?_
  refine a_gr (pc := 12) dX9_pick_12 fX9_15 rfl ?_
  refine a_iload_n (pc := 15) dX9_pick_15 rfl ?_
  refine a_ial (pc := 16) _ dX9_pick_16 rfl rfl (by omega) ?_
  simp only [gF_pF, gF_pA, gF_pL, gA_pF, gA_pA, gA_pL, gL_pF, gL_pA, gL_pL, reduceIte, Nat.reduceEqDiff, and_false, false_and, and_true, true_and, and_self]
  rw [ho]
  refine a_aload_n (pc := 17) dX9_pick_17 rfl ?_
  refine a_gr (pc := 18) dX9_pick_18 fX9_21 rfl ?_
  refine a_iload_n (pc := 21) dX9_pick_21 rfl ?_
  refine a_ial (pc := 22) _ dX9_pick_22 rfl rfl (by omega) ?_
  refine a_ast (pc := 23) _ dX9_pick_23 rfl rfl (by omega) ?_
  refine a_aload_n (pc := 24) dX9_pick_24 rfl ?_
  refine a_gr (pc := 25) dX9_pick_25 fX9_33 rfl ?_
  refine a_iload_n (pc := 28) dX9_pick_28 rfl ?_
  refine a_iconst (pc := 29) (nI 1) dX9_pick_29 (by decide) ?_
  refine a_iadd (pc := 30) dX9_pick_30 ?_
  try rw [nI_add]
  refine a_aload_n (pc := 31) dX9_pick_31 rfl ?_
  refine a_gr (pc := 32) dX9_pick_32 fX9_33 rfl ?_
  refine a_iload_n (pc := 35) dX9_pick_35 rfl ?_
  refine a_ial (pc := 36) _ dX9_pick_36 rfl rfl (by omega) ?_
  simp only [gF_pF, gF_pA, gF_pL, gA_pF, gA_pA, gA_pL, gL_pF, gL_pA, gL_pL, reduceIte, Nat.reduceEqDiff, and_false, false_and, and_true, true_and, and_self]
  rw [hc]
  refine a_aload_n (pc := 37) dX9_pick_37 rfl ?_
  refine a_gr (pc := 38) dX9_pick_38 fX9_24 rfl ?_
  refine a_iload_n (pc := 41) dX9_pick_41 rfl ?_
  refine a_ial (pc := 42) _ dX9_pick_42 rfl rfl (by omega) ?_
  simp only [gF_pF, gF_pA, gF_pL, gA_pF, gA_pA, gA_pL, gL_pF, gL_pA, gL_pL, reduceIte, Nat.reduceEqDiff, and_false, false_and, and_true, true_and, and_self]
  rw [hv]
  refine a_iand (pc := 43) dX9_pick_43 ?_
  rw [nI_and]
  refine a_ast (pc := 44) _ dX9_pick_44 rfl rfl (by omega) ?_
  refine ret _ _ 45 _ dX9_pick_45 rfl ?_
  refine ⟨rfl, ⟨fun l hl => ?_, fun l hl => ?_, fun l hl => ?_, fun p hp32 hno => ?_⟩, ((((Fr.rf _ g).sA (by decide) _).sA (by decide) _).sA (by decide) _)⟩
  · simp only [gF_pF, gF_pA, gF_pL, gA_pF, gA_pA, gA_pL, gL_pF, gL_pA, gL_pL, reduceIte, Nat.reduceEqDiff, and_false, false_and, and_true, true_and, and_self, upd]
    by_cases z : l = k
    · rw [if_pos z, z, upJ_at]
    · rw [if_neg z, upJ_lt J k j l (by omega)]
      exact hp.1 l (by omega)
  · simp only [gF_pF, gF_pA, gF_pL, gA_pF, gA_pA, gA_pL, gL_pF, gL_pA, gL_pL, reduceIte, Nat.reduceEqDiff, and_false, false_and, and_true, true_and, and_self, upd]
    by_cases z : l = k + 1
    · rw [if_pos z, z, cm_up]
    · rw [if_neg z, cm_congr l (fun i hi => upJ_lt J k j i (by omega))]
      exact hp.2.1 l (by omega)
  · simp only [gF_pF, gF_pA, gF_pL, gA_pF, gA_pA, gA_pL, gL_pF, gL_pA, gL_pL, reduceIte, Nat.reduceEqDiff, and_false, false_and, and_true, true_and, and_self, upd]
    by_cases z : l = k
    · rw [if_pos (by rw [z]), z, upJ_at]
    · have := hm l k (by omega) hk
      rw [if_neg (by omega), upJ_lt J k j l (by omega)]
      exact hp.2.2.1 l (by omega)
  · simp only [gF_pF, gF_pA, gF_pL, gA_pF, gA_pA, gA_pL, gL_pF, gL_pA, gL_pL, reduceIte, Nat.reduceEqDiff, and_false, false_and, and_true, true_and, and_self, upd]
    rw [if_neg (fun z => hno k hk z.symm)]
    exact hp.2.2.2 p hp32 hno
set_option maxHeartbeats 1000000 in
set_option maxRecDepth 100000 in
theorem c_step_8 {d0 kd kp rp : Nat} {g : GH} {L E E0 : Nat} {op s lv : Nat → Nat} {P : Nat → Int32} {J : Nat → Nat} (h : StD 8 g L E op s lv) (hE0 : E0 < 2 ^ 30) (hm : ∀ a b, a < b → b < L → op a < op b) (k j0 : Nat) (x : Int32) (hk : k < L) (hx : gA g 15 k = x) (hx1 : x + nI 1 = nI j0) (hj0 : s k ≤ j0) (hj1 : j0 ≤ s (k + 1)) (hp : PrJ 8 g L E0 op lv P J k) : ACi mX9_step (d0 + 1) (SS kd kp rp) g [.ref 8, .int (nI k)] (fun r S' g' => S' = SS kd kp rp ∧ ∃ bb : Bool, r = bI bb ∧ Fr [9, 15, 16] g g' ∧ (bb = true → ∃ j, j0 ≤ j ∧ j < s (k + 1) ∧ cm lv E0 J k &&& lv j ≠ 0 ∧ (∀ i, j0 ≤ i → i < j → cm lv E0 J k &&& lv i = 0) ∧ PrJ 8 g' L E0 op lv P (upJ J k j) (k + 1)) ∧ (bb = false → g' = g ∧ ∀ i, j0 ≤ i → i < s (k + 1) → cm lv E0 J k &&& lv i = 0)) := by
  have hL := h.1.2
  have hs152 := h.2.2.2.2.1.1
  have hle := h.le (l := k + 1) (m := L) (by omega) (Nat.le_refl _)
  have hsl1 := h.2.2.2.1 (k + 1) (by omega)
  have hc := hp.2.1 k (Nat.le_refl _)
  have hcl := cm_le (lv := lv) (E0 := E0) J k
  refine ACz.of lcX9_step rfl rfl (fun X Q ad hR ret => ?_)
  refine AW_ls (ls' := [_, _, _]) rfl ?_
  refine a_aload_n (pc := 0) dX9_step_0 rfl ?_
  refine a_gr (pc := 1) dX9_step_1 fX9_30 rfl ?_
  refine a_iload_n (pc := 4) dX9_step_4 rfl ?_
  refine a_ial (pc := 5) _ dX9_step_5 rfl rfl (by omega) ?_
  rw [hx]
  refine a_iconst (pc := 6) (nI 1) dX9_step_6 (by decide) ?_
  refine a_iadd (pc := 7) dX9_step_7 ?_
  try rw [nI_add]
  rw [hx1]
  refine a_istore_n (pc := 8) (ls' := [_, _, _]) dX9_step_8 (Nat.le_of_ble_eq_true rfl) rfl ?_
  have loop : ∀ t j, s (k + 1) = j + t → j0 ≤ j → (∀ i, j0 ≤ i → i < j → cm lv E0 J k &&& lv i = 0) → AW mX9_step X Q ad 0 0 (conc (SS kd kp rp) g) 9 [some (.ref 8), some (.int (nI k)), some (.int (nI j))] [] := by
    intro t
    induction t with
    | zero =>
      intro j hj hsj hz
      refine a_iload_n (pc := 9) dX9_step_9 rfl ?_
      refine a_aload_n (pc := 10) dX9_step_10 rfl ?_
      refine a_gr (pc := 11) dX9_step_11 fX9_18 rfl ?_
      refine a_iload_n (pc := 14) dX9_step_14 rfl ?_
      refine a_iconst (pc := 15) (nI 1) dX9_step_15 (by decide) ?_
      refine a_iadd (pc := 16) dX9_step_16 ?_
      try rw [nI_add]
      refine a_ial (pc := 17) _ dX9_step_17 rfl rfl (by omega) ?_
      rw [hsl1]
      refine a_icmp_geN (pc := 18) 51 dX9_step_18 (by decide) (by omega) (by omega) (fun c1 => ?_) (fun c1 => ?_)
      · refine a_iconst (pc := 51) (nI 0) dX9_step_51 (by decide) ?_
        refine ret _ _ 52 _ _ dX9_step_52 rfl (by first | exact Or.inl rfl | exact Or.inr rfl | exact bI_01 _) ?_
        exact ⟨rfl, false, rfl, Fr.rf _ g, (fun z => by cases z), fun _ => ⟨rfl, fun i h1 h2 => hz i h1 (by omega)⟩⟩
      · exact absurd c1 (by omega)
    | succ t ih =>
      intro j hj hsj hz
      obtain ⟨hv, hv30⟩ := h.2.2.2.2.2 j (by omega)
      have hand : cm lv E0 J k &&& lv j ≤ cm lv E0 J k := Nat.and_le_left
      refine a_iload_n (pc := 9) dX9_step_9 rfl ?_
      refine a_aload_n (pc := 10) dX9_step_10 rfl ?_
      refine a_gr (pc := 11) dX9_step_11 fX9_18 rfl ?_
      refine a_iload_n (pc := 14) dX9_step_14 rfl ?_
      refine a_iconst (pc := 15) (nI 1) dX9_step_15 (by decide) ?_
      refine a_iadd (pc := 16) dX9_step_16 ?_
      try rw [nI_add]
      refine a_ial (pc := 17) _ dX9_step_17 rfl rfl (by omega) ?_
      rw [hsl1]
      refine a_icmp_geN (pc := 18) 51 dX9_step_18 (by decide) (by omega) (by omega) (fun c1 => ?_) (fun c1 => ?_)
      · exact absurd c1 (by omega)
      · refine a_aload_n (pc := 21) dX9_step_21 rfl ?_
        refine a_gr (pc := 22) dX9_step_22 fX9_33 rfl ?_
        refine a_iload_n (pc := 25) dX9_step_25 rfl ?_
        refine a_ial (pc := 26) _ dX9_step_26 rfl rfl (by omega) ?_
        rw [hc]
        refine a_aload_n (pc := 27) dX9_step_27 rfl ?_
        refine a_gr (pc := 28) dX9_step_28 fX9_24 rfl ?_
        refine a_iload_n (pc := 31) dX9_step_31 rfl ?_
        refine a_ial (pc := 32) _ dX9_step_32 rfl rfl (by omega) ?_
        rw [hv]
        refine a_iand (pc := 33) dX9_step_33 ?_
        rw [nI_and]
        refine a_if_eqN (pc := 34) 45 dX9_step_34 (by decide) (by omega) (fun c2 => ?_) (fun c2 => ?_)
        · refine a_iinc (pc := 45) (ls' := [_, _, _]) (nI 1) dX9_step_45 (by decide) rfl (Nat.le_of_ble_eq_true rfl) rfl ?_
          try rw [nI_add]
          refine a_goto (pc := 48) 9 dX9_step_48 (by decide) ?_
          refine ih (j + 1) (by omega) (by omega) (fun i h1 h2 => ?_)
          by_cases z : i = j
          · rw [z]
            exact c2
          · exact hz i h1 (by omega)
        · refine a_aload_n (pc := 37) dX9_step_37 rfl ?_
          refine a_iload_n (pc := 38) dX9_step_38 rfl ?_
          refine a_iload_n (pc := 39) dX9_step_39 rfl ?_
          refine a_V2v (pc := 40) 8 dX9_step_40 lcX9_pick lX9_128 rfl rfl rfl (fit_of hR (by omega) rfl) (c_pick_8 (d0 := d0) h hm k j hk (by omega) hp) rfl rfl (fun S' g' hS hp => ?_)
          obtain ⟨rfl, h1, h2⟩ := hp
          refine a_iconst (pc := 43) (nI 1) dX9_step_43 (by decide) ?_
          refine ret _ _ 44 _ _ dX9_step_44 rfl (by first | exact Or.inl rfl | exact Or.inr rfl | exact bI_01 _) ?_
          exact ⟨rfl, true, rfl, h2, fun _ => ⟨j, hsj, by omega, c2, hz, h1⟩, (fun z => by cases z)⟩
  exact loop (s (k + 1) - j0) j0 (by omega) (Nat.le_refl _) (fun i h1 h2 => absurd h2 (by omega))
set_option maxHeartbeats 1000000 in
set_option maxRecDepth 100000 in
theorem c_descend_8 {d0 kd kp rp : Nat} {g : GH} {L E : Nat} {op s lv : Nat → Nat} {P : Nat → Int32} (h : StD 8 g L E op s lv) (ha : AlD 8 g L E s lv) (hm : ∀ a b, a < b → b < L → op a < op b) (i : Nat) (hi : i < ct s lv L 0 (2 ^ E - 1)) (hN : ct s lv L 0 (2 ^ E - 1) ≤ 4096) (hp : PrJ 8 g L (2 ^ E - 1) op lv P (fun _ => 0) 0) : ACv mX9_descend (d0 + 34) (SS kd kp rp) g [.ref 8, .int (nI i)] (fun S' g' => S' = SS kd kp rp ∧ Fr [9, 15, 16] g g' ∧ ∃ J, okJ s L J ∧ cm lv (2 ^ E - 1) J L ≠ 0 ∧ rk s lv L (2 ^ E - 1) J L = i ∧ PrJ 8 g' L (2 ^ E - 1) op lv P J L) := by
  have hL := h.1.2
  have hE := h.2.1.2.2
  have hE30 : 2 ^ E ≤ 2 ^ 30 := Nat.pow_le_pow_right (by decide) hE
  have hEp := Nat.two_pow_pos E
  have hs152 := h.2.2.2.2.1.1
  refine ACv.of lcX9_descend rfl rfl (fun X Q ad hR ret => ?_)
  refine AW_ls (ls' := [_, _, _, _, _, _]) rfl ?_
  refine a_iload_n (pc := 0) dX9_descend_0 rfl ?_
  refine a_istore_n (pc := 1) (ls' := [_, _, _, _, _, _]) dX9_descend_1 (Nat.le_of_ble_eq_true rfl) rfl ?_
  refine a_iconst (pc := 2) (nI 0) dX9_descend_2 (by decide) ?_
  refine a_istore_n (pc := 3) (ls' := [_, _, _, _, _, _]) dX9_descend_3 (Nat.le_of_ble_eq_true rfl) rfl ?_
  have outer : ∀ t l, l + t = L → ∀ (g1 : GH) (J : Nat → Nat) (a : Nat) (w4 w5 : Option Value), Fr [9, 15, 16] g g1 → PrJ 8 g1 L (2 ^ E - 1) op lv P J l → (∀ m, m < l → s m ≤ J m ∧ J m < s (m + 1)) → rk s lv L (2 ^ E - 1) J l + a = i → a < ct s lv L l (cm lv (2 ^ E - 1) J l) → ct s lv L l (cm lv (2 ^ E - 1) J l) ≤ 4096 → AW mX9_descend X Q ad 0 0 (conc (SS kd kp rp) g1) 4 [some (.ref 8), some (.int (nI i)), some (.int (nI a)), some (.int (nI l)), w4, w5] [] := by
    intro t
    induction t with
    | zero =>
      intro l hl g1 J a w4 w5 hfr hpr hok hrk hlt hle4
      obtain rfl : l = L := by omega
      have hD := h.fr hfr (by decide) (by decide) (by decide) (by decide)
      refine a_iload_n (pc := 4) dX9_descend_4 rfl ?_
      refine a_aload_n (pc := 5) dX9_descend_5 rfl ?_
      refine a_gi (pc := 6) dX9_descend_6 fX9_36 rfl ?_
      rw [hD.1.1]
      refine a_icmp_geN (pc := 9) 89 dX9_descend_9 (by decide) (by omega) (by omega) (fun c1 => ?_) (fun c1 => ?_)
      · refine ret _ _ 89 _ dX9_descend_89 rfl ?_
        rw [ct_L] at hlt
        refine ⟨rfl, hfr, J, hok, ?_, ?_, hpr⟩
        · intro z
          rw [if_pos z] at hlt
          omega
        · split at hlt <;> omega
      · exact absurd c1 (by omega)
    | succ t ih =>
      intro l hl g1 J a w4 w5 hfr hpr hok hrk hlt hle4
      have hD := h.fr hfr (by decide) (by decide) (by decide) (by decide)
      have hA : AlD 8 g1 L E s lv := fun e he l hl => by
        rw [show gA g1 (8 + 6) = gA g (8 + 6) from hfr.a (by decide)]
        exact ha e he l hl
      have hsl := hD.2.2.2.1 l (by omega)
      have hsl1 := hD.2.2.2.1 (l + 1) (by omega)
      have hle := hD.le (l := l + 1) (m := L) (by omega) (Nat.le_refl _)
      have hle2 := hD.le (l := l) (m := l + 1) (by omega) (by omega)
      have hc := hpr.2.1 l (Nat.le_refl _)
      have hcl := cm_le (lv := lv) (E0 := 2 ^ E - 1) J l
      rw [ct_s s lv (by omega : l < L)] at hlt hle4
      refine a_iload_n (pc := 4) dX9_descend_4 rfl ?_
      refine a_aload_n (pc := 5) dX9_descend_5 rfl ?_
      refine a_gi (pc := 6) dX9_descend_6 fX9_36 rfl ?_
      rw [hD.1.1]
      refine a_icmp_geN (pc := 9) 89 dX9_descend_9 (by decide) (by omega) (by omega) (fun c1 => ?_) (fun c1 => ?_)
      · exact absurd c1 (by omega)
      · refine a_aload_n (pc := 12) dX9_descend_12 rfl ?_
        refine a_gr (pc := 13) dX9_descend_13 fX9_18 rfl ?_
        refine a_iload_n (pc := 16) dX9_descend_16 rfl ?_
        refine a_ial (pc := 17) _ dX9_descend_17 rfl rfl (by omega) ?_
        rw [hsl]
        refine a_istore (pc := 18) (ls' := [_, _, _, _, _, _]) dX9_descend_18 (Nat.le_of_ble_eq_true rfl) rfl ?_
        have inner : ∀ m j, s (l + 1) = j + m → s l ≤ j → sU (fun i => ct s lv L (l + 1) (cm lv (2 ^ E - 1) J l &&& lv i)) (s l) j ≤ a → ∀ w5 : Option Value, AW mX9_descend X Q ad 0 0 (conc (SS kd kp rp) g1) 20 [some (.ref 8), some (.int (nI i)), some (.int (nI (a - sU (fun i => ct s lv L (l + 1) (cm lv (2 ^ E - 1) J l &&& lv i)) (s l) j))), some (.int (nI l)), some (.int (nI j)), w5] [] := by
          intro m
          induction m with
          | zero =>
            intro j hj hsj hsum w5
            rw [show j = s (l + 1) by omega] at hsum
            omega
          | succ m ihm =>
            intro j hj hsj hsum w5
            obtain ⟨hv, hv30⟩ := hD.2.2.2.2.2 j (by omega)
            have hand : cm lv (2 ^ E - 1) J l &&& lv j ≤ cm lv (2 ^ E - 1) J l := Nat.and_le_left
            have hm1 := sU_mono (f := fun i => ct s lv L (l + 1) (cm lv (2 ^ E - 1) J l &&& lv i)) (a := s l) (j := j + 1) (k := s (l + 1)) (by omega)
            rw [sU_s hsj] at hm1
            refine a_iload (pc := 20) dX9_descend_20 rfl ?_
            refine a_aload_n (pc := 22) dX9_descend_22 rfl ?_
            refine a_gr (pc := 23) dX9_descend_23 fX9_18 rfl ?_
            refine a_iload_n (pc := 26) dX9_descend_26 rfl ?_
            refine a_iconst (pc := 27) (nI 1) dX9_descend_27 (by decide) ?_
            refine a_iadd (pc := 28) dX9_descend_28 ?_
            try rw [nI_add]
            refine a_ial (pc := 29) _ dX9_descend_29 rfl rfl (by omega) ?_
            rw [hsl1]
            refine a_icmp_geN (pc := 30) 83 dX9_descend_30 (by decide) (by omega) (by omega) (fun c2 => ?_) (fun c2 => ?_)
            · exact absurd c2 (by omega)
            · refine a_aload_n (pc := 33) dX9_descend_33 rfl ?_
              refine a_iload_n (pc := 34) dX9_descend_34 rfl ?_
              refine a_iconst (pc := 35) (nI 1) dX9_descend_35 (by decide) ?_
              refine a_iadd (pc := 36) dX9_descend_36 ?_
              try rw [nI_add]
              refine a_aload_n (pc := 37) dX9_descend_37 rfl ?_
              refine a_gr (pc := 38) dX9_descend_38 fX9_33 rfl ?_
              refine a_iload_n (pc := 41) dX9_descend_41 rfl ?_
              refine a_ial (pc := 42) _ dX9_descend_42 rfl rfl (by omega) ?_
              rw [hc]
              refine a_aload_n (pc := 43) dX9_descend_43 rfl ?_
              refine a_gr (pc := 44) dX9_descend_44 fX9_24 rfl ?_
              refine a_iload (pc := 47) dX9_descend_47 rfl ?_
              refine a_ial (pc := 49) _ dX9_descend_49 rfl rfl (by omega) ?_
              rw [hv]
              refine a_iand (pc := 50) dX9_descend_50 ?_
              rw [nI_and]
              refine a_V2i (pc := 51) 8 dX9_descend_51 lcX9_countFrom lX9_86 rfl rfl rfl (fit_of hR (by omega) rfl) (c_countFrom_8 (d0 := d0) hD hA t (l + 1) (cm lv (2 ^ E - 1) J l &&& lv j) (by omega) (by omega)) rfl rfl (ex_i ?_)
              rw [Nat.min_eq_right (by omega)]
              refine a_istore (pc := 54) (ls' := [_, _, _, _, _, _]) dX9_descend_54 (Nat.le_of_ble_eq_true rfl) rfl ?_
              refine a_iload_n (pc := 56) dX9_descend_56 rfl ?_
              refine a_iload (pc := 57) dX9_descend_57 rfl ?_
              refine a_icmp_geN (pc := 59) 72 dX9_descend_59 (by decide) (by omega) (by omega) (fun c3 => ?_) (fun c3 => ?_)
              · refine a_iload_n (pc := 72) dX9_descend_72 rfl ?_
                refine a_iload (pc := 73) dX9_descend_73 rfl ?_
                refine a_isub (pc := 75) dX9_descend_75 ?_
                rw [pk_sub c3]
                refine a_istore_n (pc := 76) (ls' := [_, _, _, _, _, _]) dX9_descend_76 (Nat.le_of_ble_eq_true rfl) rfl ?_
                refine a_iinc (pc := 77) (ls' := [_, _, _, _, _, _]) (nI 1) dX9_descend_77 (by decide) rfl (Nat.le_of_ble_eq_true rfl) rfl ?_
                try rw [nI_add]
                refine a_goto (pc := 80) 20 dX9_descend_80 (by decide) ?_
                rw [show a - sU (fun i => ct s lv L (l + 1) (cm lv (2 ^ E - 1) J l &&& lv i)) (s l) j - ct s lv L (l + 1) (cm lv (2 ^ E - 1) J l &&& lv j) = a - sU (fun i => ct s lv L (l + 1) (cm lv (2 ^ E - 1) J l &&& lv i)) (s l) (j + 1) by rw [sU_s hsj]; omega]
                exact ihm (j + 1) (by omega) (by omega) (by rw [sU_s hsj]; omega) _
              · refine a_aload_n (pc := 62) dX9_descend_62 rfl ?_
                refine a_iload_n (pc := 63) dX9_descend_63 rfl ?_
                refine a_iload (pc := 64) dX9_descend_64 rfl ?_
                refine a_V2v (pc := 66) 8 dX9_descend_66 lcX9_pick lX9_128 rfl rfl rfl (fit_of hR (by omega) rfl) (c_pick_8 (d0 := d0) hD hm l j (by omega) (by omega) hpr) rfl rfl (fun S' g' hS hp => ?_)
                obtain ⟨rfl, h1, h2⟩ := hp
                refine a_goto (pc := 69) 83 dX9_descend_69 (by decide) ?_
                refine a_iinc (pc := 83) (ls' := [_, _, _, _, _, _]) (nI 1) dX9_descend_83 (by decide) rfl (Nat.le_of_ble_eq_true rfl) rfl ?_
                try rw [nI_add]
                refine a_goto (pc := 86) 4 dX9_descend_86 (by decide) ?_
                refine ih (l + 1) (by omega) _ (upJ J l j) _ _ _ (hfr.tr h2) h1 (fun m hm => ?_) ?_ ?_ ?_
                · by_cases z : m = l
                  · rw [z, upJ_at]
                    exact ⟨hsj, by omega⟩
                  · rw [upJ_lt J l j m (by omega)]
                    exact hok m (by omega)
                · rw [rk_upJ]
                  omega
                · rw [cm_up]
                  exact c3
                · rw [cm_up]
                  omega
        refine AW_ls ?_ (inner (s (l + 1) - s l) (s l) (by omega) (Nat.le_refl _) (by rw [sU_e (Nat.le_refl _)]; omega) w5)
        rw [sU_e (Nat.le_refl _), Nat.sub_zero]
  exact outer L 0 (by omega) g (fun _ => 0) i _ _ (Fr.rf _ g) hp (fun m hm => absurd hm (by omega)) (by show 0 + i = i; omega) hi hN
set_option maxHeartbeats 1000000 in
set_option maxRecDepth 100000 in
theorem c_pick_34 {d0 kd kp rp : Nat} {g : GH} {L E E0 : Nat} {op s lv : Nat → Nat} {P : Nat → Int32} {J : Nat → Nat} (h : StD 34 g L E op s lv) (hm : ∀ a b, a < b → b < L → op a < op b) (k j : Nat) (hk : k < L) (hj : j < s (k + 1)) (hp : PrJ 34 g L E0 op lv P J k) : ACv mX9_pick d0 (SS kd kp rp) g [.ref 34, .int (nI k), .int (nI j)] (fun S' g' => S' = SS kd kp rp ∧ PrJ 34 g' L E0 op lv P (upJ J k j) (k + 1) ∧ Fr [35, 41, 42] g g') := by
  have hL := h.1.2
  have hs152 := h.2.2.2.2.1.1
  have hle := h.le (l := k + 1) (m := L) (by omega) (Nat.le_refl _)
  obtain ⟨ho, ho32⟩ := h.2.2.1 k hk
  obtain ⟨hv, hv30⟩ := h.2.2.2.2.2 j (by omega)
  have hc := hp.2.1 k (Nat.le_refl _)
  refine ACv.of lcX9_pick rfl rfl (fun X Q ad hR ret => ?_)
  refine AW_ls (ls' := [_, _, _]) rfl ?_
  refine a_aload_n (pc := 0) dX9_pick_0 rfl ?_
  refine a_gr (pc := 1) dX9_pick_1 fX9_30 rfl ?_
  refine a_iload_n (pc := 4) dX9_pick_4 rfl ?_
  refine a_iload_n (pc := 5) dX9_pick_5 rfl ?_
  refine a_ast (pc := 6) _ dX9_pick_6 rfl rfl (by omega) ?_
  refine a_aload_n (pc := 7) dX9_pick_7 rfl ?_
  refine a_gr (pc := 8) dX9_pick_8 fX9_9 rfl ?_
  refine a_aload_n (pc := 11) dX9_pick_11 rfl ?_
  refine a_gr (pc := 12) dX9_pick_12 fX9_15 rfl ?_
  refine a_iload_n (pc := 15) dX9_pick_15 rfl ?_
  refine a_ial (pc := 16) _ dX9_pick_16 rfl rfl (by omega) ?_
  simp only [gF_pF, gF_pA, gF_pL, gA_pF, gA_pA, gA_pL, gL_pF, gL_pA, gL_pL, reduceIte, Nat.reduceEqDiff, and_false, false_and, and_true, true_and, and_self]
  rw [ho]
  refine a_aload_n (pc := 17) dX9_pick_17 rfl ?_
  refine a_gr (pc := 18) dX9_pick_18 fX9_21 rfl ?_
  refine a_iload_n (pc := 21) dX9_pick_21 rfl ?_
  refine a_ial (pc := 22) _ dX9_pick_22 rfl rfl (by omega) ?_
  refine a_ast (pc := 23) _ dX9_pick_23 rfl rfl (by omega) ?_
  refine a_aload_n (pc := 24) dX9_pick_24 rfl ?_
  refine a_gr (pc := 25) dX9_pick_25 fX9_33 rfl ?_
  refine a_iload_n (pc := 28) dX9_pick_28 rfl ?_
  refine a_iconst (pc := 29) (nI 1) dX9_pick_29 (by decide) ?_
  refine a_iadd (pc := 30) dX9_pick_30 ?_
  try rw [nI_add]
  refine a_aload_n (pc := 31) dX9_pick_31 rfl ?_
  refine a_gr (pc := 32) dX9_pick_32 fX9_33 rfl ?_
  refine a_iload_n (pc := 35) dX9_pick_35 rfl ?_
  refine a_ial (pc := 36) _ dX9_pick_36 rfl rfl (by omega) ?_
  simp only [gF_pF, gF_pA, gF_pL, gA_pF, gA_pA, gA_pL, gL_pF, gL_pA, gL_pL, reduceIte, Nat.reduceEqDiff, and_false, false_and, and_true, true_and, and_self]
  rw [hc]
  refine a_aload_n (pc := 37) dX9_pick_37 rfl ?_
  refine a_gr (pc := 38) dX9_pick_38 fX9_24 rfl ?_
  refine a_iload_n (pc := 41) dX9_pick_41 rfl ?_
  refine a_ial (pc := 42) _ dX9_pick_42 rfl rfl (by omega) ?_
  simp only [gF_pF, gF_pA, gF_pL, gA_pF, gA_pA, gA_pL, gL_pF, gL_pA, gL_pL, reduceIte, Nat.reduceEqDiff, and_false, false_and, and_true, true_and, and_self]
  rw [hv]
  refine a_iand (pc := 43) dX9_pick_43 ?_
  rw [nI_and]
  refine a_ast (pc := 44) _ dX9_pick_44 rfl rfl (by omega) ?_
  refine ret _ _ 45 _ dX9_pick_45 rfl ?_
  refine ⟨rfl, ⟨fun l hl => ?_, fun l hl => ?_, fun l hl => ?_, fun p hp32 hno => ?_⟩, ((((Fr.rf _ g).sA (by decide) _).sA (by decide) _).sA (by decide) _)⟩
  · simp only [gF_pF, gF_pA, gF_pL, gA_pF, gA_pA, gA_pL, gL_pF, gL_pA, gL_pL, reduceIte, Nat.reduceEqDiff, and_false, false_and, and_true, true_and, and_self, upd]
    by_cases z : l = k
    · rw [if_pos z, z, upJ_at]
    · rw [if_neg z, upJ_lt J k j l (by omega)]
      exact hp.1 l (by omega)
  · simp only [gF_pF, gF_pA, gF_pL, gA_pF, gA_pA, gA_pL, gL_pF, gL_pA, gL_pL, reduceIte, Nat.reduceEqDiff, and_false, false_and, and_true, true_and, and_self, upd]
    by_cases z : l = k + 1
    · rw [if_pos z, z, cm_up]
    · rw [if_neg z, cm_congr l (fun i hi => upJ_lt J k j i (by omega))]
      exact hp.2.1 l (by omega)
  · simp only [gF_pF, gF_pA, gF_pL, gA_pF, gA_pA, gA_pL, gL_pF, gL_pA, gL_pL, reduceIte, Nat.reduceEqDiff, and_false, false_and, and_true, true_and, and_self, upd]
    by_cases z : l = k
    · rw [if_pos (by rw [z]), z, upJ_at]
    · have := hm l k (by omega) hk
      rw [if_neg (by omega), upJ_lt J k j l (by omega)]
      exact hp.2.2.1 l (by omega)
  · simp only [gF_pF, gF_pA, gF_pL, gA_pF, gA_pA, gA_pL, gL_pF, gL_pA, gL_pL, reduceIte, Nat.reduceEqDiff, and_false, false_and, and_true, true_and, and_self, upd]
    rw [if_neg (fun z => hno k hk z.symm)]
    exact hp.2.2.2 p hp32 hno
set_option maxHeartbeats 1000000 in
set_option maxRecDepth 100000 in
theorem c_step_34 {d0 kd kp rp : Nat} {g : GH} {L E E0 : Nat} {op s lv : Nat → Nat} {P : Nat → Int32} {J : Nat → Nat} (h : StD 34 g L E op s lv) (hE0 : E0 < 2 ^ 30) (hm : ∀ a b, a < b → b < L → op a < op b) (k j0 : Nat) (x : Int32) (hk : k < L) (hx : gA g 41 k = x) (hx1 : x + nI 1 = nI j0) (hj0 : s k ≤ j0) (hj1 : j0 ≤ s (k + 1)) (hp : PrJ 34 g L E0 op lv P J k) : ACi mX9_step (d0 + 1) (SS kd kp rp) g [.ref 34, .int (nI k)] (fun r S' g' => S' = SS kd kp rp ∧ ∃ bb : Bool, r = bI bb ∧ Fr [35, 41, 42] g g' ∧ (bb = true → ∃ j, j0 ≤ j ∧ j < s (k + 1) ∧ cm lv E0 J k &&& lv j ≠ 0 ∧ (∀ i, j0 ≤ i → i < j → cm lv E0 J k &&& lv i = 0) ∧ PrJ 34 g' L E0 op lv P (upJ J k j) (k + 1)) ∧ (bb = false → g' = g ∧ ∀ i, j0 ≤ i → i < s (k + 1) → cm lv E0 J k &&& lv i = 0)) := by
  have hL := h.1.2
  have hs152 := h.2.2.2.2.1.1
  have hle := h.le (l := k + 1) (m := L) (by omega) (Nat.le_refl _)
  have hsl1 := h.2.2.2.1 (k + 1) (by omega)
  have hc := hp.2.1 k (Nat.le_refl _)
  have hcl := cm_le (lv := lv) (E0 := E0) J k
  refine ACz.of lcX9_step rfl rfl (fun X Q ad hR ret => ?_)
  refine AW_ls (ls' := [_, _, _]) rfl ?_
  refine a_aload_n (pc := 0) dX9_step_0 rfl ?_
  refine a_gr (pc := 1) dX9_step_1 fX9_30 rfl ?_
  refine a_iload_n (pc := 4) dX9_step_4 rfl ?_
  refine a_ial (pc := 5) _ dX9_step_5 rfl rfl (by omega) ?_
  rw [hx]
  refine a_iconst (pc := 6) (nI 1) dX9_step_6 (by decide) ?_
  refine a_iadd (pc := 7) dX9_step_7 ?_
  try rw [nI_add]
  rw [hx1]
  refine a_istore_n (pc := 8) (ls' := [_, _, _]) dX9_step_8 (Nat.le_of_ble_eq_true rfl) rfl ?_
  have loop : ∀ t j, s (k + 1) = j + t → j0 ≤ j → (∀ i, j0 ≤ i → i < j → cm lv E0 J k &&& lv i = 0) → AW mX9_step X Q ad 0 0 (conc (SS kd kp rp) g) 9 [some (.ref 34), some (.int (nI k)), some (.int (nI j))] [] := by
    intro t
    induction t with
    | zero =>
      intro j hj hsj hz
      refine a_iload_n (pc := 9) dX9_step_9 rfl ?_
      refine a_aload_n (pc := 10) dX9_step_10 rfl ?_
      refine a_gr (pc := 11) dX9_step_11 fX9_18 rfl ?_
      refine a_iload_n (pc := 14) dX9_step_14 rfl ?_
      refine a_iconst (pc := 15) (nI 1) dX9_step_15 (by decide) ?_
      refine a_iadd (pc := 16) dX9_step_16 ?_
      try rw [nI_add]
      refine a_ial (pc := 17) _ dX9_step_17 rfl rfl (by omega) ?_
      rw [hsl1]
      refine a_icmp_geN (pc := 18) 51 dX9_step_18 (by decide) (by omega) (by omega) (fun c1 => ?_) (fun c1 => ?_)
      · refine a_iconst (pc := 51) (nI 0) dX9_step_51 (by decide) ?_
        refine ret _ _ 52 _ _ dX9_step_52 rfl (by first | exact Or.inl rfl | exact Or.inr rfl | exact bI_01 _) ?_
        exact ⟨rfl, false, rfl, Fr.rf _ g, (fun z => by cases z), fun _ => ⟨rfl, fun i h1 h2 => hz i h1 (by omega)⟩⟩
      · exact absurd c1 (by omega)
    | succ t ih =>
      intro j hj hsj hz
      obtain ⟨hv, hv30⟩ := h.2.2.2.2.2 j (by omega)
      have hand : cm lv E0 J k &&& lv j ≤ cm lv E0 J k := Nat.and_le_left
      refine a_iload_n (pc := 9) dX9_step_9 rfl ?_
      refine a_aload_n (pc := 10) dX9_step_10 rfl ?_
      refine a_gr (pc := 11) dX9_step_11 fX9_18 rfl ?_
      refine a_iload_n (pc := 14) dX9_step_14 rfl ?_
      refine a_iconst (pc := 15) (nI 1) dX9_step_15 (by decide) ?_
      refine a_iadd (pc := 16) dX9_step_16 ?_
      try rw [nI_add]
      refine a_ial (pc := 17) _ dX9_step_17 rfl rfl (by omega) ?_
      rw [hsl1]
      refine a_icmp_geN (pc := 18) 51 dX9_step_18 (by decide) (by omega) (by omega) (fun c1 => ?_) (fun c1 => ?_)
      · exact absurd c1 (by omega)
      · refine a_aload_n (pc := 21) dX9_step_21 rfl ?_
        refine a_gr (pc := 22) dX9_step_22 fX9_33 rfl ?_
        refine a_iload_n (pc := 25) dX9_step_25 rfl ?_
        refine a_ial (pc := 26) _ dX9_step_26 rfl rfl (by omega) ?_
        rw [hc]
        refine a_aload_n (pc := 27) dX9_step_27 rfl ?_
        refine a_gr (pc := 28) dX9_step_28 fX9_24 rfl ?_
        refine a_iload_n (pc := 31) dX9_step_31 rfl ?_
        refine a_ial (pc := 32) _ dX9_step_32 rfl rfl (by omega) ?_
        rw [hv]
        refine a_iand (pc := 33) dX9_step_33 ?_
        rw [nI_and]
        refine a_if_eqN (pc := 34) 45 dX9_step_34 (by decide) (by omega) (fun c2 => ?_) (fun c2 => ?_)
        · refine a_iinc (pc := 45) (ls' := [_, _, _]) (nI 1) dX9_step_45 (by decide) rfl (Nat.le_of_ble_eq_true rfl) rfl ?_
          try rw [nI_add]
          refine a_goto (pc := 48) 9 dX9_step_48 (by decide) ?_
          refine ih (j + 1) (by omega) (by omega) (fun i h1 h2 => ?_)
          by_cases z : i = j
          · rw [z]
            exact c2
          · exact hz i h1 (by omega)
        · refine a_aload_n (pc := 37) dX9_step_37 rfl ?_
          refine a_iload_n (pc := 38) dX9_step_38 rfl ?_
          refine a_iload_n (pc := 39) dX9_step_39 rfl ?_
          refine a_V2v (pc := 40) 8 dX9_step_40 lcX9_pick lX9_128 rfl rfl rfl (fit_of hR (by omega) rfl) (c_pick_34 (d0 := d0) h hm k j hk (by omega) hp) rfl rfl (fun S' g' hS hp => ?_)
          obtain ⟨rfl, h1, h2⟩ := hp
          refine a_iconst (pc := 43) (nI 1) dX9_step_43 (by decide) ?_
          refine ret _ _ 44 _ _ dX9_step_44 rfl (by first | exact Or.inl rfl | exact Or.inr rfl | exact bI_01 _) ?_
          exact ⟨rfl, true, rfl, h2, fun _ => ⟨j, hsj, by omega, c2, hz, h1⟩, (fun z => by cases z)⟩
  exact loop (s (k + 1) - j0) j0 (by omega) (Nat.le_refl _) (fun i h1 h2 => absurd h2 (by omega))
set_option maxHeartbeats 1000000 in
set_option maxRecDepth 100000 in
theorem c_descend_34 {d0 kd kp rp : Nat} {g : GH} {L E : Nat} {op s lv : Nat → Nat} {P : Nat → Int32} (h : StD 34 g L E op s lv) (ha : AlD 34 g L E s lv) (hm : ∀ a b, a < b → b < L → op a < op b) (i : Nat) (hi : i < ct s lv L 0 (2 ^ E - 1)) (hN : ct s lv L 0 (2 ^ E - 1) ≤ 4096) (hp : PrJ 34 g L (2 ^ E - 1) op lv P (fun _ => 0) 0) : ACv mX9_descend (d0 + 34) (SS kd kp rp) g [.ref 34, .int (nI i)] (fun S' g' => S' = SS kd kp rp ∧ Fr [35, 41, 42] g g' ∧ ∃ J, okJ s L J ∧ cm lv (2 ^ E - 1) J L ≠ 0 ∧ rk s lv L (2 ^ E - 1) J L = i ∧ PrJ 34 g' L (2 ^ E - 1) op lv P J L) := by
  have hL := h.1.2
  have hE := h.2.1.2.2
  have hE30 : 2 ^ E ≤ 2 ^ 30 := Nat.pow_le_pow_right (by decide) hE
  have hEp := Nat.two_pow_pos E
  have hs152 := h.2.2.2.2.1.1
  refine ACv.of lcX9_descend rfl rfl (fun X Q ad hR ret => ?_)
  refine AW_ls (ls' := [_, _, _, _, _, _]) rfl ?_
  refine a_iload_n (pc := 0) dX9_descend_0 rfl ?_
  refine a_istore_n (pc := 1) (ls' := [_, _, _, _, _, _]) dX9_descend_1 (Nat.le_of_ble_eq_true rfl) rfl ?_
  refine a_iconst (pc := 2) (nI 0) dX9_descend_2 (by decide) ?_
  refine a_istore_n (pc := 3) (ls' := [_, _, _, _, _, _]) dX9_descend_3 (Nat.le_of_ble_eq_true rfl) rfl ?_
  have outer : ∀ t l, l + t = L → ∀ (g1 : GH) (J : Nat → Nat) (a : Nat) (w4 w5 : Option Value), Fr [35, 41, 42] g g1 → PrJ 34 g1 L (2 ^ E - 1) op lv P J l → (∀ m, m < l → s m ≤ J m ∧ J m < s (m + 1)) → rk s lv L (2 ^ E - 1) J l + a = i → a < ct s lv L l (cm lv (2 ^ E - 1) J l) → ct s lv L l (cm lv (2 ^ E - 1) J l) ≤ 4096 → AW mX9_descend X Q ad 0 0 (conc (SS kd kp rp) g1) 4 [some (.ref 34), some (.int (nI i)), some (.int (nI a)), some (.int (nI l)), w4, w5] [] := by
    intro t
    induction t with
    | zero =>
      intro l hl g1 J a w4 w5 hfr hpr hok hrk hlt hle4
      obtain rfl : l = L := by omega
      have hD := h.fr hfr (by decide) (by decide) (by decide) (by decide)
      refine a_iload_n (pc := 4) dX9_descend_4 rfl ?_
      refine a_aload_n (pc := 5) dX9_descend_5 rfl ?_
      refine a_gi (pc := 6) dX9_descend_6 fX9_36 rfl ?_
      rw [hD.1.1]
      refine a_icmp_geN (pc := 9) 89 dX9_descend_9 (by decide) (by omega) (by omega) (fun c1 => ?_) (fun c1 => ?_)
      · refine ret _ _ 89 _ dX9_descend_89 rfl ?_
        rw [ct_L] at hlt
        refine ⟨rfl, hfr, J, hok, ?_, ?_, hpr⟩
        · intro z
          rw [if_pos z] at hlt
          omega
        · split at hlt <;> omega
      · exact absurd c1 (by omega)
    | succ t ih =>
      intro l hl g1 J a w4 w5 hfr hpr hok hrk hlt hle4
      have hD := h.fr hfr (by decide) (by decide) (by decide) (by decide)
      have hA : AlD 34 g1 L E s lv := fun e he l hl => by
        rw [show gA g1 (34 + 6) = gA g (34 + 6) from hfr.a (by decide)]
        exact ha e he l hl
      have hsl := hD.2.2.2.1 l (by omega)
      have hsl1 := hD.2.2.2.1 (l + 1) (by omega)
      have hle := hD.le (l := l + 1) (m := L) (by omega) (Nat.le_refl _)
      have hle2 := hD.le (l := l) (m := l + 1) (by omega) (by omega)
      have hc := hpr.2.1 l (Nat.le_refl _)
      have hcl := cm_le (lv := lv) (E0 := 2 ^ E - 1) J l
      rw [ct_s s lv (by omega : l < L)] at hlt hle4
      refine a_iload_n (pc := 4) dX9_descend_4 rfl ?_
      refine a_aload_n (pc := 5) dX9_descend_5 rfl ?_
      refine a_gi (pc := 6) dX9_descend_6 fX9_36 rfl ?_
      rw [hD.1.1]
      refine a_icmp_geN (pc := 9) 89 dX9_descend_9 (by decide) (by omega) (by omega) (fun c1 => ?_) (fun c1 => ?_)
      · exact absurd c1 (by omega)
      · refine a_aload_n (pc := 12) dX9_descend_12 rfl ?_
        refine a_gr (pc := 13) dX9_descend_13 fX9_18 rfl ?_
        refine a_iload_n (pc := 16) dX9_descend_16 rfl ?_
        refine a_ial (pc := 17) _ dX9_descend_17 rfl rfl (by omega) ?_
        rw [hsl]
        refine a_istore (pc := 18) (ls' := [_, _, _, _, _, _]) dX9_descend_18 (Nat.le_of_ble_eq_true rfl) rfl ?_
        have inner : ∀ m j, s (l + 1) = j + m → s l ≤ j → sU (fun i => ct s lv L (l + 1) (cm lv (2 ^ E - 1) J l &&& lv i)) (s l) j ≤ a → ∀ w5 : Option Value, AW mX9_descend X Q ad 0 0 (conc (SS kd kp rp) g1) 20 [some (.ref 34), some (.int (nI i)), some (.int (nI (a - sU (fun i => ct s lv L (l + 1) (cm lv (2 ^ E - 1) J l &&& lv i)) (s l) j))), some (.int (nI l)), some (.int (nI j)), w5] [] := by
          intro m
          induction m with
          | zero =>
            intro j hj hsj hsum w5
            rw [show j = s (l + 1) by omega] at hsum
            omega
          | succ m ihm =>
            intro j hj hsj hsum w5
            obtain ⟨hv, hv30⟩ := hD.2.2.2.2.2 j (by omega)
            have hand : cm lv (2 ^ E - 1) J l &&& lv j ≤ cm lv (2 ^ E - 1) J l := Nat.and_le_left
            have hm1 := sU_mono (f := fun i => ct s lv L (l + 1) (cm lv (2 ^ E - 1) J l &&& lv i)) (a := s l) (j := j + 1) (k := s (l + 1)) (by omega)
            rw [sU_s hsj] at hm1
            refine a_iload (pc := 20) dX9_descend_20 rfl ?_
            refine a_aload_n (pc := 22) dX9_descend_22 rfl ?_
            refine a_gr (pc := 23) dX9_descend_23 fX9_18 rfl ?_
            refine a_iload_n (pc := 26) dX9_descend_26 rfl ?_
            refine a_iconst (pc := 27) (nI 1) dX9_descend_27 (by decide) ?_
            refine a_iadd (pc := 28) dX9_descend_28 ?_
            try rw [nI_add]
            refine a_ial (pc := 29) _ dX9_descend_29 rfl rfl (by omega) ?_
            rw [hsl1]
            refine a_icmp_geN (pc := 30) 83 dX9_descend_30 (by decide) (by omega) (by omega) (fun c2 => ?_) (fun c2 => ?_)
            · exact absurd c2 (by omega)
            · refine a_aload_n (pc := 33) dX9_descend_33 rfl ?_
              refine a_iload_n (pc := 34) dX9_descend_34 rfl ?_
              refine a_iconst (pc := 35) (nI 1) dX9_descend_35 (by decide) ?_
              refine a_iadd (pc := 36) dX9_descend_36 ?_
              try rw [nI_add]
              refine a_aload_n (pc := 37) dX9_descend_37 rfl ?_
              refine a_gr (pc := 38) dX9_descend_38 fX9_33 rfl ?_
              refine a_iload_n (pc := 41) dX9_descend_41 rfl ?_
              refine a_ial (pc := 42) _ dX9_descend_42 rfl rfl (by omega) ?_
              rw [hc]
              refine a_aload_n (pc := 43) dX9_descend_43 rfl ?_
              refine a_gr (pc := 44) dX9_descend_44 fX9_24 rfl ?_
              refine a_iload (pc := 47) dX9_descend_47 rfl ?_
              refine a_ial (pc := 49) _ dX9_descend_49 rfl rfl (by omega) ?_
              rw [hv]
              refine a_iand (pc := 50) dX9_descend_50 ?_
              rw [nI_and]
              refine a_V2i (pc := 51) 8 dX9_descend_51 lcX9_countFrom lX9_86 rfl rfl rfl (fit_of hR (by omega) rfl) (c_countFrom_34 (d0 := d0) hD hA t (l + 1) (cm lv (2 ^ E - 1) J l &&& lv j) (by omega) (by omega)) rfl rfl (ex_i ?_)
              rw [Nat.min_eq_right (by omega)]
              refine a_istore (pc := 54) (ls' := [_, _, _, _, _, _]) dX9_descend_54 (Nat.le_of_ble_eq_true rfl) rfl ?_
              refine a_iload_n (pc := 56) dX9_descend_56 rfl ?_
              refine a_iload (pc := 57) dX9_descend_57 rfl ?_
              refine a_icmp_geN (pc := 59) 72 dX9_descend_59 (by decide) (by omega) (by omega) (fun c3 => ?_) (fun c3 => ?_)
              · refine a_iload_n (pc := 72) dX9_descend_72 rfl ?_
                refine a_iload (pc := 73) dX9_descend_73 rfl ?_
                refine a_isub (pc := 75) dX9_descend_75 ?_
                rw [pk_sub c3]
                refine a_istore_n (pc := 76) (ls' := [_, _, _, _, _, _]) dX9_descend_76 (Nat.le_of_ble_eq_true rfl) rfl ?_
                refine a_iinc (pc := 77) (ls' := [_, _, _, _, _, _]) (nI 1) dX9_descend_77 (by decide) rfl (Nat.le_of_ble_eq_true rfl) rfl ?_
                try rw [nI_add]
                refine a_goto (pc := 80) 20 dX9_descend_80 (by decide) ?_
                rw [show a - sU (fun i => ct s lv L (l + 1) (cm lv (2 ^ E - 1) J l &&& lv i)) (s l) j - ct s lv L (l + 1) (cm lv (2 ^ E - 1) J l &&& lv j) = a - sU (fun i => ct s lv L (l + 1) (cm lv (2 ^ E - 1) J l &&& lv i)) (s l) (j + 1) by rw [sU_s hsj]; omega]
                exact ihm (j + 1) (by omega) (by omega) (by rw [sU_s hsj]; omega) _
              · refine a_aload_n (pc := 62) dX9_descend_62 rfl ?_
                refine a_iload_n (pc := 63) dX9_descend_63 rfl ?_
                refine a_iload (pc := 64) dX9_descend_64 rfl ?_
                refine a_V2v (pc := 66) 8 dX9_descend_66 lcX9_pick lX9_128 rfl rfl rfl (fit_of hR (by omega) rfl) (c_pick_34 (d0 := d0) hD hm l j (by omega) (by omega) hpr) rfl rfl (fun S' g' hS hp => ?_)
                obtain ⟨rfl, h1, h2⟩ := hp
                refine a_goto (pc := 69) 83 dX9_descend_69 (by decide) ?_
                refine a_iinc (pc := 83) (ls' := [_, _, _, _, _, _]) (nI 1) dX9_descend_83 (by decide) rfl (Nat.le_of_ble_eq_true rfl) rfl ?_
                try rw [nI_add]
                refine a_goto (pc := 86) 4 dX9_descend_86 (by decide) ?_
                refine ih (l + 1) (by omega) _ (upJ J l j) _ _ _ (hfr.tr h2) h1 (fun m hm => ?_) ?_ ?_ ?_
                · by_cases z : m = l
                  · rw [z, upJ_at]
                    exact ⟨hsj, by omega⟩
                  · rw [upJ_lt J l j m (by omega)]
                    exact hok m (by omega)
                · rw [rk_upJ]
                  omega
                · rw [cm_up]
                  exact c3
                · rw [cm_up]
                  omega
        refine AW_ls ?_ (inner (s (l + 1) - s l) (s l) (by omega) (Nat.le_refl _) (by rw [sU_e (Nat.le_refl _)]; omega) w5)
        rw [sU_e (Nat.le_refl _), Nat.sub_zero]
  exact outer L 0 (by omega) g (fun _ => 0) i _ _ (Fr.rf _ g) hp (fun m hm => absurd hm (by omega)) (by show 0 + i = i; omega) hi hN
