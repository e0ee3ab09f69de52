/-! states in order; enumerations -/
def lexLt (f f' : Nat → Int32) : Prop := ∃ p, p < 32 ∧ (∀ q, q < p → f q = f' q) ∧ f p < f' p
def eq32 (f f' : Nat → Int32) : Prop := ∀ p, p < 32 → f p = f' p
theorem eq32.rf (f : Nat → Int32) : eq32 f f := fun _ _ => rfl
theorem eq32.sm {f f' : Nat → Int32} (h : eq32 f f') : eq32 f' f := fun p hp => (h p hp).symm
theorem eq32.tr {f f' f'' : Nat → Int32} (h : eq32 f f') (h' : eq32 f' f'') : eq32 f f'' := fun p hp => (h p hp).trans (h' p hp)
theorem lexLt.ne {f f' : Nat → Int32} (h : lexLt f f') : ¬ eq32 f f' := by
  obtain ⟨p, hp, -, hl⟩ := h
  intro e
  rw [e p hp] at hl
  exact Int32.lt_irrefl hl
theorem lexLt.tr {f f' f'' : Nat → Int32} (h : lexLt f f') (h' : lexLt f' f'') : lexLt f f'' := by
  obtain ⟨p, hp, e, hl⟩ := h
  obtain ⟨p', hp', e', hl'⟩ := h'
  rcases Nat.lt_trichotomy p p' with q | q | q
  · exact ⟨p, hp, fun r hr => (e r hr).trans (e' r (by omega)), by rw [← e' p q]; exact hl⟩
  · subst q
    exact ⟨p, hp, fun r hr => (e r hr).trans (e' r hr), Int32.lt_trans hl hl'⟩
  · exact ⟨p', hp', fun r hr => (e r (by omega)).trans (e' r hr), by rw [e p' q]; exact hl'⟩
theorem lexLt.eqL {f f' f'' : Nat → Int32} (h : lexLt f f') (h' : eq32 f f'') : lexLt f'' f' := by
  obtain ⟨p, hp, e, hl⟩ := h
  exact ⟨p, hp, fun r hr => (h' r (by omega)).symm.trans (e r hr), by rw [← h' p hp]; exact hl⟩
theorem lexLt.eqR {f f' f'' : Nat → Int32} (h : lexLt f f') (h' : eq32 f' f'') : lexLt f f'' := by
  obtain ⟨p, hp, e, hl⟩ := h
  exact ⟨p, hp, fun r hr => (e r hr).trans (h' r (by omega)), by rw [← h' p hp]; exact hl⟩
theorem lexLt.asym {f f' : Nat → Int32} (h : lexLt f f') : ¬ lexLt f' f := fun h' => (h.tr h').ne (eq32.rf f)
/-- a set of states is told, in order, by F 0 .. F (N - 1) -/
def Enu (St : (Nat → Int32) → Prop) (N : Nat) (F : Nat → Nat → Int32) : Prop := (∀ i j, i < j → j < N → lexLt (F i) (F j)) ∧ (∀ f, St f ↔ ∃ i, i < N ∧ eq32 f (F i))
theorem Enu.one {St : (Nat → Int32) → Prop} {N N' : Nat} {F F' : Nat → Nat → Int32} (h : Enu St N F) (h' : Enu St N' F') : ∀ i, i < N → i < N' → eq32 (F i) (F' i) := by
  intro i
  induction i using Nat.strongRecOn with
  | _ i ih =>
    intro hi hi'
    obtain ⟨j, hj, e⟩ := (h'.2 (F i)).mp ((h.2 (F i)).mpr ⟨i, hi, eq32.rf _⟩)
    rcases Nat.lt_trichotomy j i with q | q | q
    · have e2 := ih j q (by omega) hj
      exact absurd (e2.tr e.sm) (h.1 j i q hi).ne
    · subst q
      exact e
    · obtain ⟨k, hk, e2⟩ := (h.2 (F' i)).mp ((h'.2 (F' i)).mpr ⟨i, hi', eq32.rf _⟩)
      have l1 : lexLt (F k) (F i) := ((h'.1 i j q hj).eqL e2).eqR e.sm
      rcases Nat.lt_trichotomy k i with r | r | r
      · have e3 := ih k r hk (by omega)
        exact absurd (e3.sm.tr e2.sm) (h'.1 k i r hi').ne
      · subst r
        exact absurd (eq32.rf _) l1.ne
      · exact absurd l1 (h.1 i k r hk).asym
theorem Enu.num {St : (Nat → Int32) → Prop} {N N' : Nat} {F F' : Nat → Nat → Int32} (h : Enu St N F) (h' : Enu St N' F') : N = N' := by
  have key : ∀ {N N' : Nat} {F F' : Nat → Nat → Int32}, Enu St N F → Enu St N' F' → ¬ N < N' := by
    intro N N' F F' h h' hl
    obtain ⟨k, hk, e⟩ := (h.2 (F' N)).mp ((h'.2 (F' N)).mpr ⟨N, hl, eq32.rf _⟩)
    have e2 := h.one h' k hk (by omega)
    exact absurd (e2.sm.tr e.sm) (h'.1 k N hk hl).ne
  have h1 := key h h'
  have h2 := key h' h
  omega
def Mny (St : (Nat → Int32) → Prop) : Prop := ∃ F : Nat → Nat → Int32, (∀ i, i < 4097 → St (F i)) ∧ ∀ i j, i < j → j < 4097 → ¬ eq32 (F i) (F j)
theorem holes : ∀ (m n : Nat) (f : Nat → Nat), (∀ i, i < n → f i < m) → (∀ i j, i < j → j < n → f i ≠ f j) → n ≤ m := by
  intro m
  induction m with
  | zero =>
    intro n f h1 _
    cases n with
    | zero => exact Nat.le_refl 0
    | succ n => exact absurd (h1 0 (by omega)) (by omega)
  | succ m ih =>
    intro n f h1 h2
    by_cases hx : ∃ i, i < n ∧ f i = m
    · obtain ⟨i, hi, hm⟩ := hx
      have := ih (n - 1) (fun j => if j < i then f j else f (j + 1)) (fun j hj => by
        by_cases q : j < i
        · simp only [if_pos q]
          have a := h1 j (by omega)
          have b := h2 j i q hi
          omega
        · simp only [if_neg q]
          have a := h1 (j + 1) (by omega)
          have b := h2 i (j + 1) (by omega) (by omega)
          omega) (fun j k hjk hk => by
        by_cases q : j < i <;> by_cases r : k < i
        · simp only [if_pos q, if_pos r]
          exact h2 j k hjk (by omega)
        · simp only [if_pos q, if_neg r]
          exact h2 j (k + 1) (by omega) (by omega)
        · omega
        · simp only [if_neg q, if_neg r]
          exact h2 (j + 1) (k + 1) (by omega) (by omega))
      omega
    · have := ih n f (fun i hi => by
        have a := h1 i hi
        have b : f i ≠ m := fun e => hx ⟨i, hi, e⟩
        omega) h2
      omega
theorem Mny.no {St : (Nat → Int32) → Prop} {N : Nat} {F : Nat → Nat → Int32} (h : Enu St N F) (hN : N ≤ 4096) : ¬ Mny St := by
  rintro ⟨G, h1, h2⟩
  have key : ∀ i, ∃ k, i < 4097 → k < N ∧ eq32 (G i) (F k) := fun i => by
    by_cases hi : i < 4097
    · obtain ⟨k, hk, e⟩ := (h.2 (G i)).mp (h1 i hi)
      exact ⟨k, fun _ => ⟨hk, e⟩⟩
    · exact ⟨0, fun z => absurd z hi⟩
  have h3 := holes N 4097 (fun i => Classical.choose (key i)) (fun i hi => (Classical.choose_spec (key i) hi).1) (fun i j hij hj e => h2 i j hij hj (by
    have a := (Classical.choose_spec (key i) (by omega)).2
    have b := (Classical.choose_spec (key j) hj).2
    have e : Classical.choose (key i) = Classical.choose (key j) := e
    rw [e] at a
    exact a.tr b.sm))
  omega
/-! rows of choices: sorted, each once -/
def ChS (C : Nat → Int32) (p m : Nat) : Prop := ∀ a b, a < b → b < m → C (61 * p + a) < C (61 * p + b)
def ChM (C : Nat → Int32) (p m : Nat) (v : Int32) : Prop := ∃ k, k < m ∧ C (61 * p + k) = v
theorem upd_same (f : Nat → Int32) (k : Nat) (x : Int32) (h : f k = x) : upd f k x = f := funext fun j => by
  unfold upd
  split
  · subst_vars; rfl
  · rfl
theorem upd_upd (f : Nat → Int32) (k : Nat) (x y : Int32) : upd (upd f k x) k y = upd f k y := funext fun j => by
  unfold upd
  split <;> rfl
/-- the row with v put in at k, the others moved up -/
def insA (C : Nat → Int32) (p m k : Nat) (v : Int32) : Nat → Int32 := fun i => if i = 61 * p + k then v else if 61 * p + k < i ∧ i ≤ 61 * p + m then C (i - 1) else C i
theorem insA_S {C : Nat → Int32} {p m k : Nat} {v : Int32} (hs : ChS C p m) (hk : k ≤ m) (h1 : ∀ a, a < k → C (61 * p + a) < v) (h2 : ∀ a, k ≤ a → a < m → v < C (61 * p + a)) : ChS (insA C p m k v) p (m + 1) := by
  intro a b hab hb
  simp only [insA]
  by_cases ea : a = k
  · subst ea
    rw [if_pos rfl, if_neg (by omega), if_pos (by omega)]
    have := h2 (b - 1) (by omega) (by omega)
    rwa [show 61 * p + (b - 1) = 61 * p + b - 1 by omega] at this
  · by_cases eb : b = k
    · subst eb
      rw [if_neg (by omega), if_neg (by omega), if_pos rfl]
      exact h1 a hab
    · rw [if_neg (by omega), if_neg (by omega : ¬ 61 * p + b = 61 * p + k)]
      by_cases qa : k < a
      · rw [if_pos (by omega), if_pos (by omega)]
        have := hs (a - 1) (b - 1) (by omega) (by omega)
        rwa [show 61 * p + (a - 1) = 61 * p + a - 1 by omega, show 61 * p + (b - 1) = 61 * p + b - 1 by omega] at this
      · rw [if_neg (by omega)]
        by_cases qb : k < b
        · rw [if_pos (by omega)]
          have := h1 a (by omega)
          by_cases z : k = b - 1
          · have h3 := h2 (b - 1) (by omega) (by omega)
            rw [show 61 * p + (b - 1) = 61 * p + b - 1 by omega] at h3
            exact Int32.lt_trans this h3
          · have h3 := h2 (b - 1) (by omega) (by omega)
            rw [show 61 * p + (b - 1) = 61 * p + b - 1 by omega] at h3
            exact Int32.lt_trans this h3
        · rw [if_neg (by omega)]
          exact hs a b hab (by omega)
theorem insA_M {C : Nat → Int32} {p m k : Nat} {v : Int32} (hk : k ≤ m) (x : Int32) : ChM (insA C p m k v) p (m + 1) x ↔ ChM C p m x ∨ x = v := by
  unfold ChM
  simp only [insA]
  constructor
  · rintro ⟨a, ha, e⟩
    by_cases ea : a = k
    · rw [if_pos (by omega)] at e
      exact Or.inr e.symm
    · rw [if_neg (by omega)] at e
      by_cases qa : k < a
      · rw [if_pos (by omega)] at e
        exact Or.inl ⟨a - 1, by omega, by rw [← e, show 61 * p + (a - 1) = 61 * p + a - 1 by omega]⟩
      · rw [if_neg (by omega)] at e
        exact Or.inl ⟨a, by omega, e⟩
  · rintro (⟨a, ha, e⟩ | rfl)
    · by_cases qa : a < k
      · exact ⟨a, by omega, by rw [if_neg (by omega), if_neg (by omega)]; exact e⟩
      · exact ⟨a + 1, by omega, by rw [if_neg (by omega), if_pos (by omega), show 61 * p + (a + 1) - 1 = 61 * p + a by omega]; exact e⟩
    · exact ⟨k, by omega, by rw [if_pos rfl]⟩
set_option maxHeartbeats 4000000 in
set_option maxRecDepth 100000 in
theorem c_mayBe {d0 kd kp rp : Nat} {g : GH} (p m : Nat) (v : Int32) (hp : p < 32) (hm : m ≤ 60) (hn : gA g 88 p = nI m) (hs : ChS (gA g 87) p m) : ACv mX11_mayBe d0 (SS kd kp rp) g [.ref 76, .int (nI p), .int v] (fun S' g' => S' = SS kd kp rp ∧ ∃ (C : Nat → Int32) (m' : Nat), m' ≤ m + 1 ∧ 1 ≤ m' ∧ g' = pA (pA g 87 C) 88 (upd (gA g 88) p (nI m')) ∧ ChS C p m' ∧ (∀ x, ChM C p m' x ↔ ChM (gA g 87) p m x ∨ x = v) ∧ (∀ i, ¬ (61 * p ≤ i ∧ i < 61 * p + 61) → C i = gA g 87 i)) := by
  refine ACv.of lcX11_mayBe rfl rfl (fun X Q ad hR ret => ?_)
  refine AW_ls (ls' := [_, _, _, _, _, _, _]) rfl ?_
  refine a_bipush (pc := 0) (nI 61) dX11_mayBe_0 (by decide) ?_
  refine a_iload_n (pc := 2) dX11_mayBe_2 rfl ?_
  refine a_imul (pc := 3) dX11_mayBe_3 ?_
  try rw [pk_mul]
  refine a_istore_n (pc := 4) (ls' := [_, _, _, _, _, _, _]) dX11_mayBe_4 (Nat.le_of_ble_eq_true rfl) rfl ?_
  refine a_aload_n (pc := 5) dX11_mayBe_5 rfl ?_
  refine a_gr (pc := 6) dX11_mayBe_6 fX11_49 rfl ?_
  refine a_iload_n (pc := 9) dX11_mayBe_9 rfl ?_
  refine a_ial (pc := 10) _ dX11_mayBe_10 rfl rfl (by omega) ?_
  rw [hn]
  refine a_istore (pc := 11) (ls' := [_, _, _, _, _, _, _]) dX11_mayBe_11 (Nat.le_of_ble_eq_true rfl) rfl ?_
  refine a_iconst (pc := 13) (nI 0) dX11_mayBe_13 (by decide) ?_
  refine a_istore (pc := 14) (ls' := [_, _, _, _, _, _, _]) dX11_mayBe_14 (Nat.le_of_ble_eq_true rfl) rfl ?_
  -- behind the place
  have shift : ∀ k, k ≤ m → (∀ a, a < k → gA g 87 (61 * p + a) < v) → (∀ a, k ≤ a → a < m → v < gA g 87 (61 * p + a)) → ∀ (w : Option Value), AW mX11_mayBe X Q ad 0 0 (conc (SS kd kp rp) g) 63 [some (.ref 76), some (.int (nI p)), some (.int v), some (.int (nI (61 * p))), some (.int (nI m)), some (.int (nI k)), w] [] := by
    intro k hk h1 h2 w
    refine a_iload (pc := 63) dX11_mayBe_63 rfl ?_
    refine a_istore (pc := 65) (ls' := [_, _, _, _, _, _, _]) dX11_mayBe_65 (Nat.le_of_ble_eq_true rfl) rfl ?_
    have loop : ∀ t j, j = k + t → j ≤ m → AW mX11_mayBe X Q ad 0 0 (conc (SS kd kp rp) (pA g 87 (fun i => if 61 * p + j < i ∧ i ≤ 61 * p + m then gA g 87 (i - 1) else gA g 87 i))) 67 [some (.ref 76), some (.int (nI p)), some (.int v), some (.int (nI (61 * p))), some (.int (nI m)), some (.int (nI k)), some (.int (nI j))] [] := by
      intro t
      induction t with
      | zero =>
        intro j hj hjm
        obtain rfl : j = k := by omega
        refine a_iload (pc := 67) dX11_mayBe_67 rfl ?_
        refine a_iload (pc := 69) dX11_mayBe_69 rfl ?_
        refine a_icmp_leN (pc := 71) 100 dX11_mayBe_71 (by decide) (by omega) (by omega) (fun c1 => ?_) (fun c1 => ?_)
        · refine a_aload_n (pc := 100) dX11_mayBe_100 rfl ?_
          refine a_gr (pc := 101) dX11_mayBe_101 fX11_46 rfl ?_
          refine a_iload_n (pc := 104) dX11_mayBe_104 rfl ?_
          refine a_iload (pc := 105) dX11_mayBe_105 rfl ?_
          refine a_iadd (pc := 107) dX11_mayBe_107 ?_
          try rw [nI_add]
          refine a_iload_n (pc := 108) dX11_mayBe_108 rfl ?_
          refine a_ast (pc := 109) _ dX11_mayBe_109 rfl rfl (by omega) ?_
          refine a_aload_n (pc := 110) dX11_mayBe_110 rfl ?_
          refine a_gr (pc := 111) dX11_mayBe_111 fX11_49 rfl ?_
          refine a_iload_n (pc := 114) dX11_mayBe_114 rfl ?_
          refine a_dup2 (pc := 115) dX11_mayBe_115 rfl rfl ?_
          refine a_ial (pc := 116) _ dX11_mayBe_116 rfl rfl (by omega) ?_
          simp only [gF_pF, gF_pA, gF_pL, gA_pF, gA_pA, gA_pL, gL_pF, gL_pA, gL_pL, reduceIte, Nat.reduceEqDiff, and_false, false_and, and_true, true_and, and_self, hn]
          refine a_iconst (pc := 117) (nI 1) dX11_mayBe_117 (by decide) ?_
          refine a_iadd (pc := 118) dX11_mayBe_118 ?_
          try rw [nI_add]
          refine a_ast (pc := 119) _ dX11_mayBe_119 rfl rfl (by omega) ?_
          rw [pA_pA]
          refine ret _ _ 120 _ dX11_mayBe_120 rfl ?_
          have e : upd (fun i => if 61 * p + j < i ∧ i ≤ 61 * p + m then gA g 87 (i - 1) else gA g 87 i) (61 * p + j) v = insA (gA g 87) p m j v := funext fun i => by
            simp only [upd, insA]
          rw [e]
          refine ⟨rfl, _, m + 1, Nat.le_refl _, by omega, rfl, insA_S hs hjm h1 h2, insA_M hjm, ?_⟩
          intro i hi
          simp only [insA]
          rw [if_neg (by omega), if_neg (by omega)]
        · exact absurd c1 (by omega)
      | succ t ih =>
        intro j hj hjm
        refine a_iload (pc := 67) dX11_mayBe_67 rfl ?_
        refine a_iload (pc := 69) dX11_mayBe_69 rfl ?_
        refine a_icmp_leN (pc := 71) 100 dX11_mayBe_71 (by decide) (by omega) (by omega) (fun c1 => ?_) (fun c1 => ?_)
        · exact absurd c1 (by omega)
        · refine a_aload_n (pc := 74) dX11_mayBe_74 rfl ?_
          refine a_gr (pc := 75) dX11_mayBe_75 fX11_46 rfl ?_
          refine a_iload_n (pc := 78) dX11_mayBe_78 rfl ?_
          refine a_iload (pc := 79) dX11_mayBe_79 rfl ?_
          refine a_iadd (pc := 81) dX11_mayBe_81 ?_
          try rw [nI_add]
          refine a_aload_n (pc := 82) dX11_mayBe_82 rfl ?_
          refine a_gr (pc := 83) dX11_mayBe_83 fX11_46 rfl ?_
          refine a_iload_n (pc := 86) dX11_mayBe_86 rfl ?_
          refine a_iload (pc := 87) dX11_mayBe_87 rfl ?_
          refine a_iadd (pc := 89) dX11_mayBe_89 ?_
          try rw [nI_add]
          refine a_iconst (pc := 90) (nI 1) dX11_mayBe_90 (by decide) ?_
          refine a_isub (pc := 91) dX11_mayBe_91 ?_
          rw [pk_sub (by omega)]
          refine a_ial (pc := 92) _ dX11_mayBe_92 rfl rfl (by omega) ?_
          simp only [gF_pF, gF_pA, gF_pL, gA_pF, gA_pA, gA_pL, gL_pF, gL_pA, gL_pL, reduceIte, Nat.reduceEqDiff, and_false, false_and, and_true, true_and, and_self]
          rw [if_neg (by omega)]
          refine a_ast (pc := 93) _ dX11_mayBe_93 rfl rfl (by omega) ?_
          rw [gA_pA, if_pos rfl, pA_pA]
          refine a_iinc (pc := 94) (ls' := [_, _, _, _, _, _, _]) (-1) dX11_mayBe_94 (by decide) rfl (Nat.le_of_ble_eq_true rfl) rfl ?_
          rw [i_m1, pk_sub (by omega)]
          refine a_goto (pc := 97) 67 dX11_mayBe_97 (by decide) ?_
          have e : upd (fun i => if 61 * p + j < i ∧ i ≤ 61 * p + m then gA g 87 (i - 1) else gA g 87 i) (61 * p + j) (gA g 87 (61 * p + j - 1)) = (fun i => if 61 * p + (j - 1) < i ∧ i ≤ 61 * p + m then gA g 87 (i - 1) else gA g 87 i) := funext fun i => by
            simp only [upd]
            by_cases q : i = 61 * p + j
            · subst q
              rw [if_pos rfl, if_pos (by omega)]
            · rw [if_neg q]
              by_cases r : 61 * p + j < i ∧ i ≤ 61 * p + m
              · rw [if_pos r, if_pos (by omega)]
              · rw [if_neg r, if_neg (by omega)]
          rw [e]
          exact ih (j - 1) (by omega) (by omega)
    have h0 := loop (m - k) m (by omega) (Nat.le_refl _)
    have e0 : (fun i => if 61 * p + m < i ∧ i ≤ 61 * p + m then gA g 87 (i - 1) else gA g 87 i) = gA g 87 := funext fun i => by
      rw [if_neg (by omega)]
    rw [e0, pA_self] at h0
    exact h0
  have find : ∀ t k, m = k + t → (∀ a, a < k → gA g 87 (61 * p + a) < v) → AW mX11_mayBe X Q ad 0 0 (conc (SS kd kp rp) g) 16 [some (.ref 76), some (.int (nI p)), some (.int v), some (.int (nI (61 * p))), some (.int (nI m)), some (.int (nI k)), none] [] := by
    intro t
    induction t with
    | zero =>
      intro k hk h1
      refine a_iload (pc := 16) dX11_mayBe_16 rfl ?_
      refine a_iload (pc := 18) dX11_mayBe_18 rfl ?_
      refine a_icmp_geN (pc := 20) 42 dX11_mayBe_20 (by decide) (by omega) (by omega) (fun c1 => ?_) (fun c1 => ?_)
      · refine a_iload (pc := 42) dX11_mayBe_42 rfl ?_
        refine a_iload (pc := 44) dX11_mayBe_44 rfl ?_
        refine a_icmp_geN (pc := 46) 63 dX11_mayBe_46 (by decide) (by omega) (by omega) (fun c2 => ?_) (fun c2 => ?_)
        · exact shift k (by omega) h1 (fun a h h' => absurd h' (by omega)) _
        · exact absurd c2 (by omega)
      · exact absurd c1 (by omega)
    | succ t ih =>
      intro k hk h1
      refine a_iload (pc := 16) dX11_mayBe_16 rfl ?_
      refine a_iload (pc := 18) dX11_mayBe_18 rfl ?_
      refine a_icmp_geN (pc := 20) 42 dX11_mayBe_20 (by decide) (by omega) (by omega) (fun c1 => ?_) (fun c1 => ?_)
      · exact absurd c1 (by omega)
      · refine a_aload_n (pc := 23) dX11_mayBe_23 rfl ?_
        refine a_gr (pc := 24) dX11_mayBe_24 fX11_46 rfl ?_
        refine a_iload_n (pc := 27) dX11_mayBe_27 rfl ?_
        refine a_iload (pc := 28) dX11_mayBe_28 rfl ?_
        refine a_iadd (pc := 30) dX11_mayBe_30 ?_
        try rw [nI_add]
        refine a_ial (pc := 31) _ dX11_mayBe_31 rfl rfl (by omega) ?_
        refine a_iload_n (pc := 32) dX11_mayBe_32 rfl ?_
        refine a_icmp_ge (pc := 33) 42 dX11_mayBe_33 (by decide) (fun c2 => ?_) (fun c2 => ?_)
        · refine a_iload (pc := 42) dX11_mayBe_42 rfl ?_
          refine a_iload (pc := 44) dX11_mayBe_44 rfl ?_
          refine a_icmp_geN (pc := 46) 63 dX11_mayBe_46 (by decide) (by omega) (by omega) (fun c3 => ?_) (fun c3 => ?_)
          · exact absurd c3 (by omega)
          · refine a_aload_n (pc := 49) dX11_mayBe_49 rfl ?_
            refine a_gr (pc := 50) dX11_mayBe_50 fX11_46 rfl ?_
            refine a_iload_n (pc := 53) dX11_mayBe_53 rfl ?_
            refine a_iload (pc := 54) dX11_mayBe_54 rfl ?_
            refine a_iadd (pc := 56) dX11_mayBe_56 ?_
            try rw [nI_add]
            refine a_ial (pc := 57) _ dX11_mayBe_57 rfl rfl (by omega) ?_
            refine a_iload_n (pc := 58) dX11_mayBe_58 rfl ?_
            refine a_icmp_ne (pc := 59) 63 dX11_mayBe_59 (by decide) (fun c4 => ?_) (fun c4 => ?_)
            · refine shift k (by omega) h1 (fun a h h' => ?_) _
              have l1 : v < gA g 87 (61 * p + k) := by
                rw [Int32.lt_iff_le_and_ne]
                exact ⟨c2, fun z => c4 z.symm⟩
              rcases Nat.lt_or_ge k a with q | q
              · exact Int32.lt_trans l1 (hs k a q h')
              · rw [show a = k by omega]
                exact l1
            · refine ret _ _ 62 _ dX11_mayBe_62 rfl ?_
              refine ⟨rfl, gA g 87, m, by omega, by omega, ?_, hs, fun x => ⟨Or.inl, fun z => z.elim id (fun q => ⟨k, by omega, by rw [c4, q]⟩)⟩, fun _ _ => rfl⟩
              rw [pA_self, upd_same _ _ _ hn, pA_self]
        · refine a_iinc (pc := 36) (ls' := [_, _, _, _, _, _, _]) (nI 1) dX11_mayBe_36 (by decide) rfl (Nat.le_of_ble_eq_true rfl) rfl ?_
          try rw [nI_add]
          refine a_goto (pc := 39) 16 dX11_mayBe_39 (by decide) ?_
          refine ih (k + 1) (by omega) (fun a ha => ?_)
          rcases Nat.lt_or_ge a k with q | q
          · exact h1 a q
          · rw [show a = k by omega]
            exact Int32.not_le.mp c2
  exact find m 0 (by omega) (fun a h => absurd h (by omega))
