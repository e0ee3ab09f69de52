/-! sums over a stretch -/
def sU (f : Nat → Nat) (a : Nat) : Nat → Nat
  | 0 => 0
  | j + 1 => if a ≤ j then sU f a j + f j else 0
theorem sU_s {f : Nat → Nat} {a j : Nat} (h : a ≤ j) : sU f a (j + 1) = sU f a j + f j := by rw [sU, if_pos h]
theorem sU_e {f : Nat → Nat} {a : Nat} : ∀ {j : Nat}, j ≤ a → sU f a j = 0
  | 0, _ => rfl
  | j + 1, h => by rw [sU, if_neg (by omega)]
theorem sU_le {f : Nat → Nat} {a j : Nat} : ∀ t, sU f a j ≤ sU f a (j + t)
  | 0 => Nat.le_refl _
  | t + 1 => by
    have ih := sU_le (f := f) (a := a) (j := j) t
    by_cases h : a ≤ j + t
    · rw [← Nat.add_assoc, sU_s h]
      omega
    · rw [sU_e (by omega)]
      omega
theorem sU_mono {f : Nat → Nat} {a j k : Nat} (h : j ≤ k) : sU f a j ≤ sU f a k := by
  obtain ⟨t, rfl⟩ := Nat.exists_eq_add_of_le h
  exact sU_le t
theorem sU_tail {f : Nat → Nat} {a j : Nat} : ∀ t, (∀ i, j ≤ i → i < j + t → f i = 0) → a ≤ j → sU f a (j + t) = sU f a j
  | 0, _, _ => rfl
  | t + 1, h, ha => by
    rw [← Nat.add_assoc, sU_s (by omega), sU_tail t (fun i h1 h2 => h i h1 (by omega)) ha, h (j + t) (by omega) (by omega)]
    omega
theorem sU_tl {f : Nat → Nat} {a j k : Nat} (hjk : j ≤ k) (h : ∀ i, j ≤ i → i < k → f i = 0) (ha : a ≤ j) : sU f a k = sU f a j := by
  obtain ⟨t, rfl⟩ := Nat.exists_eq_add_of_le hjk
  exact sU_tail t h ha
theorem sU_congr {f f' : Nat → Nat} {a : Nat} : ∀ k, (∀ i, a ≤ i → i < k → f i = f' i) → sU f a k = sU f' a k
  | 0, _ => rfl
  | k + 1, h => by
    by_cases ha : a ≤ k
    · rw [sU_s ha, sU_s ha, sU_congr k (fun i h1 h2 => h i h1 (by omega)), h k ha (by omega)]
    · rw [sU_e (by omega), sU_e (by omega)]
theorem sU_find {f : Nat → Nat} {a x : Nat} : ∀ k, x < sU f a k → ∃ j, a ≤ j ∧ j < k ∧ sU f a j ≤ x ∧ x < sU f a j + f j
  | 0, h => absurd h (by simp [sU])
  | k + 1, h => by
    by_cases ha : a ≤ k
    · by_cases hk : x < sU f a k
      · obtain ⟨j, h1, h2, h3⟩ := sU_find k hk
        exact ⟨j, h1, by omega, h3⟩
      · rw [sU_s ha] at h
        exact ⟨k, ha, by omega, by omega, h⟩
    · rw [sU_e (by omega)] at h
      omega
/-! paths down the levels: s where a level begins, lv who leaves an int, L levels -/
def cnt (s lv : Nat → Nat) : Nat → Nat → Nat → Nat
  | 0, _, c => if c = 0 then 0 else 1
  | t + 1, l, c => sU (fun j => cnt s lv t (l + 1) (c &&& lv j)) (s l) (s (l + 1))
def ct (s lv : Nat → Nat) (L l c : Nat) : Nat := cnt s lv (L - l) l c
theorem ct_L (s lv : Nat → Nat) (L c : Nat) : ct s lv L L c = if c = 0 then 0 else 1 := by rw [ct, Nat.sub_self, cnt]
theorem ct_s (s lv : Nat → Nat) {L l : Nat} (h : l < L) (c : Nat) : ct s lv L l c = sU (fun j => ct s lv L (l + 1) (c &&& lv j)) (s l) (s (l + 1)) := by
  rw [ct, show L - l = (L - (l + 1)) + 1 by omega, cnt]
  rfl
theorem cnt_0 (s lv : Nat → Nat) : ∀ t l, cnt s lv t l 0 = 0
  | 0, _ => by rw [cnt, if_pos rfl]
  | t + 1, l => by
    rw [cnt]
    by_cases h : s l ≤ s (l + 1)
    · rw [sU_tl h (fun i _ _ => by rw [Nat.zero_and]; exact cnt_0 s lv t (l + 1)) (Nat.le_refl _), sU_e (Nat.le_refl _)]
    · rw [sU_e (by omega)]
theorem ct_0 (s lv : Nat → Nat) (L l : Nat) : ct s lv L l 0 = 0 := cnt_0 s lv _ l
def cm (lv : Nat → Nat) (E0 : Nat) (J : Nat → Nat) : Nat → Nat
  | 0 => E0
  | l + 1 => cm lv E0 J l &&& lv (J l)
def rk (s lv : Nat → Nat) (L E0 : Nat) (J : Nat → Nat) : Nat → Nat
  | 0 => 0
  | l + 1 => rk s lv L E0 J l + sU (fun j => ct s lv L (l + 1) (cm lv E0 J l &&& lv j)) (s l) (J l)
def okJ (s : Nat → Nat) (L : Nat) (J : Nat → Nat) : Prop := ∀ l, l < L → s l ≤ J l ∧ J l < s (l + 1)
section P52
variable {s lv : Nat → Nat} {L E0 : Nat}
theorem cm_congr {J J' : Nat → Nat} : ∀ l, (∀ i, i < l → J i = J' i) → cm lv E0 J l = cm lv E0 J' l
  | 0, _ => rfl
  | l + 1, h => by rw [cm, cm, cm_congr l (fun i hi => h i (by omega)), h l (by omega)]
theorem rk_congr {J J' : Nat → Nat} : ∀ l, (∀ i, i < l → J i = J' i) → rk s lv L E0 J l = rk s lv L E0 J' l
  | 0, _ => rfl
  | l + 1, h => by rw [rk, rk, rk_congr l (fun i hi => h i (by omega)), cm_congr l (fun i hi => h i (by omega)), h l (by omega)]
theorem rk_mono {J : Nat → Nat} (l : Nat) : ∀ t, rk s lv L E0 J l ≤ rk s lv L E0 J (l + t)
  | 0 => Nat.le_refl _
  | t + 1 => by
    have := rk_mono (J := J) l t
    rw [← Nat.add_assoc, rk]
    omega
/-- what stands behind a prefix -/
theorem rk_up {J : Nat → Nat} {l : Nat} (hl : l < L) (hJ : s l ≤ J l) : rk s lv L E0 J (l + 1) + ct s lv L (l + 1) (cm lv E0 J (l + 1)) = rk s lv L E0 J l + sU (fun j => ct s lv L (l + 1) (cm lv E0 J l &&& lv j)) (s l) (J l + 1) := by
  rw [rk, sU_s hJ, cm]
  omega
theorem rk_rest {J : Nat → Nat} (hJ : okJ s L J) (hc : cm lv E0 J L ≠ 0) : ∀ t l, l + t = L → rk s lv L E0 J L + 1 ≤ rk s lv L E0 J l + ct s lv L l (cm lv E0 J l)
  | 0, l, h => by
    obtain rfl : l = L := by omega
    rw [ct_L, if_neg hc]
    exact Nat.le_refl _
  | t + 1, l, h => by
    have ih := rk_rest hJ hc t (l + 1) (by omega)
    have h1 := hJ l (by omega)
    rw [rk_up (by omega) h1.1] at ih
    rw [ct_s s lv (by omega : l < L)]
    have := sU_mono (f := fun j => ct s lv L (l + 1) (cm lv E0 J l &&& lv j)) (a := s l) (j := J l + 1) (k := s (l + 1)) (by omega)
    omega
theorem rk_lt {J : Nat → Nat} (hJ : okJ s L J) (hc : cm lv E0 J L ≠ 0) : rk s lv L E0 J L < ct s lv L 0 E0 := by
  have := rk_rest hJ hc L 0 (by omega)
  have e : rk s lv L E0 J 0 = 0 := rfl
  have e2 : cm lv E0 J 0 = E0 := rfl
  rw [e, e2] at this
  omega
theorem rk_diff {J J' : Nat → Nat} (hJ : okJ s L J) (hc : cm lv E0 J L ≠ 0) {l : Nat} (hl : l < L) (he : ∀ i, i < l → J i = J' i) (hlt : J l < J' l) : rk s lv L E0 J L < rk s lv L E0 J' L := by
  have h1 := rk_rest hJ hc (L - (l + 1)) (l + 1) (by omega)
  rw [rk_up hl (hJ l hl).1] at h1
  have h2 := rk_mono (s := s) (lv := lv) (L := L) (E0 := E0) (J := J') (l + 1) (L - (l + 1))
  rw [show l + 1 + (L - (l + 1)) = L by omega] at h2
  have h3 : rk s lv L E0 J' (l + 1) = rk s lv L E0 J l + sU (fun j => ct s lv L (l + 1) (cm lv E0 J l &&& lv j)) (s l) (J' l) := by
    rw [rk, rk_congr l he, cm_congr l he]
  have h4 := sU_mono (f := fun j => ct s lv L (l + 1) (cm lv E0 J l &&& lv j)) (a := s l) (j := J l + 1) (k := J' l) hlt
  omega
theorem fst_diff {J J' : Nat → Nat} : ∀ n, (∀ i, i < n → J i = J' i) ∨ ∃ l, l < n ∧ (∀ i, i < l → J i = J' i) ∧ J l ≠ J' l
  | 0 => Or.inl (fun i h => absurd h (by omega))
  | n + 1 => by
    rcases fst_diff (J := J) (J' := J') n with h | ⟨l, h1, h2, h3⟩
    · by_cases e : J n = J' n
      · left
        intro i hi
        by_cases z : i = n
        · rw [z]
          exact e
        · exact h i (by omega)
      · exact Or.inr ⟨n, by omega, h, e⟩
    · exact Or.inr ⟨l, by omega, h2, h3⟩
theorem rk_inj {J J' : Nat → Nat} (hJ : okJ s L J) (hc : cm lv E0 J L ≠ 0) (hJ' : okJ s L J') (hc' : cm lv E0 J' L ≠ 0) (e : rk s lv L E0 J L = rk s lv L E0 J' L) : ∀ i, i < L → J i = J' i := by
  rcases fst_diff (J := J) (J' := J') L with h | ⟨l, h1, h2, h3⟩
  · exact h
  · rcases Nat.lt_or_gt_of_ne h3 with q | q
    · exact absurd e (Nat.ne_of_lt (rk_diff hJ hc h1 h2 q))
    · exact absurd e.symm (Nat.ne_of_lt (rk_diff hJ' hc' h1 (fun i hi => (h2 i hi).symm) q))
theorem rk_ex : ∀ t l, l + t = L → ∀ (J : Nat → Nat) (a : Nat), a < ct s lv L l (cm lv E0 J l) → ∃ J' : Nat → Nat, (∀ i, i < l → J' i = J i) ∧ (∀ i, l ≤ i → i < L → s i ≤ J' i ∧ J' i < s (i + 1)) ∧ cm lv E0 J' L ≠ 0 ∧ rk s lv L E0 J' L = rk s lv L E0 J l + a
  | 0, l, h, J, a, ha => by
    obtain rfl : l = L := by omega
    rw [ct_L] at ha
    refine ⟨J, fun _ _ => rfl, fun i h1 h2 => absurd h2 (by omega), ?_, ?_⟩
    · intro z
      rw [if_pos z] at ha
      omega
    · split at ha <;> omega
  | t + 1, l, h, J, a, ha => by
    rw [ct_s s lv (by omega : l < L)] at ha
    obtain ⟨j, h1, h2, h3, h4⟩ := sU_find _ ha
    have ea : ∀ i, i < l → (if i = l then j else J i) = J i := fun i hi => if_neg (by omega)
    have ec : cm lv E0 (fun i => if i = l then j else J i) (l + 1) = cm lv E0 J l &&& lv j := by
      rw [cm, cm_congr l ea, if_pos rfl]
    obtain ⟨J', g1, g2, g3, g4⟩ := rk_ex t (l + 1) (by omega) (fun i => if i = l then j else J i) (a - sU (fun j => ct s lv L (l + 1) (cm lv E0 J l &&& lv j)) (s l) j) (by rw [ec]; omega)
    refine ⟨J', fun i hi => by rw [g1 i (by omega), ea i hi], fun i hi hi2 => ?_, g3, ?_⟩
    · by_cases z : i = l
      · subst z
        rw [g1 i (by omega), if_pos rfl]
        exact ⟨h1, h2⟩
      · exact g2 i (by omega) hi2
    · rw [g4, rk, rk_congr l ea, cm_congr l ea, if_pos rfl]
      omega
end P52
/-! states of paths -/
def fJ (P iv : Nat → Int32) (op J : Nat → Nat) : Nat → Nat → Int32
  | 0, p => P p
  | l + 1, p => if op l = p then iv (J l) else fJ P iv op J l p
theorem fJ_no {P iv : Nat → Int32} {op J : Nat → Nat} {p : Nat} : ∀ L, (∀ l, l < L → op l ≠ p) → fJ P iv op J L p = P p
  | 0, _ => rfl
  | L + 1, h => by
    rw [fJ, if_neg (h L (by omega))]
    exact fJ_no L (fun l hl => h l (by omega))
theorem fJ_at {P iv : Nat → Int32} {op J : Nat → Nat} {L : Nat} (hm : ∀ a b, a < b → b < L → op a < op b) {l : Nat} (hl : l < L) : fJ P iv op J L (op l) = iv (J l) := by
  have : ∀ k, l < k → k ≤ L → fJ P iv op J k (op l) = iv (J l) := by
    intro k
    induction k with
    | zero =>
      intro h
      omega
    | succ k ih =>
      intro h1 h2
      rw [fJ]
      by_cases e : op k = op l
      · rw [if_pos e]
        by_cases z : k = l
        · rw [z]
        · exact absurd (hm l k (by omega) (by omega)) (by omega)
      · rw [if_neg e]
        exact ih (by
          rcases Nat.lt_or_eq_of_le (Nat.le_of_lt_succ h1) with q | q
          · exact q
          · exact absurd (by rw [q]) e) (by omega)
  exact this L hl (Nat.le_refl _)
theorem fJ_dec {op : Nat → Nat} (p : Nat) : ∀ L, (∀ l, l < L → op l ≠ p) ∨ ∃ l, l < L ∧ op l = p
  | 0 => Or.inl (fun l h => absurd h (by omega))
  | L + 1 => by
    rcases fJ_dec (op := op) p L with h | ⟨l, h1, h2⟩
    · by_cases e : op L = p
      · exact Or.inr ⟨L, by omega, e⟩
      · left
        intro l hl
        by_cases z : l = L
        · rw [z]
          exact e
        · exact h l (by omega)
    · exact Or.inr ⟨l, by omega, h2⟩
/-- levels that are right for a set In e p v of ints by epochs -/
def LvOk (In : Nat → Nat → Int32 → Prop) (E : Nat) (P iv : Nat → Int32) (op s lv : Nat → Nat) (L : Nat) : Prop :=
  (∀ l, l < L → op l < 32) ∧ (∀ a b, a < b → b < L → op a < op b) ∧ (∀ l, l < L → ∀ a b, s l ≤ a → a < b → b < s (l + 1) → iv a < iv b) ∧
  (∀ l, l < L → ∀ e, e < E → ∀ v, In e (op l) v ↔ ∃ j, s l ≤ j ∧ j < s (l + 1) ∧ iv j = v ∧ (lv j).testBit e = true) ∧
  (∀ p, p < 32 → (∀ l, l < L → op l ≠ p) → ∀ e, e < E → ∀ v, In e p v ↔ v = P p)
theorem cm_bit {lv J : Nat → Nat} {E0 e : Nat} : ∀ l, (cm lv E0 J l).testBit e = true ↔ E0.testBit e = true ∧ ∀ i, i < l → (lv (J i)).testBit e = true
  | 0 => ⟨fun h => ⟨h, fun i hi => absurd hi (by omega)⟩, fun h => h.1⟩
  | l + 1 => by
    rw [cm, Nat.testBit_and, Bool.and_eq_true, cm_bit l]
    constructor
    · rintro ⟨⟨h1, h2⟩, h3⟩
      refine ⟨h1, fun i hi => ?_⟩
      by_cases z : i = l
      · rw [z]
        exact h3
      · exact h2 i (by omega)
    · rintro ⟨h1, h2⟩
      exact ⟨⟨h1, fun i hi => h2 i (by omega)⟩, h2 l (by omega)⟩
theorem LvOk.lex {In : Nat → Nat → Int32 → Prop} {E : Nat} {P iv : Nat → Int32} {op s lv : Nat → Nat} {L : Nat} (h : LvOk In E P iv op s lv L) {J J' : Nat → Nat} (hJ : okJ s L J) (hJ' : okJ s L J') {l : Nat} (hl : l < L) (he : ∀ i, i < l → J i = J' i) (hlt : J l < J' l) : lexLt (fJ P iv op J L) (fJ P iv op J' L) := by
  refine ⟨op l, h.1 l hl, fun q hq => ?_, ?_⟩
  · rcases fJ_dec (op := op) q L with z | ⟨l', h1, h2⟩
    · rw [fJ_no L z, fJ_no L z]
    · subst h2
      rw [fJ_at h.2.1 h1, fJ_at h.2.1 h1]
      have : l' < l := by
        rcases Nat.lt_trichotomy l' l with q' | q' | q'
        · exact q'
        · subst q'
          omega
        · have := h.2.1 l l' q' h1
          omega
      rw [he l' this]
  · rw [fJ_at h.2.1 hl, fJ_at h.2.1 hl]
    exact h.2.2.1 l hl _ _ (hJ l hl).1 hlt (hJ' l hl).2
theorem LvOk.enu {In : Nat → Nat → Int32 → Prop} {E : Nat} {P iv : Nat → Int32} {op s lv : Nat → Nat} {L : Nat} (h : LvOk In E P iv op s lv L) : ∃ F : Nat → Nat → Int32, Enu (fun f => ∃ e, e < E ∧ ∀ p, p < 32 → In e p (f p)) (ct s lv L 0 (2 ^ E - 1)) F ∧ ∀ J, okJ s L J → cm lv (2 ^ E - 1) J L ≠ 0 → eq32 (fJ P iv op J L) (F (rk s lv L (2 ^ E - 1) J L)) := by
  have ex : ∀ i, i < ct s lv L 0 (2 ^ E - 1) → ∃ J : Nat → Nat, okJ s L J ∧ cm lv (2 ^ E - 1) J L ≠ 0 ∧ rk s lv L (2 ^ E - 1) J L = i := by
    intro i hi
    obtain ⟨J, -, h2, h3, h4⟩ := rk_ex (s := s) (lv := lv) (L := L) (E0 := 2 ^ E - 1) L 0 (by omega) (fun _ => 0) i hi
    exact ⟨J, fun l hl => h2 l (by omega) hl, h3, by rw [h4]; show 0 + i = i; omega⟩
  have hch : ∃ pj : Nat → Nat → Nat, ∀ i, i < ct s lv L 0 (2 ^ E - 1) → okJ s L (pj i) ∧ cm lv (2 ^ E - 1) (pj i) L ≠ 0 ∧ rk s lv L (2 ^ E - 1) (pj i) L = i := by
    refine ⟨fun i => if hi : i < ct s lv L 0 (2 ^ E - 1) then Classical.choose (ex i hi) else fun _ => 0, fun i hi => ?_⟩
    dsimp only
    rw [dif_pos hi]
    exact Classical.choose_spec (ex i hi)
  obtain ⟨pj, hpj⟩ := hch
  have same : ∀ J, okJ s L J → cm lv (2 ^ E - 1) J L ≠ 0 → eq32 (fJ P iv op J L) (fJ P iv op (pj (rk s lv L (2 ^ E - 1) J L)) L) := by
    intro J hJ hc p hp
    obtain ⟨g1, g2, g3⟩ := hpj _ (rk_lt hJ hc)
    have e := rk_inj hJ hc g1 g2 g3.symm
    rcases fJ_dec (op := op) p L with z | ⟨l', h1, h2⟩
    · rw [fJ_no L z, fJ_no L z]
    · subst h2
      rw [fJ_at h.2.1 h1, fJ_at h.2.1 h1, e l' h1]
  refine ⟨fun i => fJ P iv op (pj i) L, ⟨fun i j hij hj => ?_, fun f => ⟨fun ⟨e, he, hf⟩ => ?_, fun ⟨i, hi, hf⟩ => ?_⟩⟩, same⟩
  · obtain ⟨a1, a2, a3⟩ := hpj i (by omega)
    obtain ⟨b1, b2, b3⟩ := hpj j hj
    rcases fst_diff (J := pj i) (J' := pj j) L with z | ⟨l, h1, h2, h3⟩
    · have := rk_congr (s := s) (lv := lv) (L := L) (E0 := 2 ^ E - 1) L z
      omega
    · rcases Nat.lt_or_gt_of_ne h3 with q | q
      · exact h.lex a1 b1 h1 h2 q
      · have := rk_diff b1 b2 h1 (fun i hi => (h2 i hi).symm) q
        omega
  · have hex : ∀ l, l < L → ∃ j, s l ≤ j ∧ j < s (l + 1) ∧ iv j = f (op l) ∧ (lv j).testBit e = true := fun l hl => (h.2.2.2.1 l hl e he _).mp (hf _ (h.1 l hl))
    have hch : ∃ J : Nat → Nat, ∀ l, l < L → s l ≤ J l ∧ J l < s (l + 1) ∧ iv (J l) = f (op l) ∧ (lv (J l)).testBit e = true := by
      refine ⟨fun l => if hl : l < L then Classical.choose (hex l hl) else 0, fun l hl => ?_⟩
      dsimp only
      rw [dif_pos hl]
      exact Classical.choose_spec (hex l hl)
    obtain ⟨J, hJ⟩ := hch
    have ok : okJ s L J := fun l hl => ⟨(hJ l hl).1, (hJ l hl).2.1⟩
    have hb : (cm lv (2 ^ E - 1) J L).testBit e = true := (cm_bit L).mpr ⟨by rw [Nat.testBit_two_pow_sub_one]; exact decide_eq_true he, fun i hi => (hJ i hi).2.2.2⟩
    have hc : cm lv (2 ^ E - 1) J L ≠ 0 := fun z => by
      rw [z, Nat.zero_testBit] at hb
      cases hb
    refine ⟨_, rk_lt ok hc, eq32.tr (fun p hp => ?_) (same J ok hc)⟩
    rcases fJ_dec (op := op) p L with z | ⟨l', h1, h2⟩
    · rw [fJ_no L z]
      exact (h.2.2.2.2 p hp z e he _).mp (hf p hp)
    · subst h2
      rw [fJ_at h.2.1 h1, (hJ l' h1).2.2.1]
  · obtain ⟨a1, a2, a3⟩ := hpj i hi
    obtain ⟨e, hb⟩ := Nat.exists_testBit_of_ne_zero a2
    have hb2 := (cm_bit L).mp hb
    have he : e < E := by
      have := hb2.1
      rw [Nat.testBit_two_pow_sub_one] at this
      exact of_decide_eq_true this
    refine ⟨e, he, fun p hp => ?_⟩
    rw [hf p hp]
    dsimp only
    rcases fJ_dec (op := op) p L with z | ⟨l', h1, h2⟩
    · rw [fJ_no L z]
      exact (h.2.2.2.2 p hp z e he _).mpr rfl
    · subst h2
      rw [fJ_at h.2.1 h1]
      exact (h.2.2.2.1 l' h1 e he _).mpr ⟨pj i l', (a1 l' h1).1, (a1 l' h1).2, rfl, hb2.2 l' h1⟩
