/-! mixed numbers: digits of n by 32 places, place p with m p of them -/
def wtR (m : Nat → Nat) : Nat → Nat
  | 0 => 1
  | k + 1 => m (31 - k) * wtR m k
def wt (m : Nat → Nat) (p : Nat) : Nat := wtR m (32 - p)
def dg (m : Nat → Nat) (p n : Nat) : Nat := n / wt m (p + 1) % m p
theorem wt_32 (m : Nat → Nat) : wt m 32 = 1 := rfl
theorem wt_s (m : Nat → Nat) {p : Nat} (hp : p < 32) : wt m p = m p * wt m (p + 1) := by
  unfold wt
  obtain ⟨k, hk⟩ : ∃ k, 32 - p = k + 1 := ⟨31 - p, by omega⟩
  rw [hk, show 32 - (p + 1) = k by omega, wtR, show 31 - k = p by omega]
theorem wt_pos {m : Nat → Nat} (hm : ∀ p, p < 32 → 1 ≤ m p) : ∀ k p, p + k = 32 → 1 ≤ wt m p
  | 0, p, h => by rw [show p = 32 by omega]; exact Nat.le_refl 1
  | k + 1, p, h => by
    rw [wt_s m (by omega)]
    exact Nat.mul_pos (hm p (by omega)) (wt_pos hm k (p + 1) (by omega))
theorem wt_pos' {m : Nat → Nat} (hm : ∀ p, p < 32 → 1 ≤ m p) {p : Nat} (hp : p ≤ 32) : 1 ≤ wt m p := wt_pos hm (32 - p) p (by omega)
theorem wt_dvd (m : Nat → Nat) : ∀ k p, p + k ≤ 32 → wt m (p + k) ∣ wt m p
  | 0, p, _ => Nat.dvd_refl _
  | k + 1, p, h => by
    have h1 := wt_dvd m k p (by omega)
    have h2 : wt m (p + (k + 1)) ∣ wt m (p + k) := by
      rw [wt_s m (p := p + k) (by omega)]
      exact Nat.dvd_mul_left _ _
    exact Nat.dvd_trans h2 h1
theorem wt_dvd' (m : Nat → Nat) {p q : Nat} (h : p ≤ q) (hq : q ≤ 32) : wt m q ∣ wt m p := by
  have := wt_dvd m (q - p) p (by omega)
  rwa [show p + (q - p) = q by omega] at this
theorem dg_lt {m : Nat → Nat} (hm : ∀ p, p < 32 → 1 ≤ m p) {p : Nat} (hp : p < 32) (n : Nat) : dg m p n < m p := Nat.mod_lt _ (hm p hp)
theorem dg_0 (m : Nat → Nat) (p : Nat) : dg m p 0 = 0 := by simp [dg]
/-- digits below a place that n + 1 is divisible by are 0 -/
theorem dg_zero {m : Nat → Nat} (hm : ∀ p, p < 32 → 1 ≤ m p) {n p q : Nat} (hpq : p < q) (hq : q < 32) (h : wt m (p + 1) ∣ n) : dg m q n = 0 := by
  have h1 : wt m q ∣ n := Nat.dvd_trans (wt_dvd' m (by omega) (by omega)) h
  obtain ⟨c, rfl⟩ := h1
  unfold dg
  rw [wt_s m hq, Nat.mul_comm (m q), Nat.mul_assoc, Nat.mul_div_cancel_left _ (wt_pos' hm (by omega)), Nat.mul_mod_right]
theorem dg_carry {m : Nat → Nat} (hm : ∀ p, p < 32 → 1 ≤ m p) {n p : Nat} (hp : p < 32) (h : wt m (p + 1) ∣ n + 1) (hd : dg m p n = m p - 1) : wt m p ∣ n + 1 := by
  obtain ⟨c, hc⟩ := h
  have hw := wt_pos' hm (p := p + 1) (by omega)
  have hc1 : 1 ≤ c := by
    rcases Nat.eq_zero_or_pos c with z | z
    · subst z; simp at hc
    · exact z
  have hn : n / wt m (p + 1) = c - 1 := by
    have e : n = wt m (p + 1) * (c - 1) + (wt m (p + 1) - 1) := by
      have : wt m (p + 1) * c = wt m (p + 1) * (c - 1) + wt m (p + 1) := by
        rw [← Nat.mul_succ, Nat.succ_eq_add_one, Nat.sub_add_cancel hc1]
      omega
    rw [e, Nat.mul_add_div (by omega), Nat.div_eq_of_lt (by omega), Nat.add_zero]
  have hmp := hm p hp
  rw [dg, hn] at hd
  have hcm : c % m p = 0 := by
    have e : c = (c - 1) + 1 := by omega
    rw [e, Nat.add_mod, hd]
    by_cases h1 : m p = 1
    · rw [h1, Nat.mod_one]
    · rw [Nat.mod_eq_of_lt (show 1 < m p by omega), show m p - 1 + 1 = m p by omega, Nat.mod_self]
  obtain ⟨d, hd2⟩ := Nat.dvd_of_mod_eq_zero hcm
  rw [wt_s m hp, hc, hd2]
  exact ⟨d, by rw [Nat.mul_left_comm, Nat.mul_assoc]⟩
theorem dg_up {m : Nat → Nat} (hm : ∀ p, p < 32 → 1 ≤ m p) {n p : Nat} (hp : p < 32) (h : wt m (p + 1) ∣ n + 1) (hd : dg m p n ≠ m p - 1) : dg m p (n + 1) = dg m p n + 1 ∧ ∀ q, q < p → dg m q (n + 1) = dg m q n := by
  obtain ⟨c, hc⟩ := h
  have hw := wt_pos' hm (p := p + 1) (by omega)
  have hc1 : 1 ≤ c := by
    rcases Nat.eq_zero_or_pos c with z | z
    · subst z; simp at hc
    · exact z
  have hn : n / wt m (p + 1) = c - 1 := by
    have e : n = wt m (p + 1) * (c - 1) + (wt m (p + 1) - 1) := by
      have : wt m (p + 1) * c = wt m (p + 1) * (c - 1) + wt m (p + 1) := by
        rw [← Nat.mul_succ, Nat.succ_eq_add_one, Nat.sub_add_cancel hc1]
      omega
    rw [e, Nat.mul_add_div (by omega), Nat.div_eq_of_lt (by omega), Nat.add_zero]
  have hn1 : (n + 1) / wt m (p + 1) = c := by rw [hc, Nat.mul_div_cancel_left _ (by omega)]
  have hmp := hm p hp
  have hlt : dg m p n < m p - 1 := by
    have := dg_lt hm hp n
    omega
  have e1 : dg m p (n + 1) = dg m p n + 1 := by
    have e : dg m p n = (c - 1) % m p := by rw [dg, hn]
    rw [e] at hlt
    rw [e, dg, hn1]
    have e2 : c = (c - 1) + 1 := by omega
    conv => lhs; rw [e2, Nat.add_mod]
    by_cases h1 : m p = 1
    · omega
    · rw [Nat.mod_eq_of_lt (show 1 < m p by omega), Nat.mod_eq_of_lt (by omega)]
  refine ⟨e1, fun q hq => ?_⟩
  have hnd : ¬ wt m (q + 1) ∣ n + 1 := by
    intro hdv
    have h2 : wt m p ∣ n + 1 := Nat.dvd_trans (wt_dvd' m (by omega) (by omega)) hdv
    have h3 : dg m p (n + 1) = 0 := by
      obtain ⟨d, hd3⟩ := h2
      unfold dg
      rw [hd3, wt_s m hp, Nat.mul_comm (m p), Nat.mul_assoc, Nat.mul_div_cancel_left _ (by omega), Nat.mul_mod_right]
    omega
  unfold dg
  rw [Nat.succ_div, if_neg hnd, Nat.add_zero]
theorem dg_all {m : Nat → Nat} (hm : ∀ p, p < 32 → 1 ≤ m p) (k : Nat → Nat) (hk : ∀ p, p < 32 → k p < m p) : ∀ t p, p + t = 32 → ∃ n, n < wt m p ∧ ∀ q, p ≤ q → q < 32 → dg m q n = k q
  | 0, p, h => ⟨0, by rw [show p = 32 by omega]; exact Nat.one_pos, fun q h1 h2 => absurd h2 (by omega)⟩
  | t + 1, p, h => by
    obtain ⟨n, h1, h2⟩ := dg_all hm k hk t (p + 1) (by omega)
    have hw := wt_pos' hm (p := p + 1) (by omega)
    have hkp := hk p (by omega)
    refine ⟨wt m (p + 1) * k p + n, ?_, fun q h3 h4 => ?_⟩
    · rw [wt_s m (p := p) (by omega)]
      calc wt m (p + 1) * k p + n < wt m (p + 1) * k p + wt m (p + 1) := by omega
        _ = wt m (p + 1) * (k p + 1) := by rw [Nat.mul_add, Nat.mul_one]
        _ ≤ wt m (p + 1) * m p := Nat.mul_le_mul_left _ (by omega)
        _ = m p * wt m (p + 1) := Nat.mul_comm _ _
    · rcases Nat.lt_or_ge p q with z | z
      · rw [← h2 q (by omega) h4]
        obtain ⟨a, ha⟩ := wt_dvd' m (p := p + 1) (q := q) (by omega) (by omega)
        unfold dg
        have hwq := wt_pos' hm (p := q + 1) (by omega)
        rw [ha, wt_s m h4, show m q * wt m (q + 1) * a * k p + n = wt m (q + 1) * (m q * (a * k p)) + n by
          rw [Nat.mul_comm (m q), Nat.mul_assoc, Nat.mul_assoc], Nat.mul_add_div (by omega), Nat.mul_add_mod]
      · obtain rfl : q = p := by omega
        unfold dg
        rw [Nat.mul_add_div (by omega), Nat.div_eq_of_lt h1, Nat.add_zero, Nat.mod_eq_of_lt hkp]
theorem dg_inj {m : Nat → Nat} {n n' : Nat} : ∀ t p, p + t = 32 → (∀ q, p ≤ q → q < 32 → dg m q n = dg m q n') → n % wt m p = n' % wt m p
  | 0, p, h, _ => by rw [show p = 32 by omega, wt_32, Nat.mod_one, Nat.mod_one]
  | t + 1, p, h, he => by
    have h1 := dg_inj t (p + 1) (by omega) (fun q h1 h2 => he q (by omega) h2)
    have h2 := he p (Nat.le_refl _) (by omega)
    unfold dg at h2
    rw [wt_s m (by omega), Nat.mul_comm (m p), Nat.mod_mul, Nat.mod_mul, h1, h2]
def prd (m : Nat → Nat) : Nat → Nat
  | 0 => 1
  | i + 1 => prd m i * m i
theorem prd_wt (m : Nat → Nat) : ∀ i, i ≤ 32 → prd m i * wt m i = wt m 0
  | 0, _ => by rw [prd, Nat.one_mul]
  | i + 1, h => by
    rw [← prd_wt m i (by omega), prd, wt_s m (p := i) (by omega), Nat.mul_assoc]
/-- the product as keepAll takes it -/
def prA (m : Nat → Nat) : Nat → Nat
  | 0 => 1
  | i + 1 => if 4096 < prA m i then prA m i else prA m i * m i
theorem prA_le {m : Nat → Nat} (hm : ∀ p, p < 32 → 1 ≤ m p ∧ m p ≤ 61) : ∀ i, i ≤ 32 → prA m i ≤ 249856
  | 0, _ => by show 1 ≤ 249856; decide
  | i + 1, h => by
    have h1 := prA_le hm i (by omega)
    rw [prA]
    split
    · exact h1
    · have h2 := (hm i (by omega)).2
      calc prA m i * m i ≤ 4096 * 61 := Nat.mul_le_mul (by omega) h2
        _ = 249856 := by decide
theorem prA_big {m : Nat → Nat} (hm : ∀ p, p < 32 → 1 ≤ m p ∧ m p ≤ 61) : ∀ i, i ≤ 32 → prA m i ≤ prd m i ∧ (prA m i ≤ 4096 → prA m i = prd m i)
  | 0, _ => ⟨Nat.le_refl _, fun _ => rfl⟩
  | i + 1, h => by
    obtain ⟨h1, h2⟩ := prA_big hm i (by omega)
    have h3 := (hm i (by omega)).1
    rw [prA, prd]
    split
    · refine ⟨?_, fun z => absurd z (by omega)⟩
      calc prA m i ≤ prd m i := h1
        _ = prd m i * 1 := (Nat.mul_one _).symm
        _ ≤ prd m i * m i := Nat.mul_le_mul_left _ h3
    · rw [h2 (by omega)]
      exact ⟨Nat.le_refl _, fun _ => rfl⟩
/-- a state out of the rows of choices, by digits -/
def cmb (C : Nat → Int32) (m : Nat → Nat) (n : Nat) : Nat → Int32 := fun p => C (61 * p + dg m p n)
def Prod32 (C : Nat → Int32) (m : Nat → Nat) (f : Nat → Int32) : Prop := ∀ p, p < 32 → ChM C p (m p) (f p)
theorem ChS_inj {C : Nat → Int32} {p m a b : Nat} (h : ChS C p m) (ha : a < m) (hb : b < m) (e : C (61 * p + a) = C (61 * p + b)) : a = b := by
  rcases Nat.lt_trichotomy a b with q | q | q
  · have := h a b q hb
    rw [e] at this
    exact absurd this Int32.lt_irrefl
  · exact q
  · have := h b a q ha
    rw [e] at this
    exact absurd this Int32.lt_irrefl
theorem cmb_in {C : Nat → Int32} {m : Nat → Nat} (hm : ∀ p, p < 32 → 1 ≤ m p) (n : Nat) : Prod32 C m (cmb C m n) := fun p hp => ⟨dg m p n, dg_lt hm hp n, rfl⟩
theorem cmb_all {C : Nat → Int32} {m : Nat → Nat} (hm : ∀ p, p < 32 → 1 ≤ m p) {f : Nat → Int32} (h : Prod32 C m f) : ∃ n, n < wt m 0 ∧ eq32 f (cmb C m n) := by
  have key : ∀ p, ∃ k, p < 32 → k < m p ∧ C (61 * p + k) = f p := fun p => by
    by_cases hp : p < 32
    · obtain ⟨k, h1, h2⟩ := h p hp
      exact ⟨k, fun _ => ⟨h1, h2⟩⟩
    · exact ⟨0, fun z => absurd z hp⟩
  obtain ⟨n, h1, h2⟩ := dg_all hm (fun p => Classical.choose (key p)) (fun p hp => (Classical.choose_spec (key p) hp).1) 32 0 rfl
  exact ⟨n, h1, fun p hp => by
    rw [cmb, h2 p (Nat.zero_le _) hp]
    exact (Classical.choose_spec (key p) hp).2.symm⟩
theorem cmb_inj {C : Nat → Int32} {m : Nat → Nat} (hm : ∀ p, p < 32 → 1 ≤ m p) (hs : ∀ p, p < 32 → ChS C p (m p)) {n n' : Nat} (hn : n < wt m 0) (hn' : n' < wt m 0) (e : eq32 (cmb C m n) (cmb C m n')) : n = n' := by
  have := dg_inj (m := m) (n := n) (n' := n') 32 0 rfl (fun q _ hq => ChS_inj (hs q hq) (dg_lt hm hq n) (dg_lt hm hq n') (e q hq))
  rwa [Nat.mod_eq_of_lt hn, Nat.mod_eq_of_lt hn'] at this
theorem Mny.prod {St : (Nat → Int32) → Prop} {C : Nat → Int32} {m : Nat → Nat} (hm : ∀ p, p < 32 → 1 ≤ m p ∧ m p ≤ 61) (hs : ∀ p, p < 32 → ChS C p (m p)) (hbig : 4096 < prA m 32) (hin : ∀ f, Prod32 C m f → St f) : Mny St := by
  have hw : 4097 ≤ wt m 0 := by
    have h1 := (prA_big hm 32 (Nat.le_refl _)).1
    have h2 := prd_wt m 32 (Nat.le_refl _)
    rw [wt_32, Nat.mul_one] at h2
    omega
  exact ⟨cmb C m, fun i _ => hin _ (cmb_in (fun p hp => (hm p hp).1) i), fun i j hij hj e => by
    have := cmb_inj (fun p hp => (hm p hp).1) hs (show i < wt m 0 by omega) (show j < wt m 0 by omega) e
    omega⟩
