/-! pure discs: a plate and a list of entries -/
abbrev Qd : Type := (Nat → Int32) × List En
def qS (L : List En) (k : Nat) : Int32 := match L[k]? with
  | some x => x.1
  | none => 0
def qO (L : List En) (k : Nat) : Int32 := match L[k]? with
  | some x => x.2.1
  | none => 0
def qT (L : List En) (k : Nat) : Int32 := match L[k]? with
  | some x => x.2.2
  | none => 0
theorem qS_at {L : List En} {k : Nat} {x : En} (h : L[k]? = some x) : qS L k = x.1 := by simp [qS, h]
theorem qO_at {L : List En} {k : Nat} {x : En} (h : L[k]? = some x) : qO L k = x.2.1 := by simp [qO, h]
theorem qT_at {L : List En} {k : Nat} {x : En} (h : L[k]? = some x) : qT L k = x.2.2 := by simp [qT, h]
def rdQ (q : Qd) (s p : Nat) : Int32 := rdA q.1 (qS q.2) (qO q.2) (qT q.2) 0 s p q.2.length
def verQ (q : Qd) : Int32 := verA q.1 (qS q.2) (qO q.2) (qT q.2) 0 q.2.length
def keyQ (q : Qd) (st k : Nat) : Int64 := keyA q.1 (qS q.2) (qO q.2) (qT q.2) 0 st k q.2.length
def chgQ (q : Qd) (st : Nat) (sp : Nat → Int32) (k : Nat) (v : Int64) (lw : Option Nat) : List En := chg st sp (verQ q) (fun x => keyQ q 2 x) k v lw
def stQ (q : Qd) : (Nat → Int32) → Prop := inSt q.1 (qS q.2) (qO q.2) (qT q.2) q.2.length
def flQ (q : Qd) : Nat → Int32 := flP (qS q.2) (qO q.2) (qT q.2) 0 q.1 q.2.length
def risQ (F : Nat → Int32) (st : Nat) (sp : Nat → Int32) : List En := risL st sp (F 6) (F 7) (F 8) (F 9) (F 10) (F 11) (F 12) (F 13)
def camQ (F : Nat → Int32) (st : Nat) (sp : Nat → Int32) (k : Nat) : Int64 := keyQ (flQ (F, risQ F st sp), []) st k
/-- the reference's disc d is q -/
def MD (g : GH) (d : Nat) (q : Qd) : Prop := gA g 81 d = nI q.2.length ∧ q.2.length ≤ 60 ∧ (∀ p, p < 32 → gA g 77 (32 * d + p) = q.1 p) ∧ (∀ k, k < q.2.length → gA g 78 (60 * d + k) = qS q.2 k ∧ gA g 79 (60 * d + k) = qO q.2 k ∧ gA g 80 (60 * d + k) = qT q.2 k) ∧ (∀ k, k < q.2.length → qS q.2 k = -1 ∨ ∃ s, s < 16 ∧ qS q.2 k = nI s)
/-! what depends on what -/
theorem rdA_congr {P S O T P' S' O' T' : Nat → Int32} {d d' s p : Nat} (hP : P (32 * d + 2 * s + p) = P' (32 * d' + 2 * s + p)) : ∀ n, (∀ k, k < n → S (60 * d + k) = S' (60 * d' + k) ∧ O (60 * d + k) = O' (60 * d' + k) ∧ T (60 * d + k) = T' (60 * d' + k)) → rdA P S O T d s p n = rdA P' S' O' T' d' s p n
  | 0, _ => hP
  | n + 1, h => by
    obtain ⟨h1, h2, h3⟩ := h n (by omega)
    rw [rdA, rdA, h1, h2, h3, rdA_congr hP n (fun k hk => h k (by omega))]
theorem weS_congr {S S' : Nat → Int32} : ∀ n, (∀ k, k < n → S k = S' k) → weS S n = weS S' n
  | 0, _ => rfl
  | n + 1, h => by rw [weS, weS, h n (by omega)]
theorem weN_congr {S S' : Nat → Int32} : ∀ n, (∀ k, k < n → S k = S' k) → weN S n = weN S' n
  | 0, _ => rfl
  | n + 1, h => by rw [weN, weN, weN_congr n (fun k hk => h k (by omega)), weS_congr n (fun k hk => h k (by omega)), h n (by omega)]
theorem wct_congr {S S' : Nat → Int32} : ∀ n, (∀ k, k < n → S k = S' k) → wct S n = wct S' n
  | 0, _ => rfl
  | n + 1, h => by rw [wct, wct, wct_congr n (fun k hk => h k (by omega)), h n (by omega)]
theorem bsR_congr {P S O T P' S' O' T' : Nat → Int32} {e p : Nat} (hP : P p = P' p) : ∀ n, (∀ k, k < n → S k = S' k ∧ O k = O' k ∧ T k = T' k) → bsR P S O T e p n = bsR P' S' O' T' e p n
  | 0, _ => hP
  | n + 1, h => by
    obtain ⟨h1, h2, h3⟩ := h n (by omega)
    rw [bsR, bsR, h1, weN_congr n (fun k hk => (h k (by omega)).1), bsR_congr hP n (fun k hk => h k (by omega)), vlA, vlA, h2, h3]
theorem inSt_congr {P S O T P' S' O' T' : Nat → Int32} {n : Nat} (hP : ∀ p, p < 32 → P p = P' p) (h : ∀ k, k < n → S k = S' k ∧ O k = O' k ∧ T k = T' k) (f : Nat → Int32) : inSt P S O T n f ↔ inSt P' S' O' T' n f := by
  have key : ∀ {P S O T P' S' O' T' : Nat → Int32}, (∀ p, p < 32 → P p = P' p) → (∀ k, k < n → S k = S' k ∧ O k = O' k ∧ T k = T' k) → inSt P S O T n f → inSt P' S' O' T' n f := by
    intro P S O T P' S' O' T' hP h
    rintro ⟨e, he, h2⟩
    have e1 : epc S n = epc S' n := by
      unfold epc
      rw [weN_congr n (fun k hk => (h k hk).1), weS_congr n (fun k hk => (h k hk).1)]
    refine ⟨e, by rw [← e1]; exact he, fun p hp => ?_⟩
    rcases h2 p hp with z | ⟨k, hk, z1, z2, z3⟩
    · exact Or.inl (by rw [z]; exact bsR_congr (hP p hp) n h)
    · obtain ⟨h3, h4, h5⟩ := h k hk
      exact Or.inr ⟨k, hk, by rw [← h3]; exact z1, by rw [← z2]; exact (weN_congr k (fun j hj => (h j (by omega)).1)).symm, by rw [z3, vlA, vlA, h4, h5]⟩
  exact ⟨key hP h, key (fun p hp => (hP p hp).symm) (fun k hk => ⟨(h k hk).1.symm, (h k hk).2.1.symm, (h k hk).2.2.symm⟩)⟩
theorem MD.rd {g : GH} {d : Nat} {q : Qd} (h : MD g d q) {s p : Nat} (hs : s < 16) (hp : p < 2) : (rdA (gA g 77) (gA g 78) (gA g 79) (gA g 80) d s p (q.2.length)) = rdQ q s p := by
  refine rdA_congr ?_ _ (fun k hk => ?_)
  · rw [show 32 * d + 2 * s + p = 32 * d + (2 * s + p) by omega, show 32 * 0 + 2 * s + p = 2 * s + p by omega]
    exact h.2.2.1 _ (by omega)
  · rw [show 60 * 0 + k = k by omega]
    exact h.2.2.2.1 k hk
theorem MD.ver {g : GH} {d : Nat} {q : Qd} (h : MD g d q) : (verA (gA g 77) (gA g 78) (gA g 79) (gA g 80) d (q.2.length)) = verQ q := by
  unfold verQ verA
  have a := h.rd (s := 3) (p := 0) (by decide) (by decide)
  have b := h.rd (s := 3) (p := 1) (by decide) (by decide)
  have c := h.rd (s := 7) (p := 0) (by decide) (by decide)
  have e := h.rd (s := 7) (p := 1) (by decide) (by decide)
  rw [a, b, c, e]
  rfl
theorem plc_lt {k : Nat} (hk : k < 3) (v : Int32) : plc k v < 16 := by unfold plc; split <;> omega
theorem MD.key {g : GH} {d : Nat} {q : Qd} (h : MD g d q) (st : Nat) {k : Nat} (hk : k < 3) : (keyA (gA g 77) (gA g 78) (gA g 79) (gA g 80) d st k (q.2.length)) = keyQ q st k := by
  unfold keyQ keyA
  rw [h.ver, show verA q.1 (qS q.2) (qO q.2) (qT q.2) 0 q.2.length = verQ q from rfl]
  generalize (if st = 2 then verQ q else nI 1) = v
  unfold keyV
  have a := h.rd (s := plc k v) (p := 0) (plc_lt hk v) (by decide)
  have b := h.rd (s := plc k v) (p := 1) (plc_lt hk v) (by decide)
  rw [a, b]
  rfl
theorem shE_congr {n : Int32} {key key' : Nat → Int64} {k : Nat} {v : Int64} {lw : Option Nat} {x : Nat} (h : key x = key' x) : shE n key k v lw x = shE n key' k v lw x := by
  unfold shE nowK
  rw [h]
theorem chg_congr {st : Nat} {sp : Nat → Int32} {ver : Int32} {key key' : Nat → Int64} {k : Nat} {v : Int64} {lw : Option Nat} (h : ∀ x, x < 3 → key x = key' x) : chg st sp ver key k v lw = chg st sp ver key' k v lw := by
  unfold chg
  split
  · rfl
  · rfl
  · unfold ch2
    rw [shE_congr (h 0 (by decide)), shE_congr (h 1 (by decide)), shE_congr (h 2 (by decide))]
theorem MD.chg {g : GH} {d : Nat} {q : Qd} (h : MD g d q) (st : Nat) (sp : Nat → Int32) (k : Nat) (v : Int64) (lw : Option Nat) : chg st sp (verA (gA g 77) (gA g 78) (gA g 79) (gA g 80) d (q.2.length)) (fun x => (keyA (gA g 77) (gA g 78) (gA g 79) (gA g 80) d 2 x (q.2.length))) k v lw = chgQ q st sp k v lw := by
  rw [h.ver]
  exact chg_congr (fun x hx => h.key 2 hx)
theorem MD.st {g : GH} {d : Nat} {q : Qd} (h : MD g d q) (f : Nat → Int32) : inSt (fun x => gA g 77 (32 * d + x)) (fun k => gA g 78 (60 * d + k)) (fun k => gA g 79 (60 * d + k)) (fun k => gA g 80 (60 * d + k)) q.2.length f ↔ stQ q f := inSt_congr h.2.2.1 h.2.2.2.1 f
theorem MD.sec {g : GH} {d : Nat} {q : Qd} (h : MD g d q) : ∀ k, k < q.2.length → gA g 78 (60 * d + k) = -1 ∨ ∃ s, s < 16 ∧ gA g 78 (60 * d + k) = nI s := fun k hk => by
  rw [(h.2.2.2.1 k hk).1]
  exact h.2.2.2.2 k hk
theorem Enu.congr {St St' : (Nat → Int32) → Prop} (h : ∀ f, St f ↔ St' f) {N : Nat} {F : Nat → Nat → Int32} (e : Enu St N F) : Enu St' N F := ⟨e.1, fun f => (h f).symm.trans (e.2 f)⟩
theorem Mny.congr {St St' : (Nat → Int32) → Prop} (h : ∀ f, St f ↔ St' f) (e : Mny St) : Mny St' := by
  obtain ⟨F, h1, h2⟩ := e
  exact ⟨F, fun i hi => (h _).mp (h1 i hi), h2⟩
/-! what a queue's states are, by choice -/
def FitQ (q : Qd) : Prop := ∃ (N : Nat) (F : Nat → Nat → Int32), Enu (stQ q) N F ∧ N ≤ 4096
noncomputable def nSt (q : Qd) : Nat := Classical.epsilon (fun N => ∃ F : Nat → Nat → Int32, Enu (stQ q) N F ∧ N ≤ 4096)
noncomputable def fSt (q : Qd) : Nat → Nat → Int32 := Classical.epsilon (fun F => Enu (stQ q) (nSt q) F)
theorem FitQ.enu {q : Qd} (h : FitQ q) : Enu (stQ q) (nSt q) (fSt q) ∧ nSt q ≤ 4096 := by
  have h1 : ∃ F : Nat → Nat → Int32, Enu (stQ q) (nSt q) F ∧ nSt q ≤ 4096 := Classical.epsilon_spec (p := fun N => ∃ F : Nat → Nat → Int32, Enu (stQ q) N F ∧ N ≤ 4096) h
  obtain ⟨F, h2, h3⟩ := h1
  exact ⟨Classical.epsilon_spec (p := fun F => Enu (stQ q) (nSt q) F) ⟨F, h2⟩, h3⟩
theorem FitQ.is {q : Qd} {N : Nat} {F : Nat → Nat → Int32} (h : Enu (stQ q) N F) (hN : N ≤ 4096) : FitQ q ∧ N = nSt q ∧ ∀ i, i < N → eq32 (F i) (fSt q i) := by
  have hf : FitQ q := ⟨N, F, h, hN⟩
  have h2 := hf.enu.1
  have e := h.num h2
  exact ⟨hf, e, fun i hi => h.one h2 i hi (by omega)⟩
theorem FitQ.no {q : Qd} (h : Mny (stQ q)) : ¬ FitQ q := fun ⟨_, _, h1, h2⟩ => Mny.no h1 h2 h
