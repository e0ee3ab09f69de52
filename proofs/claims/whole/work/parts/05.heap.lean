/-! STORES: numbers alone: fields, arrays of ints (of truth values too), arrays of longs; a shape S says what the cells are -/
abbrev GH : Type := (Nat → Nat → Int32) × (Nat → Nat → Int32) × (Nat → Nat → Int64)
def gF (g : GH) (a k : Nat) : Int32 := g.1 a k
def gA (g : GH) (a : Nat) : Nat → Int32 := g.2.1 a
def gL (g : GH) (a : Nat) : Nat → Int64 := g.2.2 a
def pF (g : GH) (a k : Nat) (x : Int32) : GH := (fun b j => if b = a ∧ j = k then x else g.1 b j, g.2.1, g.2.2)
def pA (g : GH) (a : Nat) (f : Nat → Int32) : GH := (g.1, fun b => if b = a then f else g.2.1 b, g.2.2)
def pL (g : GH) (a : Nat) (f : Nat → Int64) : GH := (g.1, g.2.1, fun b => if b = a then f else g.2.2 b)
theorem gF_pF (g : GH) (a k : Nat) (x : Int32) (b j : Nat) : gF (pF g a k x) b j = if b = a ∧ j = k then x else gF g b j := rfl
theorem gF_pA (g : GH) (a : Nat) (f : Nat → Int32) (b j : Nat) : gF (pA g a f) b j = gF g b j := rfl
theorem gF_pL (g : GH) (a : Nat) (f : Nat → Int64) (b j : Nat) : gF (pL g a f) b j = gF g b j := rfl
theorem gA_pF (g : GH) (a k : Nat) (x : Int32) (b : Nat) : gA (pF g a k x) b = gA g b := rfl
theorem gA_pA (g : GH) (a : Nat) (f : Nat → Int32) (b : Nat) : gA (pA g a f) b = if b = a then f else gA g b := rfl
theorem gA_pL (g : GH) (a : Nat) (f : Nat → Int64) (b : Nat) : gA (pL g a f) b = gA g b := rfl
theorem gL_pF (g : GH) (a k : Nat) (x : Int32) (b : Nat) : gL (pF g a k x) b = gL g b := rfl
theorem gL_pA (g : GH) (a : Nat) (f : Nat → Int32) (b : Nat) : gL (pA g a f) b = gL g b := rfl
theorem gL_pL (g : GH) (a : Nat) (f : Nat → Int64) (b : Nat) : gL (pL g a f) b = if b = a then f else gL g b := rfl
theorem GH_ext {g g' : GH} (h1 : ∀ a k, gF g a k = gF g' a k) (h2 : ∀ a j, gA g a j = gA g' a j) (h3 : ∀ a j, gL g a j = gL g' a j) : g = g' := Prod.ext (funext fun a => funext fun k => h1 a k) (Prod.ext (funext fun a => funext fun k => h2 a k) (funext fun a => funext fun k => h3 a k))
def cf (f : Nat → Int32) : Nat → List Value → List Value
  | _, [] => []
  | i, .int _ :: r => .int (f i) :: cf f (i + 1) r
  | i, v :: r => v :: cf f (i + 1) r
def cg (g : GH) (a : Nat) (c : sE) : sE := match c with
  | .inr x => .inr (x.1, cf (g.1 a) 0 x.2)
  | .inl (t, n, .inl _) => .inl (t, n, .inl (g.2.1 a))
  | .inl (t, n, .inr (.inl _)) => .inl (t, n, .inr (.inl (g.2.2 a)))
  | c => c
def conc (S : sH) (g : GH) : sH := (S.1, fun a => cg g a (S.2 a))
theorem cf_int {f : Nat → Int32} {x : Int32} : ∀ (l : List Value) (i k : Nat), l[k]? = some (.int x) → (cf f i l)[k]? = some (.int (f (i + k)))
  | [], i, k, h => by simp at h
  | v :: r, i, 0, h => by
    simp at h
    subst h
    simp [cf]
  | v :: r, i, k + 1, h => by
    have h2 : r[k]? = some (.int x) := by simpa using h
    have ih := cf_int (f := f) r (i + 1) k h2
    rw [show i + (k + 1) = i + 1 + k by omega]
    cases v <;> simpa [cf] using ih
theorem cf_other {f : Nat → Int32} {v : Value} (hv : ∀ x, v ≠ .int x) : ∀ (l : List Value) (i k : Nat), l[k]? = some v → (cf f i l)[k]? = some v
  | [], i, k, h => by simp at h
  | w :: r, i, 0, h => by
    simp at h
    subst h
    cases w with
    | int x => exact absurd rfl (hv x)
    | _ => simp [cf]
  | w :: r, i, k + 1, h => by
    have h2 : r[k]? = some v := by simpa using h
    have ih := cf_other (f := f) hv r (i + 1) k h2
    cases w <;> simpa [cf] using ih
theorem cf_len {f : Nat → Int32} : ∀ (l : List Value) (i : Nat), (cf f i l).length = l.length
  | [], i => rfl
  | v :: r, i => by
    have ih := cf_len (f := f) r (i + 1)
    cases v <;> simp [cf, ih]
theorem cf_set {f : Nat → Int32} {x y : Int32} : ∀ (l : List Value) (i k : Nat), l[k]? = some (.int y) → (cf f i l).set k (.int x) = cf (fun j => if j = i + k then x else f j) i l
  | [], i, k, h => by simp at h
  | v :: r, i, 0, h => by
    simp at h
    subst h
    have e : ∀ (r : List Value) (j : Nat), i < j → cf f j r = cf (fun j => if j = i then x else f j) j r := by
      intro r
      induction r with
      | nil => intro j _; rfl
      | cons w r ih =>
        intro j hj
        have h1 : ¬ j = i := by omega
        cases w <;> simp [cf, ih (j + 1) (by omega), h1]
    simp [cf]
    exact e r (i + 1) (by omega)
  | v :: r, i, k + 1, h => by
    have h2 : r[k]? = some (.int y) := by simpa using h
    have ih := cf_set (f := f) (x := x) r (i + 1) k h2
    rw [show i + 1 + k = i + (k + 1) by omega] at ih
    have h1 : ¬ i = i + (k + 1) := by omega
    cases v <;> simp [cf, ih, h1]
theorem cf_id {f g : Nat → Int32} (h : ∀ j, f j = g j) (l : List Value) (i : Nat) : cf f i l = cf g i l := by
  rw [show f = g from funext h]
/-! what a shape has at a place -/
def isI (S : sH) (a ci fi : Nat) : Bool := Nat.blt a S.1 && (match S.2 a with
  | .inr x => Nat.beq x.1 ci && (match x.2[fi]? with
    | some (.int _) => true
    | _ => false)
  | _ => false)
def rfAt (S : sH) (a ci fi : Nat) : Option Nat := match Nat.blt a S.1 with
  | true => (match S.2 a with
    | .inr x => (match Nat.beq x.1 ci with
      | true => (match x.2[fi]? with
        | some (.ref q) => some q
        | _ => none)
      | false => none)
    | _ => none)
  | false => none
def aiAt (S : sH) (a t : Nat) : Option Nat := match Nat.blt a S.1 with
  | true => (match S.2 a with
    | .inl (t', n', .inl _) => (match Nat.beq t' t && Nat.blt n' 2147483648 with
      | true => some n'
      | false => none)
    | _ => none)
  | false => none
def alAt (S : sH) (a : Nat) : Option Nat := match Nat.blt a S.1 with
  | true => (match S.2 a with
    | .inl (t', n', .inr (.inl _)) => (match Nat.beq t' 1 && Nat.blt n' 2147483648 with
      | true => some n'
      | false => none)
    | _ => none)
  | false => none
def arAt (S : sH) (a t j : Nat) : Option Nat := match Nat.blt a S.1 with
  | true => (match S.2 a with
    | .inl (t', n', .inr (.inr (.inr (.inr f)))) => (match Nat.beq t' t && (Nat.blt n' 2147483648 && Nat.blt j n') with
      | true => f j
      | false => none)
    | _ => none)
  | false => none
theorem blt_lt {a b : Nat} (h : Nat.blt a b = true) : a < b := Nat.le_of_ble_eq_true h
theorem isI_ok {S : sH} {g : GH} {a ci fi : Nat} (h : isI S a ci fi = true) : a < S.1 ∧ ∃ (sf : List Value) (y : Int32), S.2 a = .inr (ci, sf) ∧ sf[fi]? = some (.int y) ∧ (conc S g).2 a = .inr (ci, cf (g.1 a) 0 sf) ∧ (cf (g.1 a) 0 sf)[fi]? = some (.int (gF g a fi)) := by
  simp only [isI, Bool.and_eq_true] at h
  obtain ⟨h1, h2⟩ := h
  refine ⟨blt_lt h1, ?_⟩
  split at h2
  · rename_i x hx
    obtain ⟨h3, h4⟩ := Bool.and_eq_true _ _ ▸ h2
    have h3 := Nat.eq_of_beq_eq_true h3
    split at h4
    · rename_i y hy
      obtain ⟨c, sf⟩ := x
      simp only at h3 hy
      subst h3
      refine ⟨sf, y, hx, hy, ?_, ?_⟩
      · show cg g a (S.2 a) = _
        rw [hx]
        rfl
      · have := cf_int (f := g.1 a) sf 0 fi hy
        rwa [Nat.zero_add] at this
    · cases h4
  · cases h2
theorem isR_ok {S : sH} {g : GH} {a ci fi r : Nat} (h : rfAt S a ci fi = some r) : a < S.1 ∧ ∃ (sf : List Value), S.2 a = .inr (ci, sf) ∧ sf[fi]? = some (.ref r) ∧ (conc S g).2 a = .inr (ci, cf (g.1 a) 0 sf) ∧ (cf (g.1 a) 0 sf)[fi]? = some (.ref r) := by
  unfold rfAt at h
  split at h
  · rename_i h1
    refine ⟨blt_lt h1, ?_⟩
    split at h
    · rename_i x hx
      split at h
      · rename_i h3
        have h3 := Nat.eq_of_beq_eq_true h3
        split at h
        · rename_i y hy
          obtain ⟨c, sf⟩ := x
          cases h
          simp only at h3 hy
          subst h3
          refine ⟨sf, hx, hy, ?_, ?_⟩
          · show cg g a (S.2 a) = _
            rw [hx]
            rfl
          · exact cf_other (fun x q => by cases q) sf 0 fi hy
        · cases h
      · cases h
    · cases h
  · cases h
theorem arI_ok {S : sH} {g : GH} {a t n : Nat} (h : aiAt S a t = some n) : a < S.1 ∧ n < 2147483648 ∧ (∃ z, S.2 a = .inl (t, n, .inl z)) ∧ (conc S g).2 a = .inl (t, n, .inl (gA g a)) := by
  unfold aiAt at h
  split at h
  · rename_i h1
    refine ⟨blt_lt h1, ?_⟩
    split at h
    · rename_i t' n' z hx
      split at h
      · rename_i h2
        obtain ⟨h3, h4⟩ := Bool.and_eq_true _ _ ▸ h2
        have h3 := Nat.eq_of_beq_eq_true h3
        subst h3
        cases h
        refine ⟨blt_lt h4, ⟨z, hx⟩, ?_⟩
        show cg g a (S.2 a) = _
        rw [hx]
        rfl
      · cases h
    · cases h
  · cases h
theorem arL_ok {S : sH} {g : GH} {a n : Nat} (h : alAt S a = some n) : a < S.1 ∧ n < 2147483648 ∧ (∃ z, S.2 a = .inl (1, n, .inr (.inl z))) ∧ (conc S g).2 a = .inl (1, n, .inr (.inl (gL g a))) := by
  unfold alAt at h
  split at h
  · rename_i h1
    refine ⟨blt_lt h1, ?_⟩
    split at h
    · rename_i t' n' z hx
      split at h
      · rename_i h2
        obtain ⟨h3, h4⟩ := Bool.and_eq_true _ _ ▸ h2
        have h3 := Nat.eq_of_beq_eq_true h3
        subst h3
        cases h
        refine ⟨blt_lt h4, ⟨z, hx⟩, ?_⟩
        show cg g a (S.2 a) = _
        rw [hx]
        rfl
      · cases h
    · cases h
  · cases h
theorem arR_ok {S : sH} {g : GH} {a t j r : Nat} (h : arAt S a t j = some r) : a < S.1 ∧ ∃ n, n < 2147483648 ∧ j < n ∧ ∃ f : Nat → Option Nat, (conc S g).2 a = .inl (t, n, .inr (.inr (.inr (.inr f)))) ∧ f j = some r := by
  unfold arAt at h
  split at h
  · rename_i h1
    refine ⟨blt_lt h1, ?_⟩
    split at h
    · rename_i t' n' f hx
      split at h
      · rename_i h2
        simp only [Bool.and_eq_true] at h2
        obtain ⟨h3, h4, h5⟩ := h2
        have h3 := Nat.eq_of_beq_eq_true h3
        subst h3
        refine ⟨n', blt_lt h4, blt_lt h5, f, ?_, h⟩
        show cg g a (S.2 a) = _
        rw [hx]
        rfl
      · cases h
    · cases h
  · cases h
theorem conc_pF {S : sH} {g : GH} {a ci fi : Nat} {sf : List Value} {y : Int32} (x : Int32) (h1 : S.2 a = .inr (ci, sf)) (h2 : sf[fi]? = some (.int y)) : ((conc S g).1, va_up (conc S g).2 a (.inr (ci, (cf (g.1 a) 0 sf).set fi (.int x)))) = conc S (pF g a fi x) := by
  refine Prod.ext rfl (funext fun b => ?_)
  show va_up (conc S g).2 a _ b = cg (pF g a fi x) b (S.2 b)
  by_cases e : b = a
  · subst e
    rw [h1]
    simp only [va_up, if_pos, cg]
    rw [cf_set (f := g.1 b) (x := x) sf 0 fi h2]
    simp only [Nat.zero_add]
    congr 2
    refine cf_id (fun j => ?_) sf 0
    simp [pF]
  · simp only [va_up, if_neg e]
    show cg g b (S.2 b) = _
    have e2 : (pF g a fi x).1 b = g.1 b := funext fun j => by simp [pF, e]
    unfold cg
    rw [e2]
    rfl
theorem conc_pA {S : sH} {g : GH} {a t n : Nat} {z : Nat → Int32} (f : Nat → Int32) (h1 : S.2 a = .inl (t, n, .inl z)) : ((conc S g).1, va_up (conc S g).2 a (.inl (t, n, .inl f))) = conc S (pA g a f) := by
  refine Prod.ext rfl (funext fun b => ?_)
  show va_up (conc S g).2 a _ b = cg (pA g a f) b (S.2 b)
  by_cases e : b = a
  · subst e
    rw [h1]
    simp [va_up, cg, pA]
  · simp only [va_up, if_neg e]
    show cg g b (S.2 b) = _
    have e2 : (pA g a f).2.1 b = g.2.1 b := by simp [pA, e]
    unfold cg
    rw [e2]
    rfl
theorem conc_pL {S : sH} {g : GH} {a n : Nat} {z : Nat → Int64} (f : Nat → Int64) (h1 : S.2 a = .inl (1, n, .inr (.inl z))) : ((conc S g).1, va_up (conc S g).2 a (.inl (1, n, .inr (.inl f)))) = conc S (pL g a f) := by
  refine Prod.ext rfl (funext fun b => ?_)
  show va_up (conc S g).2 a _ b = cg (pL g a f) b (S.2 b)
  by_cases e : b = a
  · subst e
    rw [h1]
    simp [va_up, cg, pL]
  · simp only [va_up, if_neg e]
    show cg g b (S.2 b) = _
    have e2 : (pL g a f).2.2 b = g.2.2 b := by simp [pL, e]
    unfold cg
    rw [e2]
    rfl
/-! links of fields -/
def Cls (ci : Nat) (C : String) (T : u_T) (N : Nat) (ty : Nat → FieldType) : Prop := vwCl[ci]? = some (C, T, N) ∧ (∀ w ∈ u_ws C T N, w ∈ gW) ∧ (∀ k, k < N → parseFieldDescriptor (T k).2.2.1 = some (ty k)) ∧ ∀ a, a < N → ∀ b, b < N → a ≠ b → (T a).2.1 ≠ (T b).2.1
def Flk (own : String) (idx ci fi : Nat) (fin : Bool) (ty : FieldType) : Prop := ∃ (C : String) (T : u_T) (N : Nat) (ty0 : Nat → FieldType), Cls ci C T N ty0 ∧ fi < N ∧ Cond.fieldLink own idx (T fi).1 (T fi).2.1 (T fi).2.2.1 ∈ gW ∧ (T fi).2.2.2 = fin ∧ ty0 fi = ty
def FlkF (own : String) (idx ci fi : Nat) (ty : FieldType) : Prop := ∃ (C : String) (T : u_T) (N : Nat) (ty0 : Nat → FieldType), Cls ci C T N ty0 ∧ fi < N ∧ Cond.fieldLink own idx (T fi).1 (T fi).2.1 (T fi).2.2.1 ∈ gW ∧ (T fi).2.2.2 = true ∧ ty0 fi = ty ∧ (T fi).1 = own
section A5
variable {M : Mi} {X : Cx} {Q : State → Prop} {ad : Nat → Nat} {k n : Nat} {h : sH} {S : sH} {g : GH} {pc : Nat} {ls : List (Option Value)} {st : List Value}
theorem h_getf {a idx ci fi : Nat} {fin : Bool} {ty : FieldType} {fs : List Value} {v : Value} (d : decode (mcc M) pc = .ok (.getfield idx, 3)) (F : Flk (mown M) idx ci fi fin ty) (ha : a < h.1) (hc : h.2 a = .inr (ci, fs)) (hv : fs[fi]? = some v) (kk : AW M X Q ad k n h (pc + 3) ls (v :: st)) : AW M X Q ad k n h pc ls (.ref a :: st) := by
  obtain ⟨C0, T, N, ty0, K, hk, hl, -, -⟩ := F
  exact fun C H locs lc r => va_get (D := xD X) (ci := ci) (v := sv ad v) (C := C0) (T := T) (N := N) C.1 C.2.1 C.2.2.2.2.1 K.2.1 C.2.2.2.1 C.2.2.2.2.2.2.2.2.1.1 r.1 a (by rw [sw_at ha, hc]; rfl) K.1 fi hk (C.2.2.2.2.1 _ hl) (fun _ z => z) (sv_at hv) d (kk C H locs lc r)
theorem h_putf {a idx ci fi : Nat} {ty : FieldType} {fs : List Value} {v : Value} (d : decode (mcc M) pc = .ok (.putfield idx, 3)) (F : Flk (mown M) idx ci fi false ty) (ha : a < h.1) (hc : h.2 a = .inr (ci, fs)) (hl : fi < fs.length) (hn : narrow ty (sv ad v) = sv ad v) (hf : fits ty (sv ad v) = true) (kk : AW M X Q ad k n (h.1, va_up h.2 a (.inr (ci, fs.set fi v))) (pc + 3) ls st) : AW M X Q ad k n h pc ls (v :: .ref a :: st) := by
  obtain ⟨C0, T, N, ty0, K, hk, hlk, hfin, hty⟩ := F
  intro C H locs lc r
  refine va_put (D := xD X) (ci := ci) (v := sv ad v) (ty := ty) (C := C0) (T := T) (N := N) C.1 C.2.1 C.2.2.2.2.1 K.2.1 ty0 K.2.2.1 K.2.2.2 C.2.2.2.1 C.2.2.2.2.2.2.2.2.1.1 r.1 r.2.1 r.2.2.1 a (fs := fs.map (sv ad)) (by rw [sw_at ha, hc]; rfl) K.1 fi hk (C.2.2.2.2.1 _ hlk) (fun _ z => z) hfin (by rw [K.2.2.1 fi hk, hty]) hn hf (by simpa using hl) d (fun H1 locs1 hP hD hS => ?_)
  have e : (sw (xdA X) ad h).set a (ad a, .inr (ci, (fs.map (sv ad)).set fi (sv ad v))) = sw (xdA X) ad (h.1, va_up h.2 a (.inr (ci, fs.set fi v))) := by
    rw [← sw_set ha, sv_map_set]
    rfl
  rw [e] at hP hD
  exact kk C H1 locs1 lc ⟨hP, hD, hS, r.2.2.2⟩
theorem h_putF {a idx ci fi : Nat} {ty : FieldType} {fs : List Value} {v : Value} (d : decode (mcc M) pc = .ok (.putfield idx, 3)) (F : FlkF (mown M) idx ci fi ty) (hi : mnm M = "<init>") (ha : a < h.1) (hc : h.2 a = .inr (ci, fs)) (hl : fi < fs.length) (hn : narrow ty (sv ad v) = sv ad v) (hf : fits ty (sv ad v) = true) (kk : AW M X Q ad k n (h.1, va_up h.2 a (.inr (ci, fs.set fi v))) (pc + 3) ls st) : AW M X Q ad k n h pc ls (v :: .ref a :: st) := by
  obtain ⟨C0, T, N, ty0, K, hk, hlk, hfin, hty, hd⟩ := F
  intro C H locs lc r
  refine va_putF (D := xD X) (ci := ci) (v := sv ad v) (ty := ty) (C := C0) (T := T) (N := N) C.1 C.2.1 C.2.2.2.2.1 K.2.1 ty0 K.2.2.1 K.2.2.2 C.2.2.2.1 C.2.2.2.2.2.2.2.2.1.1 r.1 r.2.1 r.2.2.1 a (fs := fs.map (sv ad)) (by rw [sw_at ha, hc]; rfl) K.1 fi hk (C.2.2.2.2.1 _ hlk) (fun _ z => z) hfin (C.2.2.2.2.2.2.1.trans hi) hd (by rw [K.2.2.1 fi hk, hty]) hn hf (by simpa using hl) d (fun H1 locs1 hP hD hS => ?_)
  have e : (sw (xdA X) ad h).set a (ad a, .inr (ci, (fs.map (sv ad)).set fi (sv ad v))) = sw (xdA X) ad (h.1, va_up h.2 a (.inr (ci, fs.set fi v))) := by
    rw [← sw_set ha, sv_map_set]
    rfl
  rw [e] at hP hD
  exact kk C H1 locs1 lc ⟨hP, hD, hS, r.2.2.2⟩
/-! rows over stores -/
theorem a_gi {a idx ci fi : Nat} {fin : Bool} {ty : FieldType} (d : decode (mcc M) pc = .ok (.getfield idx, 3)) (F : Flk (mown M) idx ci fi fin ty) (e : isI S a ci fi = true) (kk : AW M X Q ad k n (conc S g) (pc + 3) ls (.int (gF g a fi) :: st)) : AW M X Q ad k n (conc S g) pc ls (.ref a :: st) := by
  obtain ⟨ha, sf, y, h1, h2, h3, h4⟩ := isI_ok (g := g) e
  exact h_getf d F ha h3 h4 kk
theorem a_gr {a idx ci fi r : Nat} {fin : Bool} {ty : FieldType} (d : decode (mcc M) pc = .ok (.getfield idx, 3)) (F : Flk (mown M) idx ci fi fin ty) (e : rfAt S a ci fi = some r) (kk : AW M X Q ad k n (conc S g) (pc + 3) ls (.ref r :: st)) : AW M X Q ad k n (conc S g) pc ls (.ref a :: st) := by
  obtain ⟨ha, sf, h1, h2, h3, h4⟩ := isR_ok (g := g) e
  exact h_getf d F ha h3 h4 kk
theorem a_pi {a idx ci fi : Nat} {x : Int32} (d : decode (mcc M) pc = .ok (.putfield idx, 3)) (F : Flk (mown M) idx ci fi false .int) (e : isI S a ci fi = true) (kk : AW M X Q ad k n (conc S (pF g a fi x)) (pc + 3) ls st) : AW M X Q ad k n (conc S g) pc ls (.int x :: .ref a :: st) := by
  obtain ⟨ha, sf, y, h1, h2, h3, h4⟩ := isI_ok (g := g) e
  have hl : fi < (cf (g.1 a) 0 sf).length := (List.getElem?_eq_some_iff.mp h4).1
  refine h_putf d F ha h3 hl rfl rfl ?_
  rw [conc_pF x h1 h2]
  exact kk
theorem a_pz {a idx ci fi : Nat} {x : Int32} (d : decode (mcc M) pc = .ok (.putfield idx, 3)) (F : Flk (mown M) idx ci fi false .boolean) (hx : x = 0 ∨ x = 1) (e : isI S a ci fi = true) (kk : AW M X Q ad k n (conc S (pF g a fi x)) (pc + 3) ls st) : AW M X Q ad k n (conc S g) pc ls (.int x :: .ref a :: st) := by
  obtain ⟨ha, sf, y, h1, h2, h3, h4⟩ := isI_ok (g := g) e
  have hl : fi < (cf (g.1 a) 0 sf).length := (List.getElem?_eq_some_iff.mp h4).1
  refine h_putf d F ha h3 hl (by rcases hx with rfl | rfl <;> rfl) (by rcases hx with rfl | rfl <;> rfl) ?_
  rw [conc_pF x h1 h2]
  exact kk
theorem conc_pR {S : sH} {g : GH} {a ci fi r : Nat} {sf : List Value} (h1 : S.2 a = .inr (ci, sf)) (h2 : ∀ x, sf[fi]? ≠ some (.int x)) : ((conc S g).1, va_up (conc S g).2 a (.inr (ci, (cf (g.1 a) 0 sf).set fi (.ref r)))) = conc (S.1, va_up S.2 a (.inr (ci, sf.set fi (.ref r)))) g := by
  refine Prod.ext rfl (funext fun b => ?_)
  show va_up (conc S g).2 a _ b = cg g b (va_up S.2 a _ b)
  by_cases e : b = a
  · subst e
    simp only [va_up, if_pos, cg]
    congr 2
    have key : ∀ (l : List Value) (i k : Nat), (∀ x, l[k]? ≠ some (.int x)) → (cf (g.1 b) i l).set k (.ref r) = cf (g.1 b) i (l.set k (.ref r)) := by
      intro l
      induction l with
      | nil => intro i k _; rfl
      | cons v l ih =>
        intro i k hk
        cases k with
        | zero =>
          cases v with
          | int x => exact absurd rfl (hk x)
          | _ => simp [cf]
        | succ k =>
          have h3 := ih (i + 1) k (fun x => by simpa using hk x)
          cases v <;> simp [cf, h3]
    exact key sf 0 fi h2
  · simp only [va_up, if_neg e]
    rfl
theorem h_ial {a m : Nat} {f : Nat → Int32} {i : Int32} (d : decode (mcc M) pc = .ok (.iaload, 1)) (ha : a < h.1) (hc : h.2 a = .inl (0, m, .inl f)) (hin : vp_in i m) (kk : AW M X Q ad k n h (pc + 1) ls (.int (f i.toNatClampNeg) :: st)) : AW M X Q ad k n h pc ls (.int i :: .ref a :: st) :=
  fun C H locs lc r => va_iald C.1 C.2.1 C.2.2.2.2.2.2.2.2.1.1 r.1 a 0 (by rw [sw_at ha, hc]; rfl) rfl hin d (kk C H locs lc r)
theorem h_zal {a m : Nat} {f : Nat → Int32} {i : Int32} (d : decode (mcc M) pc = .ok (.baload, 1)) (ha : a < h.1) (hc : h.2 a = .inl (2, m, .inl f)) (hin : vp_in i m) (kk : AW M X Q ad k n h (pc + 1) ls (.int (f i.toNatClampNeg) :: st)) : AW M X Q ad k n h pc ls (.int i :: .ref a :: st) :=
  fun C H locs lc r => va_zald C.1 C.2.1 C.2.2.2.2.2.2.2.2.1.1 r.1 a 2 (by rw [sw_at ha, hc]; rfl) rfl hin d (kk C H locs lc r)
theorem h_lal {a m : Nat} {f : Nat → Int64} {i : Int32} (d : decode (mcc M) pc = .ok (.laload, 1)) (ha : a < h.1) (hc : h.2 a = .inl (1, m, .inr (.inl f))) (hin : vp_in i m) (kk : AW M X Q ad k n h (pc + 1) ls (.long (f i.toNatClampNeg) :: st)) : AW M X Q ad k n h pc ls (.int i :: .ref a :: st) :=
  fun C H locs lc r => va_lald C.1 C.2.1 C.2.2.2.2.2.2.2.2.1.1 r.1 a 1 (by rw [sw_at ha, hc]; rfl) rfl hin d (kk C H locs lc r)
theorem h_ast {a m : Nat} {f : Nat → Int32} {i x : Int32} (d : decode (mcc M) pc = .ok (.iastore, 1)) (ha : a < h.1) (hc : h.2 a = .inl (0, m, .inl f)) (hin : vp_in i m) (kk : AW M X Q ad k n (h.1, va_up h.2 a (.inl (0, m, .inl (upd f i.toNatClampNeg x)))) (pc + 1) ls st) : AW M X Q ad k n h pc ls (.int x :: .int i :: .ref a :: st) := by
  intro C H locs lc r
  refine va_iast C.1 C.2.1 C.2.2.2.2.2.2.2.2.1.1 r.1 r.2.1 r.2.2.1 a 0 (cA := xdA X 0) (n := m) (f := f) (by rw [sw_at ha, hc]; rfl) rfl hin d (fun H1 locs1 hP hD hS => ?_)
  have e := sw_set (dA := xdA X) (ad := ad) (h := h) (a := a) (c := .inl (0, m, .inl (upd f i.toNatClampNeg x))) ha
  exact kk C H1 locs1 lc ⟨e ▸ hP, e ▸ hD, hS, r.2.2.2⟩
theorem h_zst {a m : Nat} {f : Nat → Int32} {i x : Int32} (d : decode (mcc M) pc = .ok (.bastore, 1)) (ha : a < h.1) (hc : h.2 a = .inl (2, m, .inl f)) (hin : vp_in i m) (hx : x = 0 ∨ x = 1) (kk : AW M X Q ad k n (h.1, va_up h.2 a (.inl (2, m, .inl (upd f i.toNatClampNeg x)))) (pc + 1) ls st) : AW M X Q ad k n h pc ls (.int x :: .int i :: .ref a :: st) := by
  intro C H locs lc r
  refine va_zast C.1 C.2.1 C.2.2.2.2.2.2.2.2.1.1 r.1 r.2.1 r.2.2.1 a 2 (cA := xdA X 2) (n := m) (f := f) (by rw [sw_at ha, hc]; rfl) rfl hin d (fun H1 locs1 hP hD hS => ?_)
  have ex : vp_nar .boolean x = x := by rcases hx with rfl | rfl <;> rfl
  rw [ex] at hP hD
  have e := sw_set (dA := xdA X) (ad := ad) (h := h) (a := a) (c := .inl (2, m, .inl (upd f i.toNatClampNeg x))) ha
  exact kk C H1 locs1 lc ⟨e ▸ hP, e ▸ hD, hS, r.2.2.2⟩
theorem h_lst {a m : Nat} {f : Nat → Int64} {i : Int32} {x : Int64} (d : decode (mcc M) pc = .ok (.lastore, 1)) (ha : a < h.1) (hc : h.2 a = .inl (1, m, .inr (.inl f))) (hin : vp_in i m) (kk : AW M X Q ad k n (h.1, va_up h.2 a (.inl (1, m, .inr (.inl (vp_updL f i.toNatClampNeg x))))) (pc + 1) ls st) : AW M X Q ad k n h pc ls (.long x :: .int i :: .ref a :: st) := by
  intro C H locs lc r
  refine va_last C.1 C.2.1 C.2.2.2.2.2.2.2.2.1.1 r.1 r.2.1 r.2.2.1 a 1 (cA := xdA X 1) (n := m) (f := f) (by rw [sw_at ha, hc]; rfl) rfl hin d (fun H1 locs1 hP hD hS => ?_)
  have e := sw_set (dA := xdA X) (ad := ad) (h := h) (a := a) (c := .inl (1, m, .inr (.inl (vp_updL f i.toNatClampNeg x)))) ha
  exact kk C H1 locs1 lc ⟨e ▸ hP, e ▸ hD, hS, r.2.2.2⟩
theorem a_ial {a m : Nat} {i : Int32} (j : Nat) (d : decode (mcc M) pc = .ok (.iaload, 1)) (e : aiAt S a 0 = some m) (hi : i = nI j) (hj : j < m) (kk : AW M X Q ad k n (conc S g) (pc + 1) ls (.int (gA g a j) :: st)) : AW M X Q ad k n (conc S g) pc ls (.int i :: .ref a :: st) := by
  obtain ⟨ha, hm, hz, h3⟩ := arI_ok (g := g) e
  subst hi
  refine h_ial d ha h3 (vp_in_nI hj hm) ?_
  rw [nI_clamp (by omega)]
  exact kk
theorem a_zal {a m : Nat} {i : Int32} (j : Nat) (d : decode (mcc M) pc = .ok (.baload, 1)) (e : aiAt S a 2 = some m) (hi : i = nI j) (hj : j < m) (kk : AW M X Q ad k n (conc S g) (pc + 1) ls (.int (gA g a j) :: st)) : AW M X Q ad k n (conc S g) pc ls (.int i :: .ref a :: st) := by
  obtain ⟨ha, hm, hz, h3⟩ := arI_ok (g := g) e
  subst hi
  refine h_zal d ha h3 (vp_in_nI hj hm) ?_
  rw [nI_clamp (by omega)]
  exact kk
theorem a_lal {a m : Nat} {i : Int32} (j : Nat) (d : decode (mcc M) pc = .ok (.laload, 1)) (e : alAt S a = some m) (hi : i = nI j) (hj : j < m) (kk : AW M X Q ad k n (conc S g) (pc + 1) ls (.long (gL g a j) :: st)) : AW M X Q ad k n (conc S g) pc ls (.int i :: .ref a :: st) := by
  obtain ⟨ha, hm, hz, h3⟩ := arL_ok (g := g) e
  subst hi
  refine h_lal d ha h3 (vp_in_nI hj hm) ?_
  rw [nI_clamp (by omega)]
  exact kk
theorem a_ast {a m : Nat} {i x : Int32} (j : Nat) (d : decode (mcc M) pc = .ok (.iastore, 1)) (e : aiAt S a 0 = some m) (hi : i = nI j) (hj : j < m) (kk : AW M X Q ad k n (conc S (pA g a (upd (gA g a) j x))) (pc + 1) ls st) : AW M X Q ad k n (conc S g) pc ls (.int x :: .int i :: .ref a :: st) := by
  obtain ⟨ha, hm, ⟨z, hz⟩, h3⟩ := arI_ok (g := g) e
  subst hi
  refine h_ast d ha h3 (vp_in_nI hj hm) ?_
  rw [nI_clamp (by omega), conc_pA _ hz]
  exact kk
theorem a_zst {a m : Nat} {i x : Int32} (j : Nat) (d : decode (mcc M) pc = .ok (.bastore, 1)) (e : aiAt S a 2 = some m) (hi : i = nI j) (hj : j < m) (hx : x = 0 ∨ x = 1) (kk : AW M X Q ad k n (conc S (pA g a (upd (gA g a) j x))) (pc + 1) ls st) : AW M X Q ad k n (conc S g) pc ls (.int x :: .int i :: .ref a :: st) := by
  obtain ⟨ha, hm, ⟨z, hz⟩, h3⟩ := arI_ok (g := g) e
  subst hi
  refine h_zst d ha h3 (vp_in_nI hj hm) hx ?_
  rw [nI_clamp (by omega), conc_pA _ hz]
  exact kk
theorem a_lst {a m : Nat} {i : Int32} {x : Int64} (j : Nat) (d : decode (mcc M) pc = .ok (.lastore, 1)) (e : alAt S a = some m) (hi : i = nI j) (hj : j < m) (kk : AW M X Q ad k n (conc S (pL g a (vp_updL (gL g a) j x))) (pc + 1) ls st) : AW M X Q ad k n (conc S g) pc ls (.long x :: .int i :: .ref a :: st) := by
  obtain ⟨ha, hm, ⟨z, hz⟩, h3⟩ := arL_ok (g := g) e
  subst hi
  refine h_lst d ha h3 (vp_in_nI hj hm) ?_
  rw [nI_clamp (by omega), conc_pL _ hz]
  exact kk
theorem h_aal {a t m : Nat} {f : Nat → Option Nat} {i : Int32} {r : Nat} (ht : t = 3 ∨ t = 4) (d : decode (mcc M) pc = .ok (.aaload, 1)) (ha : a < h.1) (hc : h.2 a = .inl (t, m, .inr (.inr (.inr (.inr f))))) (hin : vp_in i m) (hr : f i.toNatClampNeg = some r) (kk : AW M X Q ad k n h (pc + 1) ls (.ref r :: st)) : AW M X Q ad k n h pc ls (.int i :: .ref a :: st) := by
  intro C H locs lc w
  have hlt : i.toNatClampNeg < m := Nat.not_le.mp fun q => hin (Or.inr q)
  have hcell : (sw (xdA X) ad h)[a]? = some (ad a, .inl (xdA X t, m, .inr (.inr (.inr (.inr (fun j => (f j).map ad)))))) := by rw [sw_at ha, hc]; rfl
  have hv : (arrV (xdA X t) m (fun j => va_rf ((f j).map ad))).slots[i.toNatClampNeg]? = some (.ref (ad r)) := by rw [arrV_read _ _ hlt, hr]; rfl
  rcases ht with rfl | rfl
  · exact W.aald (v := .ref (ad r)) (ty := .object "OrderedDisc$Kind") C.1 C.2.1 (w.1 a _ hcell) ((C.2.2.2.2.2.2.2.2.1.1.2 3 _ rfl).1 m (fun j => va_rf ((f j).map ad))) rfl (fun q => by cases q) (by show ¬ (i < 0 ∨ (arrV _ _ _).slots.size ≤ _); rw [arrV_size]; exact hin) hv rfl rfl d (kk C H locs lc w)
  · exact W.aald (v := .ref (ad r)) (ty := .array .int) C.1 C.2.1 (w.1 a _ hcell) ((C.2.2.2.2.2.2.2.2.1.1.2 4 _ rfl).1 m (fun j => va_rf ((f j).map ad))) rfl (fun q => by cases q) (by show ¬ (i < 0 ∨ (arrV _ _ _).slots.size ≤ _); rw [arrV_size]; exact hin) hv rfl rfl d (kk C H locs lc w)
theorem a_aal {a r : Nat} {i : Int32} (t j : Nat) (ht : t = 3 ∨ t = 4) (d : decode (mcc M) pc = .ok (.aaload, 1)) (e : arAt S a t j = some r) (hi : i = nI j) (kk : AW M X Q ad k n (conc S g) (pc + 1) ls (.ref r :: st)) : AW M X Q ad k n (conc S g) pc ls (.int i :: .ref a :: st) := by
  obtain ⟨ha, m, hm, hj, f, h3, h4⟩ := arR_ok (g := g) e
  subst hi
  exact h_aal ht d ha h3 (vp_in_nI hj hm) (by rw [nI_clamp (by omega)]; exact h4) kk
theorem h_alen {a t m : Nat} {x : (Nat → Int32) ⊕ (Nat → Int64) ⊕ (Nat → UInt32) ⊕ (Nat → UInt64) ⊕ (Nat → Option Nat)} (ht : t < 5) (d : decode (mcc M) pc = .ok (.arraylength, 1)) (ha : a < h.1) (hc : h.2 a = .inl (t, m, x)) (kk : AW M X Q ad k n h (pc + 1) ls (.int (nI m) :: st)) : AW M X Q ad k n h pc ls (.ref a :: st) := by
  intro C H locs lc w
  have hcell : (sw (xdA X) ad h)[a]? = some (ad a, .inl (xdA X t, sa ad (m, x))) := by rw [sw_at ha, hc]; rfl
  obtain ⟨ty, hty⟩ : ∃ ty, (sT (xdA X))[t]? = some (xdA X t, ty) := by
    match t, ht with
    | 0, _ => exact ⟨_, rfl⟩
    | 1, _ => exact ⟨_, rfl⟩
    | 2, _ => exact ⟨_, rfl⟩
    | 3, _ => exact ⟨_, rfl⟩
    | 4, _ => exact ⟨_, rfl⟩
  refine va_alen C.1 C.2.1 C.2.2.2.2.2.2.2.2.1.1 w.1 a t hcell hty (v := nI m) ?_ d (kk C H locs lc w)
  have : (sa ad (m, x)).1 = m := by
    unfold sa
    split
    · rename_i e
      cases e
      rfl
    · rfl
  rw [this]
  rfl
end A5

