/-! the state of class and reference, and what both keep of it -/
abbrev Sy : Type := Qd × Int32 × List Ac × (Nat → Nat) × (Nat → Int32) × Int32 × Int32 × Rp
abbrev yq (y : Sy) : Qd := y.1
abbrev yk (y : Sy) : Int32 := y.2.1
abbrev yA (y : Sy) : List Ac := y.2.2.1
abbrev ys (y : Sy) : Nat → Nat := y.2.2.2.1
abbrev yr (y : Sy) : Nat → Int32 := y.2.2.2.2.1
abbrev yw (y : Sy) : Int32 := y.2.2.2.2.2.1
abbrev yf (y : Sy) : Int32 := y.2.2.2.2.2.2.1
abbrev yg (y : Sy) : Rp := y.2.2.2.2.2.2.2
abbrev sQ (y : Sy) (q : Qd) : Sy := (q, y.2)
abbrev sK (y : Sy) (k : Int32) : Sy := (y.1, k, y.2.2)
abbrev sA (y : Sy) (A : List Ac) : Sy := (y.1, y.2.1, A, y.2.2.2)
abbrev sS (y : Sy) (s : Nat → Nat) : Sy := (y.1, y.2.1, y.2.2.1, s, y.2.2.2.2)
abbrev sR (y : Sy) (r : Nat → Int32) : Sy := (y.1, y.2.1, y.2.2.1, y.2.2.2.1, r, y.2.2.2.2.2)
abbrev sW (y : Sy) (w : Int32) : Sy := (y.1, y.2.1, y.2.2.1, y.2.2.2.1, y.2.2.2.2.1, w, y.2.2.2.2.2.2)
abbrev sL (y : Sy) (f : Int32) : Sy := (y.1, y.2.1, y.2.2.1, y.2.2.2.1, y.2.2.2.2.1, y.2.2.2.2.2.1, f, y.2.2.2.2.2.2.2)
abbrev sG (y : Sy) (g : Rp) : Sy := (y.1, y.2.1, y.2.2.1, y.2.2.2.1, y.2.2.2.2.1, y.2.2.2.2.2.1, y.2.2.2.2.2.2.1, g)
abbrev bmp (y : Sy) (w : Nat) : Sy := sR y (upd (yr y) w (yr y w + nI 1))
abbrev clL : List Nat := [0, 1, 2, 3, 4, 5, 6, 7, 8, 9, 10, 11, 12, 13, 14, 15, 16, 17, 18, 19, 20, 21, 22, 23, 24, 25, 26, 27, 28, 29, 30, 31, 32, 33, 34, 35, 36, 37, 38, 39, 40, 41, 42, 43, 44, 45, 46, 47, 48, 49, 50, 51, 52, 53, 54, 55, 56, 57, 58, 59, 60, 61, 62, 63, 64, 65, 66, 67, 68, 69, 70, 71, 72, 73, 74, 75]
abbrev mdL : List Nat := [76, 77, 78, 79, 80, 81, 82, 83, 84, 85, 86, 87, 88, 89, 90, 91, 92, 93, 94, 95, 96, 97, 98, 99, 100, 101, 102, 103, 104, 105]
def Yok (y : Sy) : Prop := (yk y = -1 ∨ ∃ st, st < 3 ∧ yk y = nI st) ∧ (∀ st, st < 3 → ys y st < 2 ^ fnN st) ∧ RpN 900 (yg y)
/-- the edits that were seen, of the disc at d and the states at b -/
def SeB (b d : Nat) (g : GH) (q : Qd) (c : Nat) : Prop := ∃ Ed, Ed ≤ c ∧ SeD b d g q Ed
def CIb (k : Nat) (g : GH) (y : Sy) (n : Nat) : Prop := CD 1 g (yq y) ∧ SeB 8 1 g (yq y) (20 * n) ∧ (gF g 0 8 = yk y ∧ gF g 0 9 = yf y ∧ gF g 1 11 = yw y) ∧ (∀ st, st < 3 → gA g 74 st = nI (ys y st)) ∧ (∀ w, w < 7 → gA g 75 w = yr y w) ∧ CSc g (yA y) ∧ (∃ q', SeB 34 27 g q' (600 * n)) ∧ RpC k g (yg y)
def CI (S : sH) (g : GH) (y : Sy) (n : Nat) : Prop := ∃ kd k r, ((k = 64 ∧ r = 67) ∨ (k = 67 ∧ r = 64)) ∧ S = SS kd k r ∧ CIb k g y n
def MI (g : GH) (y : Sy) : Prop := MD g 0 (yq y) ∧ (gF g 76 6 = yk y ∧ gF g 76 8 = yw y ∧ gF g 76 9 = yf y) ∧ (∀ st, st < 3 → SpM (gA g 82) st (ys y st)) ∧ (∀ w, w < 7 → gA g 83 w = yr y w) ∧ MSc g (yA y) ∧ RpK g (yg y)
theorem SeD.nx {b d : Nat} {g g' : GH} {q q' : Qd} {Ed : Nat} (h : SeD b d g q Ed) (e : gF g' d 12 = nI (Ed + 1)) (e3 : gA g' (b + 3) = gA g (b + 3)) (e13 : gF g' b 13 = gF g b 13) : SeD b d g' q' (Ed + 1) := by
  obtain ⟨h1, h2, h3⟩ := h
  refine ⟨e, by rw [e3]; exact h2, ?_⟩
  rw [e13]
  rcases h3 with z | ⟨e', z, z2, -⟩
  · exact Or.inl z
  · exact Or.inr ⟨e', z, by omega, fun y => by omega⟩
theorem SeD.frG {b d : Nat} {g g' : GH} {q : Qd} {Ed : Nat} {B : List Nat} (h : SeD b d g q Ed) (f : Fr B g g') (hd : d ∉ B) (hB : ∀ i, i < 9 → b + i ∉ B) : SeD b d g' q Ed := by
  obtain ⟨h1, h2, h3⟩ := h
  refine ⟨(f.f hd 12).trans h1, by rw [f.a (hB 3 (by decide))]; exact h2, ?_⟩
  have e := f.f (hB 0 (by decide)) 13
  rw [Nat.add_zero] at e
  rw [e]
  rcases h3 with z | ⟨e', z, z2, z3⟩
  · exact Or.inl z
  · exact Or.inr ⟨e', z, z2, fun y => (z3 y).fr f hB⟩
theorem SeB.fr {b d : Nat} {g g' : GH} {q : Qd} {c : Nat} {B : List Nat} (h : SeB b d g q c) (f : Fr B g g') (hd : d ∉ B) (hB : ∀ i, i < 9 → b + i ∉ B) : SeB b d g' q c := by
  obtain ⟨Ed, h1, h2⟩ := h
  exact ⟨Ed, h1, h2.frG f hd hB⟩
theorem SeB.up {b d : Nat} {g : GH} {q : Qd} {c c' : Nat} (h : SeB b d g q c) (hc : c ≤ c') : SeB b d g q c' := by
  obtain ⟨Ed, h1, h2⟩ := h
  exact ⟨Ed, by omega, h2⟩
theorem CIb.fr {k : Nat} {g g' : GH} {y : Sy} {n : Nat} {B : List Nat} (h : CIb k g y n) (f : Fr B g g') (hk : k = 64 ∨ k = 67) (hB : ∀ i, i < 76 → i ∉ B) : CIb k g' y n := by
  obtain ⟨h1, h2, ⟨h3, h3', h3''⟩, h4, h5, h6, ⟨q', h7⟩, h8⟩ := h
  refine ⟨h1.fr f (fun i hi => hB _ (by omega)), h2.fr f (hB _ (by omega)) (fun i hi => hB _ (by omega)), ⟨(f.f (hB _ (by omega)) _).trans h3, (f.f (hB _ (by omega)) _).trans h3', (f.f (hB _ (by omega)) _).trans h3''⟩, fun st hst => ?_, fun w hw => ?_, h6.fr f (hB _ (by omega)) (hB _ (by omega)) (hB _ (by omega)) (hB _ (by omega)) (hB _ (by omega)), ⟨q', h7.fr f (hB _ (by omega)) (fun i hi => hB _ (by omega))⟩, h8.fr f (hB _ (by omega)) (hB _ (by omega)) (hB _ (by omega))⟩
  · rw [f.a (hB _ (by omega))]
    exact h4 st hst
  · rw [f.a (hB _ (by omega))]
    exact h5 w hw
theorem CIb.n {k : Nat} {g : GH} {y : Sy} {n n' : Nat} (h : CIb k g y n) (hn : n ≤ n') : CIb k g y n' := by
  obtain ⟨h1, h2, h3, h4, h5, h6, ⟨q', h7⟩, h8⟩ := h
  exact ⟨h1, h2.up (by omega), h3, h4, h5, h6, ⟨q', h7.up (by omega)⟩, h8⟩
theorem CI.md {S : sH} {g g' : GH} {y : Sy} {n : Nat} (h : CI S g y n) (f : Fr mdL g g') : CI S g' y n := by
  obtain ⟨kd, k, r, hk, hS, hb⟩ := h
  refine ⟨kd, k, r, hk, hS, hb.fr f (by omega) ?_⟩
  intro i hi hm
  have : 76 ≤ i := by
    simp only [List.mem_cons, List.not_mem_nil, or_false] at hm
    omega
  omega
theorem MD.frG {g g' : GH} {d : Nat} {q : Qd} {B : List Nat} (h : MD g d q) (f : Fr B g g') (h7 : 77 ∉ B) (h8 : 78 ∉ B) (h9 : 79 ∉ B) (h80 : 80 ∉ B) (h81 : 81 ∉ B) : MD g' d q := h.keep (f.a h7) (f.a h8) (f.a h9) (f.a h80) (f.a h81)
theorem MI.cl {g g' : GH} {y : Sy} (h : MI g y) (f : Fr clL g g') : MI g' y := by
  obtain ⟨h1, ⟨h2, h2', h2''⟩, h3, h4, h5, h6⟩ := h
  refine ⟨h1.frG f (by decide) (by decide) (by decide) (by decide) (by decide), ⟨(f.f (by decide) _).trans h2, (f.f (by decide) _).trans h2', (f.f (by decide) _).trans h2''⟩, fun st hst => ?_, fun w hw => ?_, ?_, ?_⟩
  · rw [f.a (by decide)]
    exact h3 st hst
  · rw [f.a (by decide)]
    exact h4 w hw
  · unfold MSc at h5 ⊢
    rw [f.f (by decide), f.a (a := 93) (by decide), f.a (a := 94) (by decide), f.a (a := 95) (by decide), f.l (a := 96) (by decide)]
    exact h5
  · unfold RpK at h6 ⊢
    rw [f.a (a := 99) (by decide), f.a (a := 101) (by decide)]
    exact h6
/-! small methods of the class -/
set_option maxRecDepth 100000 in
theorem c_krefuse {d0 kd kp rp : Nat} {g : GH} (w : Nat) (h1 : 1 ≤ w) (hw : w < 7) : ACi mX10_refuse d0 (SS kd kp rp) g [.ref 0, .int (-nI w)] (fun r S' g' => S' = SS kd kp rp ∧ g' = pA g 75 (upd (gA g 75) w (gA g 75 w + nI 1)) ∧ r = -nI w) := by
  have a1 : ∀ w, w < 7 → 1 ≤ w → ¬ (-1 : Int32) < -nI w := by decide
  have a2 : ∀ w, w < 7 → ¬ -nI w < (-6 : Int32) := by decide
  refine ACi.of lcX10_refuse rfl rfl (fun X Q ad hR ret => ?_)
  refine AW_ls (ls' := [_, _]) rfl ?_
  refine a_iload_n (pc := 0) dX10_refuse_0 rfl ?_
  refine a_iconst (pc := 1) (-1) dX10_refuse_1 (by decide) ?_
  refine a_icmp_gt (pc := 2) 22 dX10_refuse_2 (by decide) (fun c1 => ?_) (fun c1 => ?_)
  · exact absurd c1 (a1 w hw h1)
  · refine a_iload_n (pc := 5) dX10_refuse_5 rfl ?_
    refine a_bipush (pc := 6) (-6) dX10_refuse_6 (by decide) ?_
    refine a_icmp_lt (pc := 8) 22 dX10_refuse_8 (by decide) (fun c2 => ?_) (fun c2 => ?_)
    · exact absurd c2 (a2 w hw)
    · refine a_aload_n (pc := 11) dX10_refuse_11 rfl ?_
      refine a_gr (pc := 12) dX10_refuse_12 fX10_63 rfl ?_
      refine a_iload_n (pc := 15) dX10_refuse_15 rfl ?_
      refine a_ineg (pc := 16) dX10_refuse_16 ?_
      refine a_dup2 (pc := 17) dX10_refuse_17 rfl rfl ?_
      refine a_ial (pc := 18) (w) dX10_refuse_18 rfl (Int32.neg_neg) (by omega) ?_
      refine a_iconst (pc := 19) (nI 1) dX10_refuse_19 (by decide) ?_
      refine a_iadd (pc := 20) dX10_refuse_20 ?_
      try rw [nI_add]
      refine a_ast (pc := 21) (w) dX10_refuse_21 rfl (Int32.neg_neg) (by omega) ?_
      refine a_iload_n (pc := 22) dX10_refuse_22 rfl ?_
      refine ret _ _ 23 _ _ dX10_refuse_23 rfl ?_
      exact ⟨rfl, rfl, rfl⟩
set_option maxRecDepth 100000 in
theorem c_isKind {d0 kd kp rp : Nat} {g : GH} (x : Int32) : ACi mX10_isKind d0 (SS kd kp rp) g [.ref 0, .int x] (fun r S' g' => S' = SS kd kp rp ∧ g' = g ∧ r = bI (insQ x (nI 0) (nI 2))) := by
  have h15 : ∀ x : Int32, insQ x (nI 0) (nI 2) = true ↔ 0 ≤ x ∧ x ≤ nI 2 := fun x => by
    unfold insQ
    rw [Bool.and_eq_true, decide_eq_true_iff, decide_eq_true_iff]
    rfl
  have e1 : (nI 3).toInt = 3 := rfl
  have e2 : (nI 2).toInt = 2 := rfl
  refine ACz.of lcX10_isKind rfl rfl (fun X Q ad hR ret => ?_)
  refine AW_ls (ls' := [_, _]) rfl ?_
  refine a_iload_n (pc := 0) dX10_isKind_0 rfl ?_
  refine a_if_lt (pc := 1) 17 dX10_isKind_1 (by decide) (fun c1 => ?_) (fun c1 => ?_)
  · refine a_iconst (pc := 17) (nI 0) dX10_isKind_17 (by decide) ?_
    refine ret _ _ 18 _ _ dX10_isKind_18 rfl (by first | exact Or.inl rfl | exact Or.inr rfl | exact bI_01 _) ?_
    refine ⟨rfl, rfl, ?_⟩
    have : insQ x (nI 0) (nI 2) = false := Bool.eq_false_iff.mpr (fun z => absurd c1 (Int32.not_lt.mpr ((h15 x).mp z).1))
    rw [this]
    rfl
  · refine a_iload_n (pc := 4) dX10_isKind_4 rfl ?_
    refine a_aload_n (pc := 5) dX10_isKind_5 rfl ?_
    refine a_gr (pc := 6) dX10_isKind_6 fX10_55 rfl ?_
    refine a_alen (pc := 9) dX10_isKind_9 rfl ?_
    refine a_icmp_ge (pc := 10) 17 dX10_isKind_10 (by decide) (fun c2 => ?_) (fun c2 => ?_)
    · refine a_iconst (pc := 17) (nI 0) dX10_isKind_17 (by decide) ?_
      refine ret _ _ 18 _ _ dX10_isKind_18 rfl (by first | exact Or.inl rfl | exact Or.inr rfl | exact bI_01 _) ?_
      refine ⟨rfl, rfl, ?_⟩
      have : insQ x (nI 0) (nI 2) = false := Bool.eq_false_iff.mpr (fun z => by
        have z2 := ((h15 x).mp z).2
        rw [Int32.le_iff_toInt_le] at c2 z2
        omega)
      rw [this]
      rfl
    · refine a_iconst (pc := 13) (nI 1) dX10_isKind_13 (by decide) ?_
      refine a_goto (pc := 14) 18 dX10_isKind_14 (by decide) ?_
      refine ret _ _ 18 _ _ dX10_isKind_18 rfl (by first | exact Or.inl rfl | exact Or.inr rfl | exact bI_01 _) ?_
      refine ⟨rfl, rfl, ?_⟩
      have : insQ x (nI 0) (nI 2) = true := (h15 x).mpr ⟨Int32.not_lt.mp c1, by
        have c2 := Int32.not_le.mp c2
        rw [Int32.lt_iff_toInt_lt] at c2
        rw [Int32.le_iff_toInt_le]
        omega⟩
      rw [this]
      rfl
set_option maxRecDepth 100000 in
theorem c_hasStore {d0 kd kp rp : Nat} {g : GH} : ACi mX10_hasStore (d0 + 1) (SS kd kp rp) g [.ref 0] (fun r S' g' => S' = SS kd kp rp ∧ g' = g ∧ r = bI (insQ (gF g 0 8) (nI 0) (nI 2))) := by
  refine ACz.of lcX10_hasStore rfl rfl (fun X Q ad hR ret => ?_)
  refine AW_ls (ls' := [_]) rfl ?_
  refine a_aload_n (pc := 0) dX10_hasStore_0 rfl ?_
  refine a_aload_n (pc := 1) dX10_hasStore_1 rfl ?_
  refine a_gi (pc := 2) dX10_hasStore_2 fX10_66 rfl ?_
  refine a_V1i (pc := 5) 9 dX10_hasStore_5 lcX10_isKind lX10_149 rfl rfl rfl (fit_of hR (by omega) rfl) (c_isKind (d0 := d0) (gF g 0 8)) rfl rfl (ex_i ?_)
  refine ret _ _ 8 _ _ dX10_hasStore_8 rfl (by first | exact Or.inl rfl | exact Or.inr rfl | exact bI_01 _) ?_
  exact ⟨rfl, rfl, rfl⟩
theorem ins01 (x : Int32) : insQ x (nI 0) (nI 1) = (decide (x = 0) || decide (x = nI 1)) := by
  by_cases h : insQ x (nI 0) (nI 1) = true
  · obtain ⟨j, hj, rfl⟩ := (insQ_ok (by decide)).mp h
    rw [h]
    have : ∀ j, j ≤ 1 → true = (decide (nI j = 0) || decide (nI j = nI 1)) := by decide
    exact this j hj
  · rw [Bool.eq_false_iff.mpr h]
    have h0 : ¬ x = 0 := fun z => h (by rw [z]; decide)
    have h1 : ¬ x = nI 1 := fun z => h (by rw [z]; decide)
    rw [decide_eq_false h0, decide_eq_false h1]
    rfl
set_option maxRecDepth 100000 in
theorem c_kisPart {d0 : Nat} {S : sH} {g : GH} (s p : Int32) : ACi mX10_isPart (d0 + 1) S g [.int s, .int p] (fun r S' g' => S' = S ∧ g' = g ∧ r = bI (ptI s p)) := by
  unfold ptI
  rw [ins01]
  refine ACz.of lcX10_isPart rfl rfl (fun X Q ad hR ret => ?_)
  refine AW_ls (ls' := [_, _]) rfl ?_
  refine a_iload_n (pc := 0) dX10_isPart_0 rfl ?_
  refine a_S1i (pc := 1) dX10_isPart_1 lcX10_isSector lX10_73 (fit_of hR (by omega) rfl) (c_isSector (d0 := d0) s) rfl rfl (ex_i ?_)
  refine a_if_eqB (pc := 4) 20 dX10_isPart_4 (by decide) (fun c1 => ?_) (fun c1 => ?_)
  · refine a_iconst (pc := 20) (nI 0) dX10_isPart_20 (by decide) ?_
    refine ret _ _ 21 _ _ dX10_isPart_21 rfl (by first | exact Or.inl rfl | exact Or.inr rfl | exact bI_01 _) ?_
    exact ⟨rfl, rfl, by rw [c1]; rfl⟩
  · refine a_iload_n (pc := 7) dX10_isPart_7 rfl ?_
    refine a_if_eq (pc := 8) 16 dX10_isPart_8 (by decide) (fun c2 => ?_) (fun c2 => ?_)
    · refine a_iconst (pc := 16) (nI 1) dX10_isPart_16 (by decide) ?_
      refine a_goto (pc := 17) 21 dX10_isPart_17 (by decide) ?_
      refine ret _ _ 21 _ _ dX10_isPart_21 rfl (by first | exact Or.inl rfl | exact Or.inr rfl | exact bI_01 _) ?_
      exact ⟨rfl, rfl, by rw [c1, decide_eq_true c2]; rfl⟩
    · refine a_iload_n (pc := 11) dX10_isPart_11 rfl ?_
      refine a_iconst (pc := 12) (nI 1) dX10_isPart_12 (by decide) ?_
      refine a_icmp_ne (pc := 13) 20 dX10_isPart_13 (by decide) (fun c3 => ?_) (fun c3 => ?_)
      · refine a_iconst (pc := 20) (nI 0) dX10_isPart_20 (by decide) ?_
        refine ret _ _ 21 _ _ dX10_isPart_21 rfl (by first | exact Or.inl rfl | exact Or.inr rfl | exact bI_01 _) ?_
        exact ⟨rfl, rfl, by rw [c1, decide_eq_false c2, decide_eq_false c3]; rfl⟩
      · refine a_iconst (pc := 16) (nI 1) dX10_isPart_16 (by decide) ?_
        refine a_goto (pc := 17) 21 dX10_isPart_17 (by decide) ?_
        refine ret _ _ 21 _ _ dX10_isPart_21 rfl (by first | exact Or.inl rfl | exact Or.inr rfl | exact bI_01 _) ?_
        exact ⟨rfl, rfl, by rw [c1, decide_eq_false c2, decide_eq_true c3]; rfl⟩
set_option maxRecDepth 100000 in
theorem c_twoKeys {d0 : Nat} {S : sH} {g : GH} (k l : Int32) : ACi mX10_areTwoKeys (d0 + 1) S g [.int k, .int l] (fun r S' g' => S' = S ∧ g' = g ∧ r = bI (twoK k l)) := by
  unfold twoK
  refine ACz.of lcX10_areTwoKeys rfl rfl (fun X Q ad hR ret => ?_)
  refine AW_ls (ls' := [_, _]) rfl ?_
  refine a_iload_n (pc := 0) dX10_areTwoKeys_0 rfl ?_
  refine a_S1i (pc := 1) dX10_areTwoKeys_1 lcX10_isKey lX10_164 (fit_of hR (by omega) rfl) (c_isKey (d0 := d0) k) rfl rfl (ex_i ?_)
  refine a_if_eqB (pc := 4) 23 dX10_areTwoKeys_4 (by decide) (fun c1 => ?_) (fun c1 => ?_)
  · refine a_iconst (pc := 23) (nI 0) dX10_areTwoKeys_23 (by decide) ?_
    refine ret _ _ 24 _ _ dX10_areTwoKeys_24 rfl (by first | exact Or.inl rfl | exact Or.inr rfl | exact bI_01 _) ?_
    exact ⟨rfl, rfl, by rw [c1]; rfl⟩
  · refine a_iload_n (pc := 7) dX10_areTwoKeys_7 rfl ?_
    refine a_S1i (pc := 8) dX10_areTwoKeys_8 lcX10_isKey lX10_164 (fit_of hR (by omega) rfl) (c_isKey (d0 := d0) l) rfl rfl (ex_i ?_)
    refine a_if_eqB (pc := 11) 23 dX10_areTwoKeys_11 (by decide) (fun c2 => ?_) (fun c2 => ?_)
    · refine a_iconst (pc := 23) (nI 0) dX10_areTwoKeys_23 (by decide) ?_
      refine ret _ _ 24 _ _ dX10_areTwoKeys_24 rfl (by first | exact Or.inl rfl | exact Or.inr rfl | exact bI_01 _) ?_
      exact ⟨rfl, rfl, by rw [c1, c2]; rfl⟩
    · refine a_iload_n (pc := 14) dX10_areTwoKeys_14 rfl ?_
      refine a_iload_n (pc := 15) dX10_areTwoKeys_15 rfl ?_
      refine a_icmp_eq (pc := 16) 23 dX10_areTwoKeys_16 (by decide) (fun c3 => ?_) (fun c3 => ?_)
      · refine a_iconst (pc := 23) (nI 0) dX10_areTwoKeys_23 (by decide) ?_
        refine ret _ _ 24 _ _ dX10_areTwoKeys_24 rfl (by first | exact Or.inl rfl | exact Or.inr rfl | exact bI_01 _) ?_
        exact ⟨rfl, rfl, by rw [c1, c2, decide_eq_true c3]; rfl⟩
      · refine a_iconst (pc := 19) (nI 1) dX10_areTwoKeys_19 (by decide) ?_
        refine a_goto (pc := 20) 24 dX10_areTwoKeys_20 (by decide) ?_
        refine ret _ _ 24 _ _ dX10_areTwoKeys_24 rfl (by first | exact Or.inl rfl | exact Or.inr rfl | exact bI_01 _) ?_
        exact ⟨rfl, rfl, by rw [c1, c2, decide_eq_false c3]; rfl⟩
def wrA (x : Int32) : List En → Int32
  | [] => x
  | e :: L => wrA (x + (if e.1 = -1 then nI 0 else nI 1)) L
theorem wrA_add (e : En) : ∀ (L : List En) (x : Int32), wrA x (L ++ [e]) = wrA x L + (if e.1 = -1 then nI 0 else nI 1)
  | [], _ => rfl
  | a :: L, x => by
    rw [List.cons_append, wrA, wrA_add e L, wrA]
abbrev dsL : List Nat := [1, 2, 3, 4, 5, 6, 7]
set_option maxHeartbeats 1000000 in
set_option maxRecDepth 100000 in
theorem c_carry1 {d0 kd kp rp : Nat} {g : GH} (q : Qd) (L : List En) (Ed : Nat) (hq : CD 1 g q) (hs : SeD 8 1 g q Ed) (hP : PL 17 g L) (hLo : ∀ x ∈ L, okE x) (hLz : ∀ x ∈ L, okF x) (hf : q.2.length + L.length ≤ 60) : ACi mX10_carryOut (d0 + 3) (SS kd kp rp) g [.ref 0] (fun r S' g' => S' = SS kd kp rp ∧ r = nI L.length ∧ CD 1 g' (q.1, q.2 ++ L) ∧ SeD 8 1 g' (q.1, q.2 ++ L) (Ed + L.length) ∧ gF g' 1 11 = wrA (gF g 1 11) L ∧ Fr dsL g g') := by
  have h11 := hP.2.1
  refine ACi.of lcX10_carryOut rfl rfl (fun X Q ad hR ret => ?_)
  refine AW_ls (ls' := [_, _]) rfl ?_
  refine a_aload_n (pc := 0) dX10_carryOut_0 rfl ?_
  refine a_gr (pc := 1) dX10_carryOut_1 fX10_12 rfl ?_
  refine a_aload_n (pc := 4) dX10_carryOut_4 rfl ?_
  refine a_gr (pc := 5) dX10_carryOut_5 fX10_26 rfl ?_
  refine a_gi (pc := 8) dX10_carryOut_8 fX10_245 rfl ?_
  rw [hP.1]
  refine a_V1i (pc := 11) 0 dX10_carryOut_11 lcX0_hasRoom lX10_81 rfl rfl rfl (fit_of hR (by omega) rfl) (c_hasRoom_1 (d0 := d0) q.2.length L.length hq.1.1 hq.1.2.1 (by omega)) rfl rfl (ex_i ?_)
  rw [decide_eq_true hf]
  refine a_if_neB (pc := 14) 24 dX10_carryOut_14 (by decide) (fun c1 => ?_) (fun c1 => ?_)
  · refine a_iconst (pc := 24) (nI 0) dX10_carryOut_24 (by decide) ?_
    refine a_istore_n (pc := 25) (ls' := [_, _]) dX10_carryOut_25 (Nat.le_of_ble_eq_true rfl) rfl ?_
    have loop : ∀ t j, L.length = j + t → ∀ g1 : GH, CD 1 g1 (q.1, q.2 ++ L.take j) → SeD 8 1 g1 (q.1, q.2 ++ L.take j) (Ed + j) → gF g1 1 11 = wrA (gF g 1 11) (L.take j) → Fr dsL g g1 → AW mX10_carryOut X Q ad 0 0 (conc (SS kd kp rp) g1) 26 [some (.ref 0), some (.int (nI j))] [] := by
      intro t
      induction t with
      | zero =>
        intro j hj g1 q1 s1 w1 f1
        have hP1 := hP.fr f1 (by decide)
        rw [List.take_of_length_le (by omega)] at q1 s1 w1
        obtain rfl : j = L.length := by omega
        refine a_iload_n (pc := 26) dX10_carryOut_26 rfl ?_
        refine a_aload_n (pc := 27) dX10_carryOut_27 rfl ?_
        refine a_gr (pc := 28) dX10_carryOut_28 fX10_26 rfl ?_
        refine a_gi (pc := 31) dX10_carryOut_31 fX10_245 rfl ?_
        rw [hP1.1]
        refine a_icmp_geN (pc := 34) 55 dX10_carryOut_34 (by decide) (by omega) (by omega) (fun c2 => ?_) (fun c2 => ?_)
        · refine a_aload_n (pc := 55) dX10_carryOut_55 rfl ?_
          refine a_gr (pc := 56) dX10_carryOut_56 fX10_26 rfl ?_
          refine a_gi (pc := 59) dX10_carryOut_59 fX10_245 rfl ?_
          rw [hP1.1]
          refine ret _ _ 62 _ _ dX10_carryOut_62 rfl ?_
          exact ⟨rfl, rfl, q1, s1, w1, f1⟩
        · exact absurd c2 (by omega)
      | succ t ih =>
        intro j hj g1 q1 s1 w1 f1
        have hP1 := hP.fr f1 (by decide)
        have hx : L[j]? = some L[j] := List.getElem?_eq_getElem (by omega)
        have hxo : okE L[j] := hLo _ (List.getElem_mem _)
        have hxz : okF L[j] := hLz _ (List.getElem_mem _)
        generalize L[j] = x at hx hxo hxz
        have ht : L.take (j + 1) = L.take j ++ [x] := by rw [List.take_add_one, hx, Option.toList_some]
        have hlt : (L.take j).length = j := List.length_take_of_le (by omega)
        refine a_iload_n (pc := 26) dX10_carryOut_26 rfl ?_
        refine a_aload_n (pc := 27) dX10_carryOut_27 rfl ?_
        refine a_gr (pc := 28) dX10_carryOut_28 fX10_26 rfl ?_
        refine a_gi (pc := 31) dX10_carryOut_31 fX10_245 rfl ?_
        rw [hP1.1]
        refine a_icmp_geN (pc := 34) 55 dX10_carryOut_34 (by decide) (by omega) (by omega) (fun c2 => ?_) (fun c2 => ?_)
        · exact absurd c2 (by omega)
        · refine a_aload_n (pc := 37) dX10_carryOut_37 rfl ?_
          refine a_gr (pc := 38) dX10_carryOut_38 fX10_12 rfl ?_
          refine a_aload_n (pc := 41) dX10_carryOut_41 rfl ?_
          refine a_gr (pc := 42) dX10_carryOut_42 fX10_26 rfl ?_
          refine a_iload_n (pc := 45) dX10_carryOut_45 rfl ?_
          refine a_V2v (pc := 46) 0 dX10_carryOut_46 lcX0_enqueuePlanned lX10_248 rfl rfl rfl (fit_of hR (by omega) rfl) (c_enqP_1 (d0 := d0) (q.1, q.2 ++ L.take j) L j x q1 (by rw [List.length_append, hlt]; omega) hP1 hx hxo hxz) rfl rfl (fun S' g2 hS hp => ?_)
          obtain ⟨rfl, q2, w2, ed2, f2⟩ := hp
          refine a_iinc (pc := 49) (ls' := [_, _]) (nI 1) dX10_carryOut_49 (by decide) rfl (Nat.le_of_ble_eq_true rfl) rfl ?_
          try rw [nI_add]
          refine a_goto (pc := 52) 26 dX10_carryOut_52 (by decide) ?_
          refine ih (j + 1) (by omega) g2 ?_ ?_ ?_ (f1.tr f2)
          · rw [ht, ← List.append_assoc]
            exact q2
          · exact s1.nx (by rw [ed2, s1.1, nI_add]) (f2.a (by decide)) (f2.f (by decide) 13)
          · rw [w2, w1, ht, wrA_add]
    refine loop L.length 0 (by omega) g ?_ ?_ rfl (Fr.rf _ g)
    · rw [List.take_zero, List.append_nil]
      exact hq
    · rw [List.take_zero, List.append_nil]
      exact hs
  · cases c1
set_option maxRecDepth 100000 in
theorem c_carry2 {d0 kd kp rp : Nat} {g : GH} (q : Qd) (L : List En) (hq : CD 1 g q) (hP : PL 17 g L) (hf : 60 < q.2.length + L.length) : ACi mX10_carryOut (d0 + 3) (SS kd kp rp) g [.ref 0] (fun r S' g' => S' = SS kd kp rp ∧ g' = pA g 75 (upd (gA g 75) 6 (gA g 75 6 + nI 1)) ∧ r = -nI 6) := by
  have h11 := hP.2.1
  refine ACi.of lcX10_carryOut rfl rfl (fun X Q ad hR ret => ?_)
  refine AW_ls (ls' := [_, _]) rfl ?_
  refine a_aload_n (pc := 0) dX10_carryOut_0 rfl ?_
  refine a_gr (pc := 1) dX10_carryOut_1 fX10_12 rfl ?_
  refine a_aload_n (pc := 4) dX10_carryOut_4 rfl ?_
  refine a_gr (pc := 5) dX10_carryOut_5 fX10_26 rfl ?_
  refine a_gi (pc := 8) dX10_carryOut_8 fX10_245 rfl ?_
  rw [hP.1]
  refine a_V1i (pc := 11) 0 dX10_carryOut_11 lcX0_hasRoom lX10_81 rfl rfl rfl (fit_of hR (by omega) rfl) (c_hasRoom_1 (d0 := d0) q.2.length L.length hq.1.1 hq.1.2.1 (by omega)) rfl rfl (ex_i ?_)
  rw [decide_eq_false (by omega)]
  refine a_if_neB (pc := 14) 24 dX10_carryOut_14 (by decide) (fun c1 => ?_) (fun c1 => ?_)
  · cases c1
  · refine a_aload_n (pc := 17) dX10_carryOut_17 rfl ?_
    refine a_bipush (pc := 18) (-6) dX10_carryOut_18 (by decide) ?_
    refine a_V1i (pc := 20) 9 dX10_carryOut_20 lcX10_refuse lX10_77 rfl rfl rfl (fit_of hR (by omega) rfl) (c_krefuse (d0 := d0) 6 (by decide) (by decide)) rfl rfl (ex_i ?_)
    refine ret _ _ 23 _ _ dX10_carryOut_23 rfl ?_
    exact ⟨rfl, rfl, rfl⟩
