/-! the reference over the joint state -/
theorem MI.set {g g' : GH} {y : Sy} {q' : Qd} {w' : Int32} (h : MI g y) (md : MD g' 0 q') (e8 : gF g' 76 8 = w') (e6 : gF g' 76 6 = gF g 76 6) (e9 : gF g' 76 9 = gF g 76 9) (e22 : gF g' 76 22 = gF g 76 22) (a82 : gA g' 82 = gA g 82) (a83 : gA g' 83 = gA g 83) (a93 : gA g' 93 = gA g 93) (a94 : gA g' 94 = gA g 94) (a95 : gA g' 95 = gA g 95) (a99 : gA g' 99 = gA g 99) (a101 : gA g' 101 = gA g 101) (l96 : gL g' 96 = gL g 96) : MI g' (sW (sQ y q') w') := by
  obtain ⟨h1, ⟨h2, h2', h2''⟩, h3, h4, h5, h6⟩ := h
  refine ⟨md, ⟨e6.trans h2, e8, e9.trans h2''⟩, by rw [a82]; exact h3, by rw [a83]; exact h4, ?_, ?_⟩
  · unfold MSc at h5 ⊢
    rw [e22, a93, a94, a95, l96]
    exact h5
  · unfold RpK at h6 ⊢
    rw [a99, a101]
    exact h6
theorem MI.th {g : GH} {y : Sy} (h : MI g y) (x : Int32) : MI (pF g 76 0 x) y := h.set (q' := yq y) (w' := yw y) (h.1.keep rfl rfl rfl rfl rfl) (by rw [gF_pF, if_neg (by decide)]; exact h.2.1.2.1) (by rw [gF_pF, if_neg (by decide)]) (by rw [gF_pF, if_neg (by decide)]) (by rw [gF_pF, if_neg (by decide)]) rfl rfl rfl rfl rfl rfl rfl rfl
theorem MI.rf {g : GH} {y : Sy} (h : MI g y) (w : Nat) (hw : w < 7) : MI (rfu g w) (bmp y w) := by
  obtain ⟨h1, h2, h3, h4, h5, h6⟩ := h
  refine ⟨h1.keep rfl rfl rfl rfl rfl, h2, h3, fun x hx => ?_, h5, h6⟩
  show gA (pA g 83 _) 83 x = upd (yr y) w (yr y w + nI 1) x
  rw [gA_pA, if_pos rfl]
  simp only [upd]
  rw [h4 x hx, h4 w hw]
theorem MI.pl {g : GH} {y : Sy} (h : MI g y) (L : List En) : MI (plA g L) y := h.set (q' := yq y) (w' := yw y) (h.1.keep rfl rfl rfl rfl rfl) ((plA_F g L 76 8 (by decide)).trans h.2.1.2.1) (plA_F g L 76 6 (by decide)) (plA_F g L 76 9 (by decide)) (plA_F g L 76 22 (by decide)) rfl rfl rfl rfl rfl rfl rfl rfl
theorem pushL_8 : ∀ (L : List En) (g : GH) (n : Nat), gF (pushL g 0 n L) 76 8 = wrA (gF g 76 8) L
  | [], _, _ => rfl
  | x :: L, g, n => by
    rw [pushL, pushL_8 L, wrA]
    congr 1
    show gF (pushG g 0 x.1 x.2.1 x.2.2 n) 76 8 = _
    rw [pushG, gF_pF, if_pos ⟨rfl, rfl⟩]
    congr 1
    by_cases z : x.1 = -1
    · rw [if_neg (fun q => q.2 z), if_pos z]
    · rw [if_pos ⟨rfl, z⟩, if_neg z]
theorem MI.push {g : GH} {y : Sy} (h : MI g y) (L : List En) (hL : ∀ x ∈ L, okE x) (hf : (yq y).2.length + L.length ≤ 60) : MI (pushL g 0 (yq y).2.length L) (sW (sQ y ((yq y).1, (yq y).2 ++ L)) (wrA (yw y) L)) := h.set (MD.pushs L g (yq y) h.1 hL hf) (by rw [pushL_8, h.2.1.2.1]) (pushL_F _ _ _ (by decide) _ _ _) (pushL_F _ _ _ (by decide) _ _ _) (pushL_F _ _ _ (by decide) _ _ _) (pushL_A _ _ (by decide) _ _ _) (pushL_A _ _ (by decide) _ _ _) (pushL_A _ _ (by decide) _ _ _) (pushL_A _ _ (by decide) _ _ _) (pushL_A _ _ (by decide) _ _ _) (pushL_A _ _ (by decide) _ _ _) (pushL_A _ _ (by decide) _ _ _) (pushL_L _ _ _ _ _)
theorem MI.fs {g : GH} {y : Sy} (h : MI g y) (a b c d e f : Nat → Int32) (x : Int32) : MI (fsG g a b c d e f x) y := h.set (q' := yq y) (w' := yw y) (h.1.keep rfl rfl rfl rfl rfl) (by rw [fsG, gF_pF, if_neg (by decide)]; exact h.2.1.2.1) (by rw [fsG, gF_pF, if_neg (by decide)]; rfl) (by rw [fsG, gF_pF, if_neg (by decide)]; rfl) (by rw [fsG, gF_pF, if_neg (by decide)]; rfl) rfl rfl rfl rfl rfl rfl rfl rfl
/-! frames of the reference -/
theorem fm_th (g : GH) (x : Int32) : Fr mdL g (pF g 76 0 x) := (Fr.rf _ g).sF (by decide) _ _
theorem fm_rf (g : GH) (w : Nat) : Fr mdL g (rfu g w) := (Fr.rf _ g).sA (by decide) _
theorem fm_pl (g : GH) (L : List En) : Fr mdL g (plA g L) := ((((Fr.rf _ g).sA (by decide) _).sA (by decide) _).sA (by decide) _).sF (by decide) _ _
theorem fm_pushG (g : GH) (d : Nat) (s a b : Int32) (n : Nat) : Fr mdL g (pushG g d s a b n) := (((((Fr.rf _ g).sA (by decide) _).sA (by decide) _).sA (by decide) _).sA (by decide) _).sF (by decide) _ _
theorem fm_push : ∀ (L : List En) (g : GH) (d n : Nat), Fr mdL g (pushL g d n L)
  | [], g, _, _ => Fr.rf _ g
  | x :: L, g, d, n => (fm_pushG g d x.1 x.2.1 x.2.2 n).tr (fm_push L _ d (n + 1))
theorem fm_fs (g : GH) (a b c d e f : Nat → Int32) (x : Int32) : Fr mdL g (fsG g a b c d e f x) := (((((((Fr.rf _ g).sA (by decide) _).sA (by decide) _).sA (by decide) _).sA (by decide) _).sA (by decide) _).sA (by decide) _).sF (by decide) _ _
theorem fm_kg {g g' : GH} (h : KG g g') : Fr mdL g g' := by
  refine ⟨fun a ha => ⟨h.1 a (fun z => ha ?_), fun k => h.2.1 a k (fun z => ha (by rw [z.1]; decide))⟩, fun a ha => h.2.2.1 a (fun z => ha (by rw [z]; decide)) (fun z => ha (by rw [z]; decide))⟩
  simp only [List.mem_cons, List.not_mem_nil, or_false] at z ⊢
  omega
theorem fm_kt {g g' : GH} (h : KT g g') : Fr mdL g g' := by
  refine ⟨fun a ha => ⟨h.1 a (fun z => ha ?_), fun k => h.2.1 a k (fun z => ha (by rw [z.1]; decide))⟩, fun a ha => h.2.2.1 a (fun z => ha (by rw [z]; decide)) (fun z => ha (by rw [z]; decide))⟩
  simp only [List.mem_cons, List.not_mem_nil, or_false] at z ⊢
  omega
theorem MI.sec {g : GH} {y : Sy} (h : MI g y) : ∀ k, k < (yq y).2.length → gA g 78 (60 * 0 + k) = -1 ∨ ∃ s, s < 16 ∧ gA g 78 (60 * 0 + k) = nI s := h.1.sec
theorem okQ_md {g : GH} {d : Nat} {q : Qd} (h : MD g d q) : okQ q := fun x hx => by
  obtain ⟨i, hi, rfl⟩ := List.mem_iff_getElem.mp hx
  have := h.2.2.2.2 i hi
  rw [qS_at (List.getElem?_eq_getElem hi)] at this
  exact this
/-- what findStates tells of the joint state -/
theorem FsP.fit {g g1 : GH} {y : Sy} {b : Bool} {St : Nat → Int32} {N : Nat} {o : Nat → Nat} (h : MI g y) (hs : FsP g 0 (yq y).2.length b g1 St N o) : MI g1 y ∧ Fr mdL g g1 ∧ (b = true → FitQ (yq y) ∧ N = nSt (yq y) ∧ N ≤ 4096 ∧ ∀ i, i < N → ∀ p, p < 32 → St (32 * o i + p) = fSt (yq y) i p) ∧ (b = false → ¬ FitQ (yq y)) := by
  obtain ⟨Od, B, C, M, W, rfl, hN, ho, hy, hn⟩ := hs
  refine ⟨h.fs _ _ _ _ _ _ _, fm_fs _ _ _ _ _ _ _ _, fun hb => ?_, fun hb => ?_⟩
  · have hE := (hy hb).congr (fun f => h.1.st f)
    obtain ⟨a1, a2, a3⟩ := FitQ.is hE hN
    exact ⟨a1, a2, hN, fun i hi p hp => a3 i hi p hp⟩
  · exact FitQ.no ((hn hb).congr (fun f => h.1.st f))
section M72
variable {d0 kd kp rp : Nat} {g : GH} {y : Sy}
theorem m_write (h : MI g y) (s a b : Int32) : ACi mX11_write (d0 + 40) (SS kd kp rp) g [.ref 76, .int s, .int a, .int b] (fun r S' g' => r = (oWrite y s a b).1 ∧ S' = SS kd kp rp ∧ MI g' (oWrite y s a b).2 ∧ Fr mdL g g') := by
  unfold oWrite
  by_cases c1 : insQ s (nI 0) (nI 15) = true
  · rw [if_pos c1]
    by_cases c2 : (yq y).2.length < 60
    · rw [if_pos c2]
      refine (c_mwrite2 (d0 := d0 + 39) s a b (yq y).2.length c1 h.1.1 c2).mono (fun r S' g' => ?_)
      rintro ⟨rfl, rfl, rfl⟩
      obtain ⟨j, hj, rfl⟩ := (insQ_ok (by decide)).mp c1
      have hm : ¬ nI j = -1 := nI_m1 (by omega)
      have := (h.th (nI 0)).push [(nI j, a, b)] (fun x hx => by simp at hx; subst hx; exact ok_n (by omega) _ _) (by simp; omega)
      have e : wrA (yw y) [(nI j, a, b)] = yw y + nI 1 := by
        show yw y + (if nI j = -1 then nI 0 else nI 1) = _
        rw [if_neg hm]
      rw [e] at this
      exact ⟨rfl, rfl, this, (fm_th g _).tr (fm_pushG _ _ _ _ _ _)⟩
    · rw [if_neg c2]
      refine (c_mwrite3 (d0 := d0 + 39) s a b c1 (by rw [h.1.1, show (yq y).2.length = 60 by have := h.1.2.1; omega])).mono (fun r S' g' => ?_)
      rintro ⟨rfl, rfl, rfl⟩
      exact ⟨rfl, rfl, (h.th _).rf 6 (by decide), (fm_th g _).tr (fm_rf _ _)⟩
  · rw [if_neg c1]
    refine (c_mwrite1 (d0 := d0 + 39) s a b (Bool.eq_false_iff.mpr c1)).mono (fun r S' g' => ?_)
    rintro ⟨rfl, rfl, rfl⟩
    exact ⟨rfl, rfl, (h.th _).rf 1 (by decide), (fm_th g _).tr (fm_rf _ _)⟩
theorem m_fence (h : MI g y) : ACi mX11_fence (d0 + 40) (SS kd kp rp) g [.ref 76] (fun r S' g' => r = (oFence y).1 ∧ S' = SS kd kp rp ∧ MI g' (oFence y).2 ∧ Fr mdL g g') := by
  unfold oFence
  by_cases c2 : (yq y).2.length < 60
  · rw [if_pos c2]
    refine (c_mfence2 (d0 := d0 + 39) (yq y).2.length h.1.1 c2).mono (fun r S' g' => ?_)
    rintro ⟨rfl, rfl, rfl⟩
    have := (h.th (nI 0)).push [(-1, nI 0, nI 0)] (fun x hx => by simp at hx; subst hx; exact Or.inl rfl) (by simp; omega)
    have e : wrA (yw y) [(-1, nI 0, nI 0)] = yw y := add_n0 _
    rw [e] at this
    exact ⟨rfl, rfl, this, (fm_th g _).tr (fm_pushG _ _ _ _ _ _)⟩
  · rw [if_neg c2]
    refine (c_mfence3 (d0 := d0 + 39) (by rw [h.1.1, show (yq y).2.length = 60 by have := h.1.2.1; omega])).mono (fun r S' g' => ?_)
    rintro ⟨rfl, rfl, rfl⟩
    exact ⟨rfl, rfl, (h.th _).rf 6 (by decide), (fm_th g _).tr (fm_rf _ _)⟩
theorem wct_md (h : MI g y) : wct (gA g 78) (yq y).2.length = wct (qS (yq y).2) (yq y).2.length := wct_congr _ (fun k hk => by
  have := (h.1.2.2.2.1 k hk).1
  rw [show 60 * 0 + k = k by omega] at this
  exact this)
theorem weN_md (h : MI g y) {k : Nat} (hk : k ≤ (yq y).2.length) : weN (gA g 78) k = weN (qS (yq y).2) k ∧ weS (gA g 78) k = weS (qS (yq y).2) k := by
  have e : ∀ j, j < k → gA g 78 j = qS (yq y).2 j := fun j hj => by
    have := (h.1.2.2.2.1 j (by omega)).1
    rw [show 60 * 0 + j = j by omega] at this
    exact this
  exact ⟨weN_congr k e, weS_congr k e⟩
theorem m_flush (h : MI g y) : ACi mX11_flush (d0 + 40) (SS kd kp rp) g [.ref 76] (fun r S' g' => r = (oFlush y).1 ∧ S' = SS kd kp rp ∧ MI g' (oFlush y).2 ∧ Fr mdL g g') := by
  have hs := h.sec
  simp only [Nat.mul_zero, Nat.zero_add] at hs
  refine (c_mflush (d0 := d0 + 39) (yq y).2.length h.1.1 h.1.2.1 hs).mono (fun r S' g' => ?_)
  rintro ⟨rfl, rfl, rfl⟩
  refine ⟨by rw [wct_md h]; rfl, rfl, (h.th (nI 0)).set (q' := (flQ (yq y), [])) (w' := yw y) (MD.flush (h.th (nI 0)).1) (h.th (nI 0)).2.1.2.1 rfl rfl rfl rfl rfl rfl rfl rfl rfl rfl rfl, ((fm_th g _).sA (by decide) _).sA (by decide) _⟩
theorem m_entry (h : MI g y) (i w : Int32) : ACi mX11_entry (d0 + 40) (SS kd kp rp) g [.ref 76, .int i, .int w] (fun r S' g' => r = (oEntry y i w).1 ∧ S' = SS kd kp rp ∧ MI g' (oEntry y i w).2 ∧ Fr mdL g g') := by
  have h60 := h.1.2.1
  unfold oEntry
  rcases idx_br (i := i) (n := (yq y).2.length) (by omega) with ⟨c1, j, hj, rfl⟩ | ⟨c1, c2⟩
  · rw [if_pos c1, ix_n (by omega)]
    refine (c_mentry2 (d0 := d0 + 39) j (yq y).2.length w h.1.1 h60 hj).mono (fun r S' g' => ?_)
    rintro ⟨rfl, rfl, rfl⟩
    refine ⟨?_, rfl, h.th _, fm_th g _⟩
    obtain ⟨e1, e2, e3⟩ := h.1.2.2.2.1 j hj
    rw [show 60 * 0 + j = j by omega] at e1 e2 e3
    unfold entR entQ
    rw [e1, e2, e3, (weN_md h (k := j) (by omega)).1]
  · rw [if_neg (by rw [c1]; decide)]
    refine (c_mentry1 (d0 := d0 + 39) i w (yq y).2.length h.1.1 c1).mono (fun r S' g' => ?_)
    rintro ⟨rfl, rfl, rfl⟩
    exact ⟨rfl, rfl, (h.th _).rf 1 (by decide), (fm_th g _).tr (fm_rf _ _)⟩
theorem m_states (h : MI g y) : ACi mX11_states (d0 + 40) (SS kd kp rp) g [.ref 76] (fun r S' g' => r = (oStates y).1 ∧ S' = SS kd kp rp ∧ MI g' (oStates y).2 ∧ Fr mdL g g') := by
  unfold oStates
  refine (c_mstates (d0 := d0 + 36) (yq y).2.length h.1.1 h.1.2.1 h.sec).mono (fun r S' g' => ?_)
  rintro ⟨rfl, b, g1, St, N, o, hF, hy, hn⟩
  obtain ⟨m1, f1, f2, f3⟩ := FsP.fit (h.th (nI 0)) hF
  cases b with
  | true =>
    obtain ⟨rfl, rfl⟩ := hy rfl
    obtain ⟨a1, a2, -⟩ := f2 rfl
    rw [if_pos a1]
    exact ⟨by rw [a2], rfl, m1, (fm_th g _).tr f1⟩
  | false =>
    obtain ⟨rfl, rfl⟩ := hn rfl
    rw [if_neg (f3 rfl)]
    exact ⟨rfl, rfl, m1.rf 6 (by decide), ((fm_th g _).tr f1).tr (fm_rf _ _)⟩
theorem m_fall (h : MI g y) (i : Int32) : ACi mX11_fall (d0 + 40) (SS kd kp rp) g [.ref 76, .int i] (fun r S' g' => r = (oFall y i).1 ∧ S' = SS kd kp rp ∧ MI g' (oFall y i).2 ∧ Fr mdL g g') := by
  unfold oFall
  refine (c_mfall (d0 := d0 + 36) (yq y).2.length i h.1.1 h.1.2.1 h.sec).mono (fun r S' g' => ?_)
  rintro ⟨rfl, b, g1, St, N, o, hF, hno, hn1, hy⟩
  obtain ⟨m1, f1, f2, f3⟩ := FsP.fit (h.th (nI 0)) hF
  cases b with
  | true =>
    obtain ⟨a1, a2, a3, a4⟩ := f2 rfl
    rw [if_pos a1]
    subst a2
    rcases idx_br (i := i) (n := nSt (yq y)) (by omega) with ⟨c1, j, hj, rfl⟩ | ⟨c1, c2⟩
    · rw [if_pos c1, ix_n (by omega)]
      obtain ⟨rfl, P, p1, p2, rfl⟩ := hy rfl j hj rfl
      refine ⟨rfl, rfl, ?_, ((((fm_th g _).tr f1).sA (by decide) _).sA (by decide) _).sF (by decide) _ _⟩
      obtain ⟨Od, B, C, M, W, rfl, -⟩ := hF
      have h81 : gA g 81 0 = gA g 81 0 := rfl
      obtain ⟨h1, ⟨h2, h2', h2''⟩, h3, h4, h5, h6⟩ := m1
      refine ⟨⟨?_, by simp, fun p hp => ?_, fun k hk => absurd hk (by simp), fun k hk => absurd hk (by simp)⟩, ⟨h2, h2', ?_⟩, h3, h4, h5, h6⟩
      · rw [gA_pF, gA_pA, if_pos rfl, upd, if_pos rfl]
        rfl
      · rw [gA_pF, gA_pA, if_neg (by decide), gA_pA, if_pos rfl, show 32 * 0 + p = p by omega, p1 p hp]
        exact a4 j hj p hp
      · rw [gF_pF, if_pos ⟨rfl, rfl⟩, h.2.1.2.2]
    · rw [if_neg (by rw [c1]; decide)]
      obtain ⟨rfl, rfl⟩ := hn1 rfl c1
      exact ⟨rfl, rfl, m1.rf 1 (by decide), ((fm_th g _).tr f1).tr (fm_rf _ _)⟩
  | false =>
    obtain ⟨rfl, rfl⟩ := hno rfl
    rw [if_neg (f3 rfl)]
    exact ⟨rfl, rfl, m1.rf 6 (by decide), ((fm_th g _).tr f1).tr (fm_rf _ _)⟩
end M72
