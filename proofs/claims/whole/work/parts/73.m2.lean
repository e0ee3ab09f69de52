/-! the reference over the joint state: stores, scripts, going through -/
section M73
variable {d0 kd kp rp : Nat} {g : GH} {y : Sy}
theorem m_store (h : MI g y) (x : Int32) : ACi mX11_store (d0 + 40) (SS kd kp rp) g [.ref 76, .int x] (fun r S' g' => r = (oStore y x).1 ∧ S' = SS kd kp rp ∧ MI g' (oStore y x).2 ∧ Fr mdL g g') := by
  unfold oStore
  by_cases c1 : insQ x (nI 0) (nI 2) = true
  · rw [if_pos c1]
    obtain ⟨st, hst, rfl⟩ := (insQ_ok (by decide)).mp c1
    rw [ix_n (by omega)]
    refine (c_mstore2 (d0 := d0 + 39) st (by omega)).mono (fun r S' g' => ?_)
    rintro ⟨rfl, ⟨P, p1, p2, rfl⟩, rfl⟩
    refine ⟨rfl, rfl, ?_, (((fm_th g _).sA (by decide) _).sA (by decide) _).sF (by decide) _ _⟩
    obtain ⟨h1, ⟨h2, h2', h2''⟩, h3, h4, h5, h6⟩ := h.th (nI 0)
    refine ⟨⟨?_, by simp, fun p hp => ?_, fun k hk => absurd hk (by simp), fun k hk => absurd hk (by simp)⟩, ⟨?_, ?_, ?_⟩, h3, h4, ?_, h6⟩
    · rw [gA_pF, gA_pA, if_pos rfl, upd, if_pos rfl]
      rfl
    · rw [gA_pF, gA_pA, if_neg (by decide), gA_pA, if_pos rfl, show 32 * 0 + p = p by omega, p1 p hp]
      rfl
    · rw [gF_pF, if_pos ⟨rfl, rfl⟩]
    · rw [gF_pF, if_neg (by decide)]
      exact h2'
    · rw [gF_pF, if_neg (by decide)]
      exact h2''
    · unfold MSc at h5 ⊢
      rw [gF_pF, if_neg (by decide)]
      exact h5
  · rw [if_neg c1]
    refine (c_mstore1 (d0 := d0 + 39) x (Bool.eq_false_iff.mpr c1)).mono (fun r S' g' => ?_)
    rintro ⟨rfl, rfl, rfl⟩
    exact ⟨rfl, rfl, (h.th _).rf 2 (by decide), (fm_th g _).tr (fm_rf _ _)⟩
theorem MI.sp (h : MI g y) {st : Nat} (hst : st < 3) : ∀ f, f < 4 → gA g 82 (4 * st + f) = spB st (ys y st) (4 * st + f) := fun f hf => (h.2.2.1 st hst f hf).trans (SpM.own st (ys y st) f hf).symm
theorem m_put (h : MI g y) (hy : Yok y) (x : Int32) (v : Int64) : ACi mX11_put (d0 + 40) (SS kd kp rp) g [.ref 76, .int x, .long v] (fun r S' g' => r = (oPut y x v).1 ∧ S' = SS kd kp rp ∧ MI g' (oPut y x v).2 ∧ Fr mdL g g') := by
  unfold oPut
  rcases hy.1 with z | ⟨st, hst, z⟩
  · rw [if_pos z]
    refine (c_mput1 (d0 := d0 + 39) x v (h.2.1.1.trans z)).mono (fun r S' g' => ?_)
    rintro ⟨rfl, rfl, rfl⟩
    exact ⟨rfl, rfl, (h.th _).rf 5 (by decide), (fm_th g _).tr (fm_rf _ _)⟩
  · have hst1 : yst y = st := by show ix (yk y) = st; rw [z, ix_n (by omega)]
    have hsp1 : ysp y = spB st (ys y st) := by show spB (yst y) (ys y (yst y)) = _; rw [hst1]
    have e6 : gF g 76 6 = nI st := h.2.1.1.trans z
    rw [if_neg (by rw [z]; exact nI_m1 (by omega)), hst1, hsp1]
    by_cases c1 : insQ x (nI 0) (nI 2) = true
    · rw [if_pos c1]
      obtain ⟨k, hk, rfl⟩ := (insQ_ok (by decide)).mp c1
      rw [ix_n (by omega)]
      have hL : putL g st (yq y).2.length k v none = chgQ (yq y) st (spB st (ys y st)) k v none := (h.1.chg st (gA g 82) k v none).trans (chgQ_sp hst (h.sp hst) k v none)
      unfold oTake
      by_cases c2 : (yq y).2.length + (chgQ (yq y) st (spB st (ys y st)) k v none).length ≤ 60
      · rw [if_pos c2]
        refine (c_mput3 (d0 := d0 + 35) k v st (yq y).2.length hst e6 (by omega) h.1.1 (by rw [hL]; exact c2)).mono (fun r S' g' => ?_)
        rintro ⟨rfl, rfl, rfl⟩
        rw [hL]
        exact ⟨rfl, rfl, ((h.th (nI 0)).pl _).push _ (chg_ok (by omega) (fun l e => by cases e)) c2, ((fm_th g _).tr (fm_pl _ _)).tr (fm_push _ _ _ _)⟩
      · rw [if_neg c2]
        refine (c_mput4 (d0 := d0 + 35) k v st (yq y).2.length hst e6 (by omega) h.1.1 h.1.2.1 (by rw [hL]; omega)).mono (fun r S' g' => ?_)
        rintro ⟨rfl, rfl, rfl⟩
        exact ⟨rfl, rfl, ((h.th (nI 0)).pl _).rf 6 (by decide), ((fm_th g _).tr (fm_pl _ _)).tr (fm_rf _ _)⟩
    · rw [if_neg c1]
      refine (c_mput2 (d0 := d0 + 39) x v st hst e6 (Bool.eq_false_iff.mpr c1)).mono (fun r S' g' => ?_)
      rintro ⟨rfl, rfl, rfl⟩
      exact ⟨rfl, rfl, (h.th _).rf 1 (by decide), (fm_th g _).tr (fm_rf _ _)⟩
theorem m_move (h : MI g y) (hy : Yok y) (x x' : Int32) : ACi mX11_move (d0 + 40) (SS kd kp rp) g [.ref 76, .int x, .int x'] (fun r S' g' => r = (oMove y x x').1 ∧ S' = SS kd kp rp ∧ MI g' (oMove y x x').2 ∧ Fr mdL g g') := by
  unfold oMove
  rcases hy.1 with z | ⟨st, hst, z⟩
  · rw [if_pos z]
    refine (c_mmove1 (d0 := d0 + 39) x x' (h.2.1.1.trans z)).mono (fun r S' g' => ?_)
    rintro ⟨rfl, rfl, rfl⟩
    exact ⟨rfl, rfl, (h.th _).rf 5 (by decide), (fm_th g _).tr (fm_rf _ _)⟩
  · have hst1 : yst y = st := by show ix (yk y) = st; rw [z, ix_n (by omega)]
    have hsp1 : ysp y = spB st (ys y st) := by show spB (yst y) (ys y (yst y)) = _; rw [hst1]
    have e6 : gF g 76 6 = nI st := h.2.1.1.trans z
    rw [if_neg (by rw [z]; exact nI_m1 (by omega)), hst1, hsp1]
    by_cases c1 : twoK x x' = true
    · rw [if_pos c1]
      obtain ⟨t1, t2, t3⟩ := twoK_ok c1
      obtain ⟨k, hk, rfl⟩ := (insQ_ok (by decide)).mp t1
      obtain ⟨l, hl, rfl⟩ := (insQ_ok (by decide)).mp t2
      rw [ix_n (by omega), ix_n (by omega)]
      have hkl : k ≠ l := fun e => t3 (by rw [e])
      have hL : movL g st (yq y).2.length k l = chgQ (yq y) st (spB st (ys y st)) l (keyQ (yq y) st k) (some k) := by
        have e1 := h.1.chg st (gA g 82) l (keyQ (yq y) st k) (some k)
        have e2 := h.1.key st (k := k) (by omega)
        unfold movL
        rw [e2, e1, chgQ_sp hst (h.sp hst)]
      have hlz : ∀ m, some k = some m → m < 3 := fun m e => by cases e; omega
      unfold oTake
      by_cases c2 : (yq y).2.length + (chgQ (yq y) st (spB st (ys y st)) l (keyQ (yq y) st k) (some k)).length ≤ 60
      · rw [if_pos c2]
        refine (c_mmove3 (d0 := d0 + 35) k l st (yq y).2.length hst e6 (by omega) (by omega) hkl h.1.1 (by rw [hL]; exact c2)).mono (fun r S' g' => ?_)
        rintro ⟨rfl, rfl, rfl⟩
        rw [hL]
        exact ⟨rfl, rfl, ((h.th (nI 0)).pl _).push _ (chg_ok (by omega) hlz) c2, ((fm_th g _).tr (fm_pl _ _)).tr (fm_push _ _ _ _)⟩
      · rw [if_neg c2]
        refine (c_mmove4 (d0 := d0 + 35) k l st (yq y).2.length hst e6 (by omega) (by omega) hkl h.1.1 h.1.2.1 (by rw [hL]; omega)).mono (fun r S' g' => ?_)
        rintro ⟨rfl, rfl, rfl⟩
        exact ⟨rfl, rfl, ((h.th (nI 0)).pl _).rf 6 (by decide), ((fm_th g _).tr (fm_pl _ _)).tr (fm_rf _ _)⟩
    · rw [if_neg c1]
      refine (c_mmove2 (d0 := d0 + 39) x x' st hst e6 (Bool.eq_false_iff.mpr c1)).mono (fun r S' g' => ?_)
      rintro ⟨rfl, rfl, rfl⟩
      exact ⟨rfl, rfl, (h.th _).rf 1 (by decide), (fm_th g _).tr (fm_rf _ _)⟩
theorem m_rise (h : MI g y) (hy : Yok y) : ACi mX11_rise (d0 + 40) (SS kd kp rp) g [.ref 76] (fun r S' g' => r = (oRise y).1 ∧ S' = SS kd kp rp ∧ MI g' (oRise y).2 ∧ Fr mdL g g') := by
  unfold oRise
  rcases hy.1 with z | ⟨st, hst, z⟩
  · rw [if_pos z]
    refine (c_mrise1 (d0 := d0 + 39) (h.2.1.1.trans z)).mono (fun r S' g' => ?_)
    rintro ⟨rfl, rfl, rfl⟩
    exact ⟨rfl, rfl, (h.th _).rf 5 (by decide), (fm_th g _).tr (fm_rf _ _)⟩
  · have hst1 : yst y = st := by show ix (yk y) = st; rw [z, ix_n (by omega)]
    have hsp1 : ysp y = spB st (ys y st) := by show spB (yst y) (ys y (yst y)) = _; rw [hst1]
    have e6 : gF g 76 6 = nI st := h.2.1.1.trans z
    rw [if_neg (by rw [z]; exact nI_m1 (by omega)), hst1, hsp1]
    by_cases c1 : 0 < (yq y).2.length
    · rw [if_pos c1]
      refine (c_mrise2 (d0 := d0 + 39) st (yq y).2.length hst e6 h.1.1 c1 h.1.2.1).mono (fun r S' g' => ?_)
      rintro ⟨rfl, rfl, rfl⟩
      exact ⟨rfl, rfl, (h.th _).rf 5 (by decide), (fm_th g _).tr (fm_rf _ _)⟩
    · rw [if_neg c1]
      have h0 : (yq y).2.length = 0 := by omega
      have hL : rsL g st = risQ (yq y).1 st (spB st (ys y st)) := by
        rw [← risQ_sp (h.sp hst)]
        have e : ∀ p, p < 32 → gA g 77 (32 * 0 + p) = (yq y).1 p := h.1.2.2.1
        unfold rsL risQ
        simp only [rdA]
        rw [show gA g 77 (32 * 0 + 2 * 3 + 0) = _ from e 6 (by decide), show gA g 77 (32 * 0 + 2 * 3 + 1) = _ from e 7 (by decide), show gA g 77 (32 * 0 + 2 * 4 + 0) = _ from e 8 (by decide), show gA g 77 (32 * 0 + 2 * 4 + 1) = _ from e 9 (by decide), show gA g 77 (32 * 0 + 2 * 5 + 0) = _ from e 10 (by decide), show gA g 77 (32 * 0 + 2 * 5 + 1) = _ from e 11 (by decide), show gA g 77 (32 * 0 + 2 * 6 + 0) = _ from e 12 (by decide), show gA g 77 (32 * 0 + 2 * 6 + 1) = _ from e 13 (by decide)]
      have h5 : (risQ (yq y).1 st (spB st (ys y st))).length ≤ 5 := ris_len _ _ _ _ _ _ _ _ _ _
      unfold oTake
      rw [if_pos (by omega)]
      refine (c_mrise3 (d0 := d0 + 36) st hst e6 (by rw [h.1.1, h0])).mono (fun r S' g' => ?_)
      rintro ⟨rfl, rfl, rfl⟩
      rw [hL]
      have hp := ((h.th (nI 0)).pl (risQ (yq y).1 st (spB st (ys y st)))).push (risQ (yq y).1 st (spB st (ys y st))) (ris_ok _ _ _ _ _ _ _ _ _ _) (by omega)
      rw [h0] at hp
      exact ⟨rfl, rfl, hp, ((fm_th g _).tr (fm_pl _ _)).tr (fm_push _ _ _ _)⟩
theorem m_isSound (h : MI g y) (hy : Yok y) : ACi mX11_isSound (d0 + 40) (SS kd kp rp) g [.ref 76] (fun r S' g' => r = bI (oSound y) ∧ S' = SS kd kp rp ∧ MI g' y ∧ Fr mdL g g') := by
  unfold oSound
  rcases hy.1 with z | ⟨st, hst, z⟩
  · rw [if_pos z]
    refine (c_misSound1 (d0 := d0 + 37) (h.2.1.1.trans z)).mono (fun r S' g' => ?_)
    rintro ⟨rfl, rfl, rfl⟩
    exact ⟨rfl, rfl, h.th _, fm_th g _⟩
  · have hst1 : yst y = st := by show ix (yk y) = st; rw [z, ix_n (by omega)]
    rw [if_neg (by rw [z]; exact nI_m1 (by omega)), hst1]
    refine (c_misSound2 (d0 := d0 + 37) st (yq y).2.length hst (h.2.1.1.trans z) h.1.1 h.1.2.1).mono (fun r S' g' => ?_)
    rintro ⟨rfl, rfl, rfl⟩
    refine ⟨?_, rfl, h.th _, fm_th g _⟩
    rw [h.1.rd (s := 3) (p := 0) (by decide) (by decide), h.1.rd (s := 3) (p := 1) (by decide) (by decide), h.1.ver]
theorem MI.add (h : MI g y) (a : Ac) (w k l : Int32) (v : Int64) (h8 : (yA y).length < 8) (ha : okA a) (hw : w = nI a.1) (h0 : a.1 = 0 → k = nI a.2.1 ∧ v = a.2.2.2) (h1 : a.1 = 1 → k = nI a.2.1 ∧ l = nI a.2.2.1) : MI (addG (pF g 76 0 (nI 0)) w k l v (yA y).length) (sA y (yA y ++ [a])) := by
  obtain ⟨m1, ⟨m2, m2', m2''⟩, m3, m4, m5, m6⟩ := h.th (nI 0)
  refine ⟨m1.keep rfl rfl rfl rfl rfl, ⟨?_, ?_, ?_⟩, m3, m4, ⟨?_, ?_, fun n b hb => ?_⟩, m6⟩
  · rw [addG, gF_pF, if_neg (by decide)]
    exact m2
  · rw [addG, gF_pF, if_neg (by decide)]
    exact m2'
  · rw [addG, gF_pF, if_neg (by decide)]
    exact m2''
  · rw [addG, gF_pF, if_pos ⟨rfl, rfl⟩, List.length_append, List.length_singleton]
  · rw [List.length_append, List.length_singleton]
    omega
  · by_cases z : n = (yA y).length
    · subst z
      rw [List.getElem?_concat_length] at hb
      cases hb
      unfold addG
      simp only [gF_pF, gF_pA, gF_pL, gA_pF, gA_pA, gA_pL, gL_pF, gL_pA, gL_pL, reduceIte, Nat.reduceEqDiff, and_false, false_and, and_true, true_and, and_self, upd, vp_updL]
      exact ⟨ha, hw, fun z => ⟨(h0 z).1, (h0 z).2⟩, fun z => h1 z⟩
    · have hn : n < (yA y).length := by
        have : n < (yA y ++ [a]).length := (List.getElem?_eq_some_iff.mp hb).1
        rw [List.length_append, List.length_singleton] at this
        omega
      rw [List.getElem?_append_left hn] at hb
      have := m5.2.2 n b hb
      unfold addG
      simp only [gF_pF, gF_pA, gF_pL, gA_pF, gA_pA, gA_pL, gL_pF, gL_pA, gL_pL] at this
      simp only [gF_pF, gF_pA, gF_pL, gA_pF, gA_pA, gA_pL, gL_pF, gL_pA, gL_pL, reduceIte, Nat.reduceEqDiff, and_false, false_and, and_true, true_and, and_self, upd, vp_updL]
      rw [if_neg z, if_neg z, if_neg z, if_neg z]
      exact this
theorem fm_add (g : GH) (w k l : Int32) (v : Int64) (n : Nat) : Fr mdL g (addG g w k l v n) := (((((Fr.rf _ g).sA (by decide) _).sA (by decide) _).sA (by decide) _).sL (by decide) _).sF (by decide) _ _
theorem m_addPut (h : MI g y) (x : Int32) (v : Int64) : ACi mX11_addPut (d0 + 40) (SS kd kp rp) g [.ref 76, .int x, .long v] (fun r S' g' => r = (oAddPut y x v).1 ∧ S' = SS kd kp rp ∧ MI g' (oAddPut y x v).2 ∧ Fr mdL g g') := by
  have h22 := h.2.2.2.2.1.1
  have h8 := h.2.2.2.2.1.2.1
  unfold oAddPut
  by_cases c1 : insQ x (nI 0) (nI 2) = true
  · rw [if_pos c1]
    unfold oAdd
    by_cases c2 : (yA y).length < 8
    · rw [if_pos c2]
      refine (c_maddPut3 (d0 := d0 + 38) x v (yA y).length c1 h22 c2).mono (fun r S' g' => ?_)
      rintro ⟨rfl, rfl, rfl⟩
      obtain ⟨k, hk, rfl⟩ := (insQ_ok (by decide)).mp c1
      rw [ix_n (by omega)]
      exact ⟨rfl, rfl, h.add (0, k, 0, v) (nI 0) (nI k) (-9) v c2 ⟨(by decide : 0 < 3), fun _ => (by omega : k < 3), fun z => by cases z⟩ rfl (fun _ => ⟨rfl, rfl⟩) (fun z => by cases z), (fm_th g _).tr (fm_add _ _ _ _ _ _)⟩
    · rw [if_neg c2]
      refine (c_maddPut2 (d0 := d0 + 38) x v c1 (by rw [h22, show (yA y).length = 8 by omega])).mono (fun r S' g' => ?_)
      rintro ⟨rfl, rfl, rfl⟩
      exact ⟨rfl, rfl, (h.th _).rf 6 (by decide), (fm_th g _).tr (fm_rf _ _)⟩
  · rw [if_neg c1]
    refine (c_maddPut1 (d0 := d0 + 38) x v (Bool.eq_false_iff.mpr c1)).mono (fun r S' g' => ?_)
    rintro ⟨rfl, rfl, rfl⟩
    exact ⟨rfl, rfl, (h.th _).rf 1 (by decide), (fm_th g _).tr (fm_rf _ _)⟩
theorem m_addMove (h : MI g y) (x x' : Int32) : ACi mX11_addMove (d0 + 40) (SS kd kp rp) g [.ref 76, .int x, .int x'] (fun r S' g' => r = (oAddMove y x x').1 ∧ S' = SS kd kp rp ∧ MI g' (oAddMove y x x').2 ∧ Fr mdL g g') := by
  have h22 := h.2.2.2.2.1.1
  have h8 := h.2.2.2.2.1.2.1
  unfold oAddMove
  by_cases c1 : twoK x x' = true
  · rw [if_pos c1]
    unfold oAdd
    by_cases c2 : (yA y).length < 8
    · rw [if_pos c2]
      refine (c_maddMove3 (d0 := d0 + 38) x x' (yA y).length c1 h22 c2).mono (fun r S' g' => ?_)
      rintro ⟨rfl, rfl, rfl⟩
      obtain ⟨t1, t2, t3⟩ := twoK_ok c1
      obtain ⟨k, hk, rfl⟩ := (insQ_ok (by decide)).mp t1
      obtain ⟨l, hl, rfl⟩ := (insQ_ok (by decide)).mp t2
      rw [ix_n (by omega), ix_n (by omega)]
      exact ⟨rfl, rfl, h.add (1, k, l, 0) (nI 1) (nI k) (nI l) 0 c2 ⟨(by decide : 1 < 3), (fun z => by cases z), fun _ => ⟨(by omega : k < 3), (by omega : l < 3), fun z => t3 (by rw [show k = l from z])⟩⟩ rfl (fun z => by cases z) (fun _ => ⟨rfl, rfl⟩), (fm_th g _).tr (fm_add _ _ _ _ _ _)⟩
    · rw [if_neg c2]
      refine (c_maddMove2 (d0 := d0 + 38) x x' c1 (by rw [h22, show (yA y).length = 8 by omega])).mono (fun r S' g' => ?_)
      rintro ⟨rfl, rfl, rfl⟩
      exact ⟨rfl, rfl, (h.th _).rf 6 (by decide), (fm_th g _).tr (fm_rf _ _)⟩
  · rw [if_neg c1]
    refine (c_maddMove1 (d0 := d0 + 38) x x' (Bool.eq_false_iff.mpr c1)).mono (fun r S' g' => ?_)
    rintro ⟨rfl, rfl, rfl⟩
    exact ⟨rfl, rfl, (h.th _).rf 1 (by decide), (fm_th g _).tr (fm_rf _ _)⟩
theorem m_addSure (h : MI g y) : ACi mX11_addSure (d0 + 40) (SS kd kp rp) g [.ref 76] (fun r S' g' => r = (oAddSure y).1 ∧ S' = SS kd kp rp ∧ MI g' (oAddSure y).2 ∧ Fr mdL g g') := by
  have h22 := h.2.2.2.2.1.1
  have h8 := h.2.2.2.2.1.2.1
  unfold oAddSure oAdd
  by_cases c2 : (yA y).length < 8
  · rw [if_pos c2]
    refine (c_maddSure3 (d0 := d0 + 38) (yA y).length h22 c2).mono (fun r S' g' => ?_)
    rintro ⟨rfl, rfl, rfl⟩
    exact ⟨rfl, rfl, h.add (2, 0, 0, 0) (nI 2) (-9) (-9) 0 c2 ⟨(by decide : 2 < 3), (fun z => by cases z), (fun z => by cases z)⟩ rfl (fun z => by cases z) (fun z => by cases z), (fm_th g _).tr (fm_add _ _ _ _ _ _)⟩
  · rw [if_neg c2]
    refine (c_maddSure2 (d0 := d0 + 38) (by rw [h22, show (yA y).length = 8 by omega])).mono (fun r S' g' => ?_)
    rintro ⟨rfl, rfl, rfl⟩
    exact ⟨rfl, rfl, (h.th _).rf 6 (by decide), (fm_th g _).tr (fm_rf _ _)⟩
theorem m_clear (h : MI g y) : ACi mX11_clear (d0 + 40) (SS kd kp rp) g [.ref 76] (fun r S' g' => r = (oClear y).1 ∧ S' = SS kd kp rp ∧ MI g' (oClear y).2 ∧ Fr mdL g g') := by
  refine (c_mclear (d0 := d0 + 40)).mono (fun r S' g' => ?_)
  rintro ⟨rfl, rfl, rfl⟩
  refine ⟨h.2.2.2.2.1.1, rfl, ?_, (fm_th g _).sF (by decide) _ _⟩
  obtain ⟨m1, ⟨m2, m2', m2''⟩, m3, m4, m5, m6⟩ := h.th (nI 0)
  refine ⟨m1.keep rfl rfl rfl rfl rfl, ⟨?_, ?_, ?_⟩, m3, m4, ⟨?_, Nat.zero_le _, fun n a ha => by cases ha⟩, m6⟩
  · rw [gF_pF, if_neg (by decide)]
    exact m2
  · rw [gF_pF, if_neg (by decide)]
    exact m2'
  · rw [gF_pF, if_neg (by decide)]
    exact m2''
  · rw [gF_pF, if_pos ⟨rfl, rfl⟩]
    rfl
theorem MI.kg {g' : GH} (h : MI g y) (k : KG g g') : MI g' y := by
  refine h.set (q' := yq y) (w' := yw y) ?_ ((k.2.1 _ _ (by decide)).trans h.2.1.2.1) (k.2.1 _ _ (by decide)) (k.2.1 _ _ (by decide)) (k.2.1 _ _ (by decide)) (k.1 _ (by decide)) (k.1 _ (by decide)) (k.1 _ (by decide)) (k.1 _ (by decide)) (k.1 _ (by decide)) (k.1 _ (by decide)) (k.1 _ (by decide)) (k.2.2.1 _ (by decide) (by decide))
  obtain ⟨m1, m2, m3, m4, m5⟩ := h.1
  refine ⟨k.2.2.2.2.2.trans m1, m2, fun p hp => ?_, fun j hj => ?_, m5⟩
  · rw [show 32 * 0 + p = p by omega, k.2.2.2.1 p hp]
    have := m3 p hp
    rw [show 32 * 0 + p = p by omega] at this
    exact this
  · rw [show 60 * 0 + j = j by omega]
    have := m4 j hj
    rw [show 60 * 0 + j = j by omega] at this
    obtain ⟨a1, a2, a3⟩ := k.2.2.2.2.1 j (by omega)
    rw [a1, a2, a3]
    exact this
theorem m_through (h : MI g y) (x : Int32) : ACi mX11_through (d0 + 40) (SS kd kp rp) g [.ref 76, .int x] (fun r S' g' => r = (oThrough y x).1 ∧ S' = SS kd kp rp ∧ MI g' (oThrough y x).2 ∧ Fr mdL g g') := by
  unfold oThrough
  by_cases c1 : insQ x (nI 0) (nI 2) = true
  · rw [if_pos c1]
    obtain ⟨st, hst, rfl⟩ := (insQ_ok (by decide)).mp c1
    rw [ix_n (by omega)]
    have hw := walkM_of (A := yA y) (by omega : st < 3) (h.2.2.1 st (by omega))
    match hz : walkM (yA y) st (ys y st) with
    | none =>
      refine (c_mthrough2 (d0 := d0 + 32) st (yA y) (by omega) h.2.2.2.2.1 (hw.trans hz)).mono (fun r S' g' => ?_)
      rintro ⟨rfl, ⟨g1, k1, rfl⟩, rfl⟩
      exact ⟨rfl, rfl, ((h.th (nI 0)).kg k1).rf 6 (by decide), ((fm_th g _).tr (fm_kg k1)).tr (fm_rf _ _)⟩
    | some rp' =>
      refine (c_mthrough3 (d0 := d0 + 32) st (yA y) rp' (by omega) h.2.2.2.2.1 (hw.trans hz)).mono (fun r S' g' => ?_)
      rintro ⟨rfl, k1, -, k3, rfl⟩
      refine ⟨rfl, rfl, ?_, fm_kt k1⟩
      obtain ⟨⟨m1, m2, m3, m4, m5⟩, ⟨n2, n2', n2''⟩, n3, n4, n5, n6⟩ := h
      refine ⟨⟨k1.2.2.2.2.2.trans m1, m2, fun p hp => ?_, fun j hj => ?_, m5⟩, ⟨(k1.2.1 _ _ (by decide)).trans n2, (k1.2.1 _ _ (by decide)).trans n2', (k1.2.1 _ _ (by decide)).trans n2''⟩, by rw [k1.1 82 (by decide)]; exact n3, by rw [k1.1 83 (by decide)]; exact n4, ?_, k3⟩
      · rw [show 32 * 0 + p = p by omega, k1.2.2.2.1 p hp]
        have := m3 p hp
        rw [show 32 * 0 + p = p by omega] at this
        exact this
      · rw [show 60 * 0 + j = j by omega]
        have := m4 j hj
        rw [show 60 * 0 + j = j by omega] at this
        have hj' : j < (yq y).2.length := hj
        obtain ⟨a1, a2, a3⟩ := k1.2.2.2.2.1 j (by omega)
        rw [a1, a2, a3]
        exact this
      · unfold MSc at n5 ⊢
        rw [k1.2.1 76 22 (by decide), k1.1 93 (by decide), k1.1 94 (by decide), k1.1 95 (by decide), k1.2.2.1 96 (by decide) (by decide)]
        exact n5
  · rw [if_neg c1]
    refine (c_mthrough1 (d0 := d0 + 39) x (Bool.eq_false_iff.mpr c1)).mono (fun r S' g' => ?_)
    rintro ⟨rfl, rfl, rfl⟩
    exact ⟨rfl, rfl, (h.th _).rf 2 (by decide), (fm_th g _).tr (fm_rf _ _)⟩
theorem m_gone (h : MI g y) (w : Int32) : ACi mX11_gone (d0 + 40) (SS kd kp rp) g [.ref 76, .int w] (fun r S' g' => r = oGone y w ∧ S' = SS kd kp rp ∧ MI g' y ∧ Fr mdL g g') := by
  unfold oGone
  by_cases c1 : insQ w (nI 0) (nI 6) = true
  · rw [if_pos c1]
    obtain ⟨j, hj, rfl⟩ := (insQ_ok (by decide)).mp c1
    rw [ix_n (by omega)]
    refine (c_mgone2 (d0 := d0 + 39) j (by omega)).mono (fun r S' g' => ?_)
    rintro ⟨rfl, rfl, rfl⟩
    exact ⟨h.2.2.2.2.2.1 j (by omega), rfl, h.th _, fm_th g _⟩
  · rw [if_neg c1]
    refine (c_mgone1 (d0 := d0 + 39) w (Bool.eq_false_iff.mpr c1)).mono (fun r S' g' => ?_)
    rintro ⟨rfl, rfl, rfl⟩
    exact ⟨rfl, rfl, h.th _, fm_th g _⟩
theorem m_bad (h : MI g y) (hy : Yok y) (i w : Int32) : ACi mX11_bad (d0 + 40) (SS kd kp rp) g [.ref 76, .int i, .int w] (fun r S' g' => r = (oBad y i w).1 ∧ S' = SS kd kp rp ∧ MI g' (oBad y i w).2 ∧ Fr mdL g g') := by
  have hN := hy.2.2
  have h1 := hN.1
  have h2 := hN.2.2.1
  have h99 := h.2.2.2.2.2.1 2 (by decide)
  unfold oBad
  rcases idx_br (i := i) (n := min ((yg y).1 2) 50) (by omega) with ⟨c1, j, hj, rfl⟩ | ⟨c1, c2⟩
  · rw [if_pos c1, ix_n (by omega)]
    by_cases c3 : insQ w (nI 0) (nI 9) = true
    · rw [if_pos c3]
      obtain ⟨x, hx, rfl⟩ := (insQ_ok (by decide)).mp c3
      rw [ix_n (by omega)]
      refine (c_mbad3 (d0 := d0 + 39) j ((yg y).1 2) x h99 (by omega) hj (by omega)).mono (fun r S' g' => ?_)
      rintro ⟨rfl, rfl, rfl⟩
      refine ⟨?_, rfl, h.th _, fm_th g _⟩
      have hl := h.2.2.2.2.2.2.1
      have hr : (yg y).2[j]? = some (yg y).2[j] := List.getElem?_eq_getElem (by omega)
      rw [h.2.2.2.2.2.2.2 j _ hr x (by omega), List.getD_eq_getElem?_getD (l := (yg y).2), hr]
      rfl
    · rw [if_neg c3]
      refine (c_mbad2 (d0 := d0 + 39) j ((yg y).1 2) w h99 (by omega) hj (Bool.eq_false_iff.mpr c3)).mono (fun r S' g' => ?_)
      rintro ⟨rfl, rfl, rfl⟩
      exact ⟨rfl, rfl, h.th _, fm_th g _⟩
  · rw [if_neg (by rw [c1]; decide)]
    refine (c_mbad1 (d0 := d0 + 39) i w ((yg y).1 2) h99 (by omega) c1).mono (fun r S' g' => ?_)
    rintro ⟨rfl, rfl, rfl⟩
    exact ⟨rfl, rfl, (h.th _).rf 1 (by decide), (fm_th g _).tr (fm_rf _ _)⟩
theorem m_spare (h : MI g y) (hy : Yok y) (x f : Int32) (on : Bool) : ACi mX11_spare (d0 + 40) (SS kd kp rp) g [.ref 76, .int x, .int f, .int (bI on)] (fun r S' g' => r = bI (oSpare y x f on).1 ∧ S' = SS kd kp rp ∧ MI g' (oSpare y x f on).2 ∧ Fr mdL g g') := by
  unfold oSpare
  by_cases c1 : insQ x (nI 0) (nI 2) = true
  · obtain ⟨st, hst, rfl⟩ := (insQ_ok (by decide)).mp c1
    rw [ix_n (by omega)]
    have hm := ys16 hy (st := st) (by omega)
    have hfn := fnN_le st
    have efn : fct st = fnN st := rfl
    rcases idx_br (i := f) (n := fnN st) (by omega) with ⟨c2, j, hj, rfl⟩ | ⟨c2, c3⟩
    · rw [if_pos ⟨c1, c2⟩, ix_n (by omega)]
      have e82 := h.2.2.1 st (by omega) j (by omega)
      by_cases c4 : (ys y st).testBit j = on
      · refine (c_mspare3 (d0 := d0 + 39) st j on (by omega) hj (by rw [e82, c4])).mono (fun r S' g' => ?_)
        rintro ⟨rfl, rfl, rfl⟩
        have e : sS y (tu (ys y) st (spF (ys y st) j on)) = y := by
          have : tu (ys y) st (spF (ys y st) j on) = ys y := funext fun s => by
            unfold tu
            by_cases z : s = st
            · rw [if_pos z, z, spF, if_pos c4]
            · rw [if_neg z]
          rw [this]
        dsimp only
        rw [e]
        exact ⟨by rw [decide_eq_true c4]; rfl, rfl, h.th _, fm_th g _⟩
      · refine (c_mspare4 (d0 := d0 + 39) st j on (by omega) hj (by rw [e82]; exact fun z => c4 (bI_inj.mp z))).mono (fun r S' g' => ?_)
        rintro ⟨rfl, rfl, rfl⟩
        refine ⟨by rw [decide_eq_false c4]; rfl, rfl, ?_, (fm_th g _).sA (by decide) _⟩
        obtain ⟨m1, m2, m3, m4, m5, m6⟩ := h.th (nI 0)
        refine ⟨m1.keep rfl rfl rfl rfl rfl, m2, fun s hs f' hf' => ?_, m4, m5, m6⟩
        rw [gA_pA, if_pos rfl]
        show upd (gA g 82) (4 * st + j) (bI on) (4 * s + f') = bI ((tu (ys y) st (spF (ys y st) j on) s).testBit f')
        simp only [upd, tu]
        by_cases z : s = st
        · subst z
          rw [if_pos rfl, sp_test (ys y s) j f' hm (by omega) hf' on]
          by_cases z2 : f' = j
          · rw [if_pos (by omega), if_pos z2]
          · rw [if_neg (by omega), if_neg z2]
            exact h.2.2.1 s hs f' hf'
        · rw [if_neg z, if_neg (by omega)]
          exact h.2.2.1 s hs f' hf'
    · rw [if_neg (fun z => absurd (z.2.symm.trans c2) (by decide))]
      refine (c_mspare2 (d0 := d0 + 39) st f on (by omega) c2).mono (fun r S' g' => ?_)
      rintro ⟨rfl, rfl, rfl⟩
      exact ⟨rfl, rfl, h.th _, fm_th g _⟩
  · rw [if_neg (fun z => c1 z.1)]
    refine (c_mspare1 (d0 := d0 + 39) x f on (Bool.eq_false_iff.mpr c1)).mono (fun r S' g' => ?_)
    rintro ⟨rfl, rfl, rfl⟩
    exact ⟨rfl, rfl, h.th _, fm_th g _⟩
theorem m_least (h : MI g y) (hy : Yok y) (x : Int32) : ACi mX11_least (d0 + 40) (SS kd kp rp) g [.ref 76, .int x] (fun r S' g' => r = (oLeast y x).1 ∧ S' = SS kd kp rp ∧ MI g' (oLeast y x).2 ∧ Fr mdL g g') := by
  unfold oLeast
  by_cases c1 : insQ x (nI 0) (nI 2) = true
  · rw [if_pos c1]
    obtain ⟨st, hst, rfl⟩ := (insQ_ok (by decide)).mp c1
    rw [ix_n (by omega)]
    refine (c_mleast2 (d0 := d0 + 32) st (ys y st) (yA y) (by omega) h.2.2.2.2.1 (hy.2.1 st (by omega)) (h.2.2.1 st (by omega))).mono (fun r S' g' => ?_)
    rintro ⟨rfl, g1, k1, a1, a2, a3⟩
    have m1 := (h.th (nI 0)).kg k1
    have f1 := (fm_th g (nI 0)).tr (fm_kg k1)
    by_cases hg : goodM (yA y) st 0
    · rw [if_pos hg]
      obtain ⟨rfl, rfl⟩ := a3 hg
      exact ⟨rfl, rfl, m1, f1⟩
    · rw [if_neg hg]
      match hz : walkM (yA y) st 0 with
      | none =>
        obtain ⟨rfl, rfl⟩ := a1 hz
        exact ⟨rfl, rfl, m1.rf 6 (by decide), f1.tr (fm_rf _ _)⟩
      | some rp' =>
        obtain ⟨rfl, rfl⟩ := a2 rp' hz (fun z => hg ⟨rp', hz, z⟩)
        exact ⟨rfl, rfl, m1.rf 5 (by decide), f1.tr (fm_rf _ _)⟩
  · rw [if_neg c1]
    refine (c_mleast1 (d0 := d0 + 39) x (Bool.eq_false_iff.mpr c1)).mono (fun r S' g' => ?_)
    rintro ⟨rfl, rfl, rfl⟩
    exact ⟨rfl, rfl, (h.th _).rf 2 (by decide), (fm_th g _).tr (fm_rf _ _)⟩
theorem m_digest (h : MI g y) (w : Int32) : ACi mX11_digest (d0 + 40) (SS kd kp rp) g [.ref 76, .int w] (fun r S' g' => r = oDigest y w ∧ S' = SS kd kp rp ∧ MI g' y ∧ Fr mdL g g') := by
  unfold oDigest
  by_cases c1 : insQ w (nI 0) (nI 1) = true
  · rw [if_pos c1]
    obtain ⟨j, hj, rfl⟩ := (insQ_ok (by decide)).mp c1
    refine (c_mdigest2 (d0 := d0 + 39) j (yq y).2.length (by omega) h.1.1 h.1.2.1).mono (fun r S' g' => ?_)
    rintro ⟨rfl, rfl, rfl⟩
    refine ⟨dgA_congr 32 (fun p hp => ?_), rfl, h.th _, fm_th g _⟩
    by_cases z : j = 0
    · subst z
      rw [if_pos rfl, if_pos (by decide)]
      have := h.1.2.2.1 p hp
      rw [show 32 * 0 + p = p by omega] at this
      exact this
    · have : j = 1 := by omega
      subst this
      rw [if_neg (by decide), if_neg (by decide), h.1.rd (s := p / 2) (p := p % 2) (by omega) (by omega), rdQ_fl (okQ_md h.1) (by omega) (by omega), show 2 * (p / 2) + p % 2 = p by omega]
  · rw [if_neg c1]
    refine (c_mdigest1 (d0 := d0 + 39) w (Bool.eq_false_iff.mpr c1)).mono (fun r S' g' => ?_)
    rintro ⟨rfl, rfl, rfl⟩
    exact ⟨rfl, rfl, h.th _, fm_th g _⟩
theorem m_status (h : MI g y) (w : Int32) : ACi mX11_status (d0 + 40) (SS kd kp rp) g [.ref 76, .int w] (fun r S' g' => r = oStatus y w ∧ S' = SS kd kp rp ∧ MI g' y ∧ Fr mdL g g') := by
  unfold oStatus
  by_cases c7 : insQ w (nI 0) (nI 7) = true
  · rw [if_pos c7]
    obtain ⟨j, hj, rfl⟩ := (insQ_ok (by decide)).mp c7
    rw [ix_n (by omega)]
    obtain rfl | rfl | rfl | rfl | rfl | rfl | rfl | rfl : j = 0 ∨ j = 1 ∨ j = 2 ∨ j = 3 ∨ j = 4 ∨ j = 5 ∨ j = 6 ∨ j = 7 := by omega
    · refine (c_mstatus0 (d0 := d0 + 40)).mono (fun r S' g' => ?_)
      rintro ⟨rfl, rfl, rfl⟩
      exact ⟨h.1.1, rfl, h.th _, fm_th g _⟩
    · refine (c_mstatus1 (d0 := d0 + 40) (yq y).2.length h.1.1 h.1.2.1).mono (fun r S' g' => ?_)
      rintro ⟨rfl, rfl, rfl⟩
      exact ⟨by rw [wct_md h]; rfl, rfl, h.th _, fm_th g _⟩
    · refine (c_mstatus2 (d0 := d0 + 39) (yq y).2.length h.1.1 h.1.2.1).mono (fun r S' g' => ?_)
      rintro ⟨rfl, rfl, rfl⟩
      refine ⟨?_, rfl, h.th _, fm_th g _⟩
      rw [(weN_md h (Nat.le_refl _)).1, (weN_md h (Nat.le_refl _)).2]
      rfl
    · refine (c_mstatus3 (d0 := d0 + 40)).mono (fun r S' g' => ?_)
      rintro ⟨rfl, rfl, rfl⟩
      exact ⟨h.2.1.1, rfl, h.th _, fm_th g _⟩
    · refine (c_mstatus4 (d0 := d0 + 40)).mono (fun r S' g' => ?_)
      rintro ⟨rfl, rfl, rfl⟩
      exact ⟨h.2.2.2.2.1.1, rfl, h.th _, fm_th g _⟩
    · refine (c_mstatus5 (d0 := d0 + 37) (yq y).2.length h.1.1 h.1.2.1).mono (fun r S' g' => ?_)
      rintro ⟨rfl, rfl, rfl⟩
      refine ⟨?_, rfl, h.th _, fm_th g _⟩
      rw [h.2.1.1, h.1.ver]
      rfl
    · refine (c_mstatus6 (d0 := d0 + 40)).mono (fun r S' g' => ?_)
      rintro ⟨rfl, rfl, rfl⟩
      exact ⟨h.2.1.2.1, rfl, h.th _, fm_th g _⟩
    · refine (c_mstatus7 (d0 := d0 + 40)).mono (fun r S' g' => ?_)
      rintro ⟨rfl, rfl, rfl⟩
      exact ⟨h.2.1.2.2, rfl, h.th _, fm_th g _⟩
  · rw [if_neg c7]
    have i11 : (nI 11).toInt = 11 := rfl
    have i16 : (nI 16).toInt = 16 := rfl
    by_cases c11 : insQ w (nI 11) (nI 16) = true
    · rw [if_pos c11]
      have hw := (ins_out (by decide) (by decide)).mp c11
      rw [Int32.le_iff_toInt_le, Int32.le_iff_toInt_le, i11, i16] at hw
      obtain ⟨j, hj, rfl⟩ : ∃ j, j < 6 ∧ w = nI (11 + j) := by
        refine ⟨w.toInt.toNat - 11, by omega, ?_⟩
        apply Int32.toInt_inj.mp
        rw [nI_toInt (by omega)]
        omega
      rw [ix_n (by omega)]
      refine (c_mstatus8 (d0 := d0 + 39) j hj).mono (fun r S' g' => ?_)
      rintro ⟨rfl, rfl, rfl⟩
      exact ⟨by rw [show 11 + j - 10 = 1 + j by omega]; exact h.2.2.2.1 _ (by omega), rfl, h.th _, fm_th g _⟩
    · rw [if_neg c11]
      refine (c_mstatus9 (d0 := d0 + 39) w (Bool.eq_false_iff.mpr c7) (Bool.eq_false_iff.mpr c11)).mono (fun r S' g' => ?_)
      rintro ⟨rfl, rfl, rfl⟩
      exact ⟨rfl, rfl, h.th _, fm_th g _⟩
end M73
