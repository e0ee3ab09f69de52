/-! what the state keeps -/
theorem y_write {y : Sy} (h : Yok y) (s a b : Int32) : Yok (oWrite y s a b).2 := by
  unfold oWrite
  split
  · split
    · exact h
    · exact h
  · exact h
theorem y_fence {y : Sy} (h : Yok y) : Yok (oFence y).2 := by
  unfold oFence
  split
  · exact h
  · exact h
theorem y_flush {y : Sy} (h : Yok y) : Yok (oFlush y).2 := h
theorem y_entry {y : Sy} (h : Yok y) (i w : Int32) : Yok (oEntry y i w).2 := by
  unfold oEntry
  split
  · exact h
  · exact h
theorem y_states {y : Sy} (h : Yok y) : Yok (oStates y).2 := by
  unfold oStates
  split
  · exact h
  · exact h
theorem y_fall {y : Sy} (h : Yok y) (i : Int32) : Yok (oFall y i).2 := by
  unfold oFall
  split
  · split
    · exact h
    · exact h
  · exact h
theorem y_store {y : Sy} (h : Yok y) (k : Int32) : Yok (oStore y k).2 := by
  unfold oStore
  split
  · rename_i c
    obtain ⟨st, hst, rfl⟩ := (insQ_ok (by decide)).mp c
    exact ⟨Or.inr ⟨st, by omega, rfl⟩, h.2⟩
  · exact h
theorem y_take {y : Sy} (h : Yok y) (L : List En) : Yok (oTake y L).2 := by
  unfold oTake
  split
  · exact h
  · exact h
theorem y_put {y : Sy} (h : Yok y) (k : Int32) (v : Int64) : Yok (oPut y k v).2 := by
  unfold oPut
  split
  · exact h
  · split
    · exact y_take h _
    · exact h
theorem y_move {y : Sy} (h : Yok y) (k l : Int32) : Yok (oMove y k l).2 := by
  unfold oMove
  split
  · exact h
  · split
    · exact y_take h _
    · exact h
theorem y_rise {y : Sy} (h : Yok y) : Yok (oRise y).2 := by
  unfold oRise
  split
  · exact h
  · split
    · exact h
    · exact y_take h _
theorem y_add {y : Sy} (h : Yok y) (a : Ac) : Yok (oAdd y a).2 := by
  unfold oAdd
  split
  · exact h
  · exact h
theorem y_addPut {y : Sy} (h : Yok y) (k : Int32) (v : Int64) : Yok (oAddPut y k v).2 := by
  unfold oAddPut
  split
  · exact y_add h _
  · exact h
theorem y_addMove {y : Sy} (h : Yok y) (k l : Int32) : Yok (oAddMove y k l).2 := by
  unfold oAddMove
  split
  · exact y_add h _
  · exact h
theorem y_addSure {y : Sy} (h : Yok y) : Yok (oAddSure y).2 := y_add h _
theorem y_clear {y : Sy} (h : Yok y) : Yok (oClear y).2 := h
theorem y_bad {y : Sy} (h : Yok y) (i w : Int32) : Yok (oBad y i w).2 := by
  unfold oBad
  split
  · exact h
  · exact h
theorem y_least {y : Sy} (h : Yok y) (x : Int32) : Yok (oLeast y x).2 := by
  unfold oLeast
  split
  · split
    · exact h
    · split
      · exact h
      · exact h
  · exact h
theorem y_spare {y : Sy} (h : Yok y) (x f : Int32) (on : Bool) : Yok (oSpare y x f on).2 := by
  unfold oSpare
  split
  · rename_i c
    obtain ⟨st, hst, rfl⟩ := (insQ_ok (by decide)).mp c.1
    have c2 := c.2
    rw [ix_n (by omega)] at c2 ⊢
    have hfn := fnN_le st
    rcases idx_br (i := f) (n := fnN st) (by omega) with ⟨c3, j, hj, rfl⟩ | ⟨c3, -⟩
    · rw [ix_n (by omega)]
      refine ⟨h.1, fun s hs => ?_, h.2.2⟩
      show tu (ys y) st (spF (ys y st) j on) s < 2 ^ fnN s
      unfold tu
      split
      · rename_i z
        subst z
        exact sp_lt _ _ _ hfn (h.2.1 s hs) hj on
      · exact h.2.1 s hs
    · rw [c3] at c2
      exact absurd c2 (by decide)
  · exact h
/-! READ, PLATE, STATE, GET -/
def oRead (y : Sy) (s p : Int32) : Option Int32 := if ptI s p = true then some (flQ (yq y) (2 * ix s + ix p)) else none
def oPlate (y : Sy) (s p : Int32) : Option Int32 := if ptI s p = true then some ((yq y).1 (2 * ix s + ix p)) else none
noncomputable def oState (y : Sy) (i s p : Int32) : Option Int32 := if ptI s p = true then @ite _ (FitQ (yq y) ∧ insQ i (nI 0) (nI (nSt (yq y)) - nI 1) = true) (Classical.propDecidable _) (some (fSt (yq y) (ix i) (2 * ix s + ix p))) none else none
def oGet (y : Sy) (k : Int32) : Nat × Int64 := if yk y = -1 then (1, 0) else if insQ k (nI 0) (nI 2) = true then (0, keyQ (yq y) (yst y) (ix k)) else (2, 0)
/-- what the reference says of an answer that may be thrown -/
def tOk (g : GH) (r : Int32) : Option Int32 → Prop
  | some v => gF g 76 0 = nI 0 ∧ r = v
  | none => gF g 76 0 = nI 1
theorem pt_ok {s p : Int32} (h : ptI s p = true) : ∃ s' p', s' < 16 ∧ p' < 2 ∧ s = nI s' ∧ p = nI p' := by
  unfold ptI at h
  rw [Bool.and_eq_true] at h
  obtain ⟨a, ha, rfl⟩ := (insQ_ok (by decide)).mp h.1
  obtain ⟨b, hb, rfl⟩ := (insQ_ok (by decide)).mp h.2
  exact ⟨a, b, by omega, by omega, rfl, rfl⟩
section M75
variable {d0 kd kp rp : Nat} {g : GH} {y : Sy}
theorem m_read (h : MI g y) (s p : Int32) : ACi mX11_read (d0 + 40) (SS kd kp rp) g [.ref 76, .int s, .int p] (fun r S' g' => tOk g' r (oRead y s p) ∧ S' = SS kd kp rp ∧ MI g' y ∧ Fr mdL g g') := by
  unfold oRead
  by_cases c : ptI s p = true
  · rw [if_pos c]
    obtain ⟨s', p', hs, hp, rfl, rfl⟩ := pt_ok c
    rw [ix_n (by omega), ix_n (by omega)]
    refine (c_mread2 (d0 := d0 + 38) s' p' (yq y).2.length hs hp h.1.1 h.1.2.1).mono (fun r S' g' => ?_)
    rintro ⟨rfl, rfl, rfl⟩
    refine ⟨⟨by rw [th0, gF_pF, if_pos ⟨rfl, rfl⟩], ?_⟩, rfl, h.th _, fm_th g _⟩
    rw [h.1.rd hs hp, rdQ_fl (okQ_md h.1) hs hp]
  · rw [if_neg c]
    refine (c_mread1 (d0 := d0 + 38) s p (Bool.eq_false_iff.mpr c)).mono (fun r S' g' => ?_)
    rintro ⟨rfl, rfl, rfl⟩
    exact ⟨by rw [tOk, gF_pF, if_pos ⟨rfl, rfl⟩], rfl, h.th _, fm_th g _⟩
theorem m_plate (h : MI g y) (s p : Int32) : ACi mX11_plate (d0 + 40) (SS kd kp rp) g [.ref 76, .int s, .int p] (fun r S' g' => tOk g' r (oPlate y s p) ∧ S' = SS kd kp rp ∧ MI g' y ∧ Fr mdL g g') := by
  unfold oPlate
  by_cases c : ptI s p = true
  · rw [if_pos c]
    obtain ⟨s', p', hs, hp, rfl, rfl⟩ := pt_ok c
    rw [ix_n (by omega), ix_n (by omega)]
    refine (c_mplate2 (d0 := d0 + 38) s' p' hs hp).mono (fun r S' g' => ?_)
    rintro ⟨rfl, rfl, rfl⟩
    refine ⟨⟨by rw [th0, gF_pF, if_pos ⟨rfl, rfl⟩], ?_⟩, rfl, h.th _, fm_th g _⟩
    have := h.1.2.2.1 (2 * s' + p') (by omega)
    rw [show 32 * 0 + (2 * s' + p') = 2 * s' + p' by omega] at this
    exact this
  · rw [if_neg c]
    refine (c_mplate1 (d0 := d0 + 38) s p (Bool.eq_false_iff.mpr c)).mono (fun r S' g' => ?_)
    rintro ⟨rfl, rfl, rfl⟩
    exact ⟨by rw [tOk, gF_pF, if_pos ⟨rfl, rfl⟩], rfl, h.th _, fm_th g _⟩
theorem m_state (h : MI g y) (i s p : Int32) : ACi mX11_state (d0 + 40) (SS kd kp rp) g [.ref 76, .int i, .int s, .int p] (fun r S' g' => tOk g' r (oState y i s p) ∧ S' = SS kd kp rp ∧ MI g' y ∧ Fr mdL g g') := by
  unfold oState
  by_cases c : ptI s p = true
  · rw [if_pos c]
    obtain ⟨s', p', hs, hp, rfl, rfl⟩ := pt_ok c
    rw [ix_n (by omega), ix_n (by omega)]
    refine (c_mstate2 (d0 := d0 + 36) (yq y).2.length i s' p' hs hp h.1.1 h.1.2.1 h.sec).mono (fun r S' g' => ?_)
    rintro ⟨rfl, b, g1, St, N, o, hF, hno, hn1, hy⟩
    obtain ⟨m1, f1, f2, f3⟩ := FsP.fit h hF
    cases b with
    | true =>
      obtain ⟨a1, a2, a3, a4⟩ := f2 rfl
      subst a2
      rcases idx_br (i := i) (n := nSt (yq y)) (by omega) with ⟨c1, j, hj, rfl⟩ | ⟨c1, c2⟩
      · rw [if_pos ⟨a1, c1⟩, ix_n (by omega)]
        obtain ⟨rfl, rfl⟩ := hy rfl j hj rfl
        exact ⟨⟨by rw [gF_pF, if_pos ⟨rfl, rfl⟩], a4 j hj _ (by omega)⟩, rfl, m1.th _, f1.tr (fm_th _ _)⟩
      · rw [if_neg (fun z => absurd z.2 (by rw [c1]; decide))]
        obtain ⟨rfl, rfl⟩ := hn1 rfl c1
        exact ⟨by rw [tOk, gF_pF, if_pos ⟨rfl, rfl⟩], rfl, m1.th _, f1.tr (fm_th _ _)⟩
    | false =>
      obtain ⟨rfl, rfl⟩ := hno rfl
      rw [if_neg (fun z => f3 rfl z.1)]
      exact ⟨by rw [tOk, gF_pF, if_pos ⟨rfl, rfl⟩], rfl, m1.th _, f1.tr (fm_th _ _)⟩
  · rw [if_neg c]
    refine (c_mstate1 (d0 := d0 + 36) i s p (Bool.eq_false_iff.mpr c)).mono (fun r S' g' => ?_)
    rintro ⟨rfl, rfl, rfl⟩
    exact ⟨by rw [tOk, gF_pF, if_pos ⟨rfl, rfl⟩], rfl, h.th _, fm_th g _⟩
theorem m_get (h : MI g y) (hy : Yok y) (x : Int32) : ACl mX11_get (d0 + 40) (SS kd kp rp) g [.ref 76, .int x] (fun r S' g' => (gF g' 76 0 = nI (oGet y x).1 ∧ r = (oGet y x).2) ∧ S' = SS kd kp rp ∧ MI g' y ∧ Fr mdL g g') := by
  unfold oGet
  rcases hy.1 with c | ⟨st, hst, c⟩
  · rw [if_pos c]
    refine (c_mget1 (d0 := d0 + 39) x (h.2.1.1.trans c)).mono (fun r S' g' => ?_)
    rintro ⟨rfl, rfl, rfl⟩
    exact ⟨⟨by rw [gF_pF, if_pos ⟨rfl, rfl⟩], rfl⟩, rfl, h.th _, fm_th g _⟩
  · rw [if_neg (by rw [c]; exact nI_m1 (by omega))]
    by_cases c2 : insQ x (nI 0) (nI 2) = true
    · rw [if_pos c2]
      obtain ⟨k, hk, rfl⟩ := (insQ_ok (by decide)).mp c2
      rw [yst, c, ix_n (by omega), ix_n (by omega)]
      refine (c_mget3 (d0 := d0 + 36) k st (yq y).2.length hst (h.2.1.1.trans c) (by omega) h.1.1 h.1.2.1).mono (fun r S' g' => ?_)
      rintro ⟨rfl, rfl, rfl⟩
      exact ⟨⟨by rw [th0, gF_pF, if_pos ⟨rfl, rfl⟩], h.1.key st (by omega)⟩, rfl, h.th _, fm_th g _⟩
    · rw [if_neg c2]
      refine (c_mget2 (d0 := d0 + 39) x st hst (h.2.1.1.trans c) (Bool.eq_false_iff.mpr c2)).mono (fun r S' g' => ?_)
      rintro ⟨rfl, rfl, rfl⟩
      exact ⟨⟨by rw [gF_pF, if_pos ⟨rfl, rfl⟩], rfl⟩, rfl, h.th _, fm_th g _⟩
end M75
