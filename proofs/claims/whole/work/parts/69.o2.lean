/-! what each call answers, and what becomes of the state -/
def ix (i : Int32) : Nat := i.toNatClampNeg
theorem ix_n {j : Nat} (h : j < 2147483648) : ix (nI j) = j := nI_clamp h
def oWrite (y : Sy) (s a b : Int32) : Int32 × Sy := if insQ s (nI 0) (nI 15) = true then (if (yq y).2.length < 60 then (nI ((yq y).2.length + 1), sW (sQ y ((yq y).1, (yq y).2 ++ [(s, a, b)])) (yw y + nI 1)) else (-nI 6, bmp y 6)) else (-nI 1, bmp y 1)
def oFence (y : Sy) : Int32 × Sy := if (yq y).2.length < 60 then (nI ((yq y).2.length + 1), sQ y ((yq y).1, (yq y).2 ++ [(-1, nI 0, nI 0)])) else (-nI 6, bmp y 6)
def oFlush (y : Sy) : Int32 × Sy := (nI (wct (qS (yq y).2) (yq y).2.length), sQ y (flQ (yq y), []))
def entQ (q : Qd) (j : Nat) (w : Int32) : Int32 := if w = 0 then qS q.2 j else if w = nI 1 then qO q.2 j else if w = nI 2 then qT q.2 j else if w = nI 3 then (if qS q.2 j = -1 then -1 else nI (weN (qS q.2) j)) else -9
def oEntry (y : Sy) (i w : Int32) : Int32 × Sy := if insQ i (nI 0) (nI (yq y).2.length - nI 1) = true then (entQ (yq y) (ix i) w, y) else (-nI 1, bmp y 1)
noncomputable def oStates (y : Sy) : Int32 × Sy := @ite _ (FitQ (yq y)) (Classical.propDecidable _) (nI (nSt (yq y)), y) (-nI 6, bmp y 6)
noncomputable def oFall (y : Sy) (i : Int32) : Int32 × Sy := @ite _ (FitQ (yq y)) (Classical.propDecidable _) (if insQ i (nI 0) (nI (nSt (yq y)) - nI 1) = true then (nI 1, sL (sQ y (fSt (yq y) (ix i), [])) (yf y + nI 1)) else (-nI 1, bmp y 1)) (-nI 6, bmp y 6)
theorem CIb.ref {k : Nat} {g : GH} {y : Sy} {n : Nat} (h : CIb k g y n) (hk : k = 64 ∨ k = 67) (w : Nat) (hw : w < 7) : CIb k (pA g 75 (upd (gA g 75) w (gA g 75 w + nI 1))) (bmp y w) (n + 1) := by
  have f : Fr [75] g (pA g 75 (upd (gA g 75) w (gA g 75 w + nI 1))) := (Fr.rf _ g).sA (by decide) _
  obtain ⟨h1, h2, ⟨h3, h3', h3''⟩, h4, h5, h6, ⟨q', h7⟩, h8⟩ := h
  refine ⟨h1.fr f (by decide), (h2.fr f (by decide) (by decide)).up (by omega), ⟨h3, h3', h3''⟩, h4, fun x hx => ?_, h6.fr f (by decide) (by decide) (by decide) (by decide) (by decide), ⟨q', (h7.fr f (by decide) (by decide)).up (by omega)⟩, ?_⟩
  · rw [gA_pA, if_pos rfl]
    show upd (gA g 75) w _ x = upd (yr y) w (yr y w + nI 1) x
    simp only [upd]
    rw [h5 x hx, h5 w hw]
  · rcases hk with rfl | rfl
    · exact h8.fr f (by decide) (by decide) (by decide)
    · exact h8.fr f (by decide) (by decide) (by decide)
theorem CIb.dq {k : Nat} {g g' : GH} {y : Sy} {n : Nat} {B : List Nat} {q' : Qd} {w' : Int32} (h : CIb k g y n) (hk : k = 64 ∨ k = 67) (f : Fr B g g') (hB : ∀ i ∈ B, 1 ≤ i ∧ i ≤ 20) (q1 : CD 1 g' q') (s1 : SeB 8 1 g' q' (20 * (n + 1))) (w1 : gF g' 1 11 = w') : CIb k g' (sW (sQ y q') w') (n + 1) := by
  have hn : ∀ i, i < 1 ∨ 20 < i → i ∉ B := fun i hi hm => by have := hB i hm; omega
  obtain ⟨h1, h2, ⟨h3, h3', h3''⟩, h4, h5, h6, ⟨q2, h7⟩, h8⟩ := h
  refine ⟨q1, s1, ⟨(f.f (hn _ (by omega)) _).trans h3, (f.f (hn _ (by omega)) _).trans h3', w1⟩, fun st hst => ?_, fun w hw => ?_, h6.fr f (hn _ (by omega)) (hn _ (by omega)) (hn _ (by omega)) (hn _ (by omega)) (hn _ (by omega)), ⟨q2, (h7.fr f (hn _ (by omega)) (fun i hi => hn _ (by omega))).up (by omega)⟩, h8.fr f (hn _ (by omega)) (hn _ (by omega)) (hn _ (by omega))⟩
  · rw [f.a (hn _ (by omega))]
    exact h4 st hst
  · rw [f.a (hn _ (by omega))]
    exact h5 w hw
theorem CIb.se {k : Nat} {g : GH} {y : Sy} {n : Nat} (h : CIb k g y n) : ∃ Ed, Ed ≤ 20 * n ∧ SeD 8 1 g (yq y) Ed := h.2.1
theorem fr_ref (g : GH) (f : Nat → Int32) : Fr clL g (pA g 75 f) := (Fr.rf _ g).sA (by decide) _
set_option maxHeartbeats 1000000 in
set_option maxRecDepth 100000 in
theorem k_write {d0 : Nat} {S : sH} {g : GH} {y : Sy} {n : Nat} (h : CI S g y n) (hn : n < 512) (s a b : Int32) : ACi mX10_write (d0 + 40) S g [.ref 0, .int s, .int a, .int b] (fun r S' g' => r = (oWrite y s a b).1 ∧ CI S' g' (oWrite y s a b).2 (n + 1) ∧ Fr clL g g') := by
  obtain ⟨kd, k, r, hk, rfl, hb⟩ := h
  have hk' : k = 64 ∨ k = 67 := by omega
  obtain ⟨Ed, hEd, hs⟩ := hb.se
  unfold oWrite
  refine ACi.of lcX10_write rfl rfl (fun X Q ad hR ret => ?_)
  refine AW_ls (ls' := [_, _, _, _]) rfl ?_
  refine a_iload_n (pc := 0) dX10_write_0 rfl ?_
  refine a_S1i (pc := 1) dX10_write_1 lcX10_isSector lX10_73 (fit_of hR (by omega) rfl) (c_isSector (d0 := d0) s) rfl rfl (ex_i ?_)
  refine a_if_neB (pc := 4) 13 dX10_write_4 (by decide) (fun c1 => ?_) (fun c1 => ?_)
  · rw [if_pos c1] at ret
    obtain ⟨j, hj, rfl⟩ := (insQ_ok (by decide)).mp c1
    refine a_aload_n (pc := 13) dX10_write_13 rfl ?_
    refine a_gr (pc := 14) dX10_write_14 fX10_12 rfl ?_
    refine a_iconst (pc := 17) (nI 1) dX10_write_17 (by decide) ?_
    refine a_V1i (pc := 18) 0 dX10_write_18 lcX0_hasRoom lX10_81 rfl rfl rfl (fit_of hR (by omega) rfl) (c_hasRoom_1 (d0 := d0) (yq y).2.length 1 hb.1.1.1 hb.1.1.2.1 (by decide)) rfl rfl (ex_i ?_)
    refine a_if_neB (pc := 21) 31 dX10_write_21 (by decide) (fun c2 => ?_) (fun c2 => ?_)
    · have c2 := of_decide_eq_true c2
      rw [if_pos (by omega)] at ret
      refine a_aload_n (pc := 31) dX10_write_31 rfl ?_
      refine a_gr (pc := 32) dX10_write_32 fX10_12 rfl ?_
      refine a_iload_n (pc := 35) dX10_write_35 rfl ?_
      refine a_iload_n (pc := 36) dX10_write_36 rfl ?_
      refine a_iload_n (pc := 37) dX10_write_37 rfl ?_
      refine a_V3v (pc := 38) 0 dX10_write_38 lcX0_enqueueWrite lX10_84 rfl rfl rfl (fit_of hR (by omega) rfl) (c_enqW_1 (d0 := d0) (yq y) j a b hb.1 (by omega) (by omega)) rfl rfl (fun S' g1 hS hp => ?_)
      obtain ⟨rfl, q1, w1, e1, f1⟩ := hp
      refine a_aload_n (pc := 41) dX10_write_41 rfl ?_
      refine a_gr (pc := 42) dX10_write_42 fX10_12 rfl ?_
      refine a_gi (pc := 45) dX10_write_45 fX10_88 rfl ?_
      rw [q1.1.1]
      refine ret _ _ 48 _ _ dX10_write_48 rfl ?_
      refine ⟨?_, ⟨kd, k, r, hk, rfl, hb.dq hk' f1 (by decide) q1 ⟨Ed + 1, by omega, hs.nx (by rw [e1, hs.1, nI_add]) (f1.a (by decide)) (f1.f (by decide) 13)⟩ (by rw [w1, hb.2.2.1.2.2])⟩, f1.mono (by decide)⟩
      dsimp only
      rw [List.length_append, List.length_singleton]
    · have c2 := of_decide_eq_false c2
      rw [if_neg (by omega)] at ret
      refine a_aload_n (pc := 24) dX10_write_24 rfl ?_
      refine a_bipush (pc := 25) (-6) dX10_write_25 (by decide) ?_
      refine a_V1i (pc := 27) 9 dX10_write_27 lcX10_refuse lX10_77 rfl rfl rfl (fit_of hR (by omega) rfl) (c_krefuse (d0 := d0) 6 (by decide) (by decide)) rfl rfl (ex_i ?_)
      refine ret _ _ 30 _ _ dX10_write_30 rfl ?_
      exact ⟨rfl, ⟨kd, k, r, hk, rfl, hb.ref hk' 6 (by decide)⟩, fr_ref _ _⟩
  · rw [if_neg (by rw [c1]; decide)] at ret
    refine a_aload_n (pc := 7) dX10_write_7 rfl ?_
    refine a_iconst (pc := 8) (-1) dX10_write_8 (by decide) ?_
    refine a_V1i (pc := 9) 9 dX10_write_9 lcX10_refuse lX10_77 rfl rfl rfl (fit_of hR (by omega) rfl) (c_krefuse (d0 := d0) 1 (by decide) (by decide)) rfl rfl (ex_i ?_)
    refine ret _ _ 12 _ _ dX10_write_12 rfl ?_
    exact ⟨rfl, ⟨kd, k, r, hk, rfl, hb.ref hk' 1 (by decide)⟩, fr_ref _ _⟩
set_option maxHeartbeats 1000000 in
set_option maxRecDepth 100000 in
theorem k_fence {d0 : Nat} {S : sH} {g : GH} {y : Sy} {n : Nat} (h : CI S g y n) (hn : n < 512) : ACi mX10_fence (d0 + 40) S g [.ref 0] (fun r S' g' => r = (oFence y).1 ∧ CI S' g' (oFence y).2 (n + 1) ∧ Fr clL g g') := by
  obtain ⟨kd, k, r, hk, rfl, hb⟩ := h
  have hk' : k = 64 ∨ k = 67 := by omega
  obtain ⟨Ed, hEd, hs⟩ := hb.se
  unfold oFence
  refine ACi.of lcX10_fence rfl rfl (fun X Q ad hR ret => ?_)
  refine AW_ls (ls' := [_]) rfl ?_
  refine a_aload_n (pc := 0) dX10_fence_0 rfl ?_
  refine a_gr (pc := 1) dX10_fence_1 fX10_12 rfl ?_
  refine a_iconst (pc := 4) (nI 1) dX10_fence_4 (by decide) ?_
  refine a_V1i (pc := 5) 0 dX10_fence_5 lcX0_hasRoom lX10_81 rfl rfl rfl (fit_of hR (by omega) rfl) (c_hasRoom_1 (d0 := d0) (yq y).2.length 1 hb.1.1.1 hb.1.1.2.1 (by decide)) rfl rfl (ex_i ?_)
  refine a_if_neB (pc := 8) 18 dX10_fence_8 (by decide) (fun c2 => ?_) (fun c2 => ?_)
  · have c2 := of_decide_eq_true c2
    rw [if_pos (by omega)] at ret
    refine a_aload_n (pc := 18) dX10_fence_18 rfl ?_
    refine a_gr (pc := 19) dX10_fence_19 fX10_12 rfl ?_
    refine a_V0v (pc := 22) 0 dX10_fence_22 lcX0_enqueueFence lX10_91 rfl rfl rfl (fit_of hR (by omega) rfl) (c_enqF_1 (d0 := d0) (yq y) hb.1 (by omega)) rfl rfl (fun S' g1 hS hp => ?_)
    obtain ⟨rfl, q1, w1, e1, f1⟩ := hp
    refine a_aload_n (pc := 25) dX10_fence_25 rfl ?_
    refine a_gr (pc := 26) dX10_fence_26 fX10_12 rfl ?_
    refine a_gi (pc := 29) dX10_fence_29 fX10_88 rfl ?_
    rw [q1.1.1]
    refine ret _ _ 32 _ _ dX10_fence_32 rfl ?_
    refine ⟨?_, ⟨kd, k, r, hk, rfl, hb.dq (w' := yw y) hk' f1 (by decide) q1 ⟨Ed + 1, by omega, hs.nx (by rw [e1, hs.1, nI_add]) (f1.a (by decide)) (f1.f (by decide) 13)⟩ (by rw [w1, hb.2.2.1.2.2])⟩, f1.mono (by decide)⟩
    dsimp only
    rw [List.length_append, List.length_singleton]
  · have c2 := of_decide_eq_false c2
    rw [if_neg (by omega)] at ret
    refine a_aload_n (pc := 11) dX10_fence_11 rfl ?_
    refine a_bipush (pc := 12) (-6) dX10_fence_12 (by decide) ?_
    refine a_V1i (pc := 14) 9 dX10_fence_14 lcX10_refuse lX10_77 rfl rfl rfl (fit_of hR (by omega) rfl) (c_krefuse (d0 := d0) 6 (by decide) (by decide)) rfl rfl (ex_i ?_)
    refine ret _ _ 17 _ _ dX10_fence_17 rfl ?_
    exact ⟨rfl, ⟨kd, k, r, hk, rfl, hb.ref hk' 6 (by decide)⟩, fr_ref _ _⟩
set_option maxHeartbeats 1000000 in
set_option maxRecDepth 100000 in
theorem k_flush {d0 : Nat} {S : sH} {g : GH} {y : Sy} {n : Nat} (h : CI S g y n) (hn : n < 512) : ACi mX10_flush (d0 + 40) S g [.ref 0] (fun r S' g' => r = (oFlush y).1 ∧ CI S' g' (oFlush y).2 (n + 1) ∧ Fr clL g g') := by
  obtain ⟨kd, k, r, hk, rfl, hb⟩ := h
  have hk' : k = 64 ∨ k = 67 := by omega
  obtain ⟨Ed, hEd, hs⟩ := hb.se
  refine ACi.of lcX10_flush rfl rfl (fun X Q ad hR ret => ?_)
  refine AW_ls (ls' := [_, _]) rfl ?_
  refine a_aload_n (pc := 0) dX10_flush_0 rfl ?_
  refine a_gr (pc := 1) dX10_flush_1 fX10_12 rfl ?_
  refine a_gi (pc := 4) dX10_flush_4 fX10_94 rfl ?_
  rw [hb.1.1.2.2.1]
  refine a_istore_n (pc := 7) (ls' := [_, _]) dX10_flush_7 (Nat.le_of_ble_eq_true rfl) rfl ?_
  refine a_aload_n (pc := 8) dX10_flush_8 rfl ?_
  refine a_gr (pc := 9) dX10_flush_9 fX10_12 rfl ?_
  refine a_V0v (pc := 12) 0 dX10_flush_12 lcX0_settle lX10_97 rfl rfl rfl (fit_of hR (by omega) rfl) (c_settle_1 (d0 := d0) (yq y) hb.1) rfl rfl (fun S' g1 hS hp => ?_)
  obtain ⟨rfl, q1, w1, e1, f1⟩ := hp
  refine a_iload_n (pc := 15) dX10_flush_15 rfl ?_
  refine ret _ _ 16 _ _ dX10_flush_16 rfl ?_
  exact ⟨rfl, ⟨kd, k, r, hk, rfl, hb.dq (w' := yw y) hk' f1 (by decide) q1 ⟨Ed + 1, by omega, hs.nx (by rw [e1, hs.1, nI_add]) (f1.a (by decide)) (f1.f (by decide) 13)⟩ (by rw [w1, hb.2.2.1.2.2])⟩, f1.mono (by decide)⟩
theorem tab03 (w : Int32) : (∃ j, j < 4 ∧ w = nI j) ∨ ((w.toInt < 0 ∨ 3 < w.toInt) ∧ ¬ w = 0 ∧ ¬ w = nI 1 ∧ ¬ w = nI 2 ∧ ¬ w = nI 3) := by
  by_cases h : insQ w (nI 0) (nI 3) = true
  · obtain ⟨j, hj, rfl⟩ := (insQ_ok (by decide)).mp h
    exact Or.inl ⟨j, by omega, rfl⟩
  · right
    refine ⟨?_, fun z => h (by rw [z]; decide), fun z => h (by rw [z]; decide), fun z => h (by rw [z]; decide), fun z => h (by rw [z]; decide)⟩
    have h := Bool.eq_false_iff.mpr h
    unfold insQ at h
    rw [Bool.and_eq_false_iff, decide_eq_false_iff_not, decide_eq_false_iff_not] at h
    rcases h with q | q
    · left
      have := Int32.not_le.mp q
      rw [Int32.lt_iff_toInt_lt] at this
      exact this
    · right
      have := Int32.not_le.mp q
      rw [Int32.lt_iff_toInt_lt] at this
      exact this
/-- an index below n, or not -/
theorem idx_br {i : Int32} {n : Nat} (hn : n < 2147483648) : (insQ i (nI 0) (nI n - nI 1) = true ∧ ∃ j, j < n ∧ i = nI j) ∨ (insQ i (nI 0) (nI n - nI 1) = false ∧ (i < 0 ∨ nI n ≤ i)) := by
  by_cases h : insQ i (nI 0) (nI n - nI 1) = true
  · exact Or.inl ⟨h, (entI_ok hn).mp h⟩
  · refine Or.inr ⟨Bool.eq_false_iff.mpr h, ?_⟩
    rcases pk_ix i (n := n) hn with z | z | ⟨j, hj, e⟩
    · exact Or.inl z
    · exact Or.inr z
    · exact absurd ((entI_ok hn).mpr ⟨j, hj, e⟩) h
set_option maxHeartbeats 1000000 in
set_option maxRecDepth 100000 in
theorem k_entry {d0 : Nat} {S : sH} {g : GH} {y : Sy} {n : Nat} (h : CI S g y n) (hn : n < 512) (i w : Int32) : ACi mX10_entry (d0 + 40) S g [.ref 0, .int i, .int w] (fun r S' g' => r = (oEntry y i w).1 ∧ CI S' g' (oEntry y i w).2 (n + 1) ∧ Fr clL g g') := by
  obtain ⟨kd, k, r, hk, rfl, hb⟩ := h
  have hk' : k = 64 ∨ k = 67 := by omega
  obtain ⟨⟨h6, h60, -⟩, -, -, hen, -⟩ := hb.1
  unfold oEntry
  refine ACi.of lcX10_entry rfl rfl (fun X Q ad hR ret => ?_)
  refine AW_ls (ls' := [_, _, _]) rfl ?_
  have no : insQ i (nI 0) (nI (yq y).2.length - nI 1) = false → AW mX10_entry X Q ad 0 0 (conc (SS kd k r) g) 15 [some (.ref 0), some (.int i), some (.int w)] [] := by
    intro c1
    rw [if_neg (by rw [c1]; decide)] at ret
    refine a_aload_n (pc := 15) dX10_entry_15 rfl ?_
    refine a_iconst (pc := 16) (-1) dX10_entry_16 (by decide) ?_
    refine a_V1i (pc := 17) 9 dX10_entry_17 lcX10_refuse lX10_77 rfl rfl rfl (fit_of hR (by omega) rfl) (c_krefuse (d0 := d0) 1 (by decide) (by decide)) rfl rfl (ex_i ?_)
    refine ret _ _ 20 _ _ dX10_entry_20 rfl ?_
    exact ⟨rfl, ⟨kd, k, r, hk, rfl, hb.ref hk' 1 (by decide)⟩, fr_ref _ _⟩
  rcases idx_br (i := i) (n := (yq y).2.length) (by omega) with ⟨c1, j, hj, rfl⟩ | ⟨c1, c2⟩
  · rw [if_pos c1, ix_n (by omega)] at ret
    obtain ⟨a1, a2, a3, a4⟩ := hen j hj
    have fin : CI (SS kd k r) g y (n + 1) := ⟨kd, k, r, hk, rfl, hb.n (by omega)⟩
    unfold entQ at ret
    refine a_iload_n (pc := 0) dX10_entry_0 rfl ?_
    refine a_if_ltN (pc := 1) 15 dX10_entry_1 (by decide) (by omega) (fun c3 => ?_) (fun c3 => ?_)
    · exact absurd c3 (by omega)
    · refine a_iload_n (pc := 4) dX10_entry_4 rfl ?_
      refine a_aload_n (pc := 5) dX10_entry_5 rfl ?_
      refine a_gr (pc := 6) dX10_entry_6 fX10_12 rfl ?_
      refine a_gi (pc := 9) dX10_entry_9 fX10_88 rfl ?_
      rw [h6]
      refine a_icmp_ltN (pc := 12) 21 dX10_entry_12 (by decide) (by omega) (by omega) (fun c4 => ?_) (fun c4 => ?_)
      · refine a_iload_n (pc := 21) dX10_entry_21 rfl ?_
        rcases tab03 w with ⟨m, hm, rfl⟩ | ⟨ho, o0, o1, o2, o3⟩
        · match m, hm with
          | 0, _ =>
            refine a_tabIn (pc := 22) 52 dX10_entry_22 (by decide) (by decide) rfl (by decide) ?_
            refine a_aload_n (pc := 52) dX10_entry_52 rfl ?_
            refine a_gr (pc := 53) dX10_entry_53 fX10_12 rfl ?_
            refine a_gr (pc := 56) dX10_entry_56 fX10_117 rfl ?_
            refine a_iload_n (pc := 59) dX10_entry_59 rfl ?_
            refine a_ial (pc := 60) _ dX10_entry_60 rfl rfl (by omega) ?_
            rw [show gA g 4 j = qS (yq y).2 j from a1]
            refine ret _ _ 61 _ _ dX10_entry_61 rfl ?_
            exact ⟨rfl, fin, Fr.rf _ g⟩
          | 1, _ =>
            refine a_tabIn (pc := 22) 62 dX10_entry_22 (by decide) (by decide) rfl (by decide) ?_
            refine a_aload_n (pc := 62) dX10_entry_62 rfl ?_
            refine a_gr (pc := 63) dX10_entry_63 fX10_12 rfl ?_
            refine a_gr (pc := 66) dX10_entry_66 fX10_120 rfl ?_
            refine a_iload_n (pc := 69) dX10_entry_69 rfl ?_
            refine a_ial (pc := 70) _ dX10_entry_70 rfl rfl (by omega) ?_
            rw [show gA g 5 j = qO (yq y).2 j from a2]
            refine ret _ _ 71 _ _ dX10_entry_71 rfl ?_
            exact ⟨rfl, fin, Fr.rf _ g⟩
          | 2, _ =>
            refine a_tabIn (pc := 22) 72 dX10_entry_22 (by decide) (by decide) rfl (by decide) ?_
            refine a_aload_n (pc := 72) dX10_entry_72 rfl ?_
            refine a_gr (pc := 73) dX10_entry_73 fX10_12 rfl ?_
            refine a_gr (pc := 76) dX10_entry_76 fX10_123 rfl ?_
            refine a_iload_n (pc := 79) dX10_entry_79 rfl ?_
            refine a_ial (pc := 80) _ dX10_entry_80 rfl rfl (by omega) ?_
            rw [show gA g 6 j = qT (yq y).2 j from a3]
            refine ret _ _ 81 _ _ dX10_entry_81 rfl ?_
            exact ⟨rfl, fin, Fr.rf _ g⟩
          | 3, _ =>
            refine a_tabIn (pc := 22) 82 dX10_entry_22 (by decide) (by decide) rfl (by decide) ?_
            refine a_aload_n (pc := 82) dX10_entry_82 rfl ?_
            refine a_gr (pc := 83) dX10_entry_83 fX10_12 rfl ?_
            refine a_gr (pc := 86) dX10_entry_86 fX10_126 rfl ?_
            refine a_iload_n (pc := 89) dX10_entry_89 rfl ?_
            refine a_ial (pc := 90) _ dX10_entry_90 rfl rfl (by omega) ?_
            rw [show gA g 7 j = _ from a4]
            refine ret _ _ 91 _ _ dX10_entry_91 rfl ?_
            exact ⟨rfl, fin, Fr.rf _ g⟩
        · refine a_tabOut (pc := 22) 92 dX10_entry_22 ho (by decide) ?_
          refine a_bipush (pc := 92) (-9) dX10_entry_92 (by decide) ?_
          refine ret _ _ 94 _ _ dX10_entry_94 rfl ?_
          rw [if_neg o0, if_neg o1, if_neg o2, if_neg o3]
          exact ⟨rfl, fin, Fr.rf _ g⟩
      · exact absurd c4 (by omega)
  · refine a_iload_n (pc := 0) dX10_entry_0 rfl ?_
    refine a_if_lt (pc := 1) 15 dX10_entry_1 (by decide) (fun c3 => ?_) (fun c3 => ?_)
    · exact no c1
    · refine a_iload_n (pc := 4) dX10_entry_4 rfl ?_
      refine a_aload_n (pc := 5) dX10_entry_5 rfl ?_
      refine a_gr (pc := 6) dX10_entry_6 fX10_12 rfl ?_
      refine a_gi (pc := 9) dX10_entry_9 fX10_88 rfl ?_
      rw [h6]
      refine a_icmp_lt (pc := 12) 21 dX10_entry_12 (by decide) (fun c4 => ?_) (fun c4 => ?_)
      · rcases c2 with z | z
        · exact absurd z c3
        · exact absurd c4 (Int32.not_lt.mpr z)
      · exact no c1
set_option maxHeartbeats 1000000 in
set_option maxRecDepth 100000 in
theorem k_states {d0 : Nat} {S : sH} {g : GH} {y : Sy} {n : Nat} (h : CI S g y n) (hn : n < 512) : ACi mX10_states (d0 + 40) S g [.ref 0] (fun r S' g' => r = (oStates y).1 ∧ CI S' g' (oStates y).2 (n + 1) ∧ Fr clL g g') := by
  obtain ⟨kd, k, r, hk, rfl, hb⟩ := h
  have hk' : k = 64 ∨ k = 67 := by omega
  obtain ⟨Ed, hEd, hs⟩ := hb.se
  unfold oStates
  refine ACi.of lcX10_states rfl rfl (fun X Q ad hR ret => ?_)
  refine AW_ls (ls' := [_]) rfl ?_
  refine a_aload_n (pc := 0) dX10_states_0 rfl ?_
  refine a_gr (pc := 1) dX10_states_1 fX10_19 rfl ?_
  refine a_aload_n (pc := 4) dX10_states_4 rfl ?_
  refine a_gr (pc := 5) dX10_states_5 fX10_12 rfl ?_
  refine a_V1v (pc := 8) 8 dX10_states_8 lcX9_refresh lX10_129 rfl rfl rfl (fit_of hR (by omega) rfl) (c_refresh_8 (d0 := d0) (yq y) Ed (by omega) hb.1 hs) rfl rfl (fun S' g1 hS hp => ?_)
  obtain ⟨rfl, ok, e13, e11, f1⟩ := hp
  have s1 : SeD 8 1 g1 (yq y) Ed := ⟨(f1.f (by decide) 12).trans hs.1, e11, Or.inr ⟨Ed, e13, Nat.le_refl _, fun _ => ok⟩⟩
  have hb1 : CIb k g1 y (n + 1) := hb.dq (q' := yq y) (w' := yw y) hk' f1 (by decide) (hb.1.fr f1 (by decide)) ⟨Ed, by omega, s1⟩ ((f1.f (by decide) 11).trans hb.2.2.1.2.2)
  have hb0 : CIb k g1 y n := by
    obtain ⟨h1, h2, h3, h4, h5, h6, ⟨q', h7⟩, h8⟩ := hb1
    obtain ⟨-, -, -, -, -, -, ⟨q2, h72⟩, -⟩ := hb
    exact ⟨h1, ⟨Ed, hEd, s1⟩, h3, h4, h5, h6, ⟨q2, h72.fr f1 (by decide) (by decide)⟩, h8⟩
  obtain ⟨cy, cn⟩ := ok.cnt
  refine a_aload_n (pc := 11) dX10_states_11 rfl ?_
  refine a_gr (pc := 12) dX10_states_12 fX10_19 rfl ?_
  refine a_gi (pc := 15) dX10_states_15 fX10_133 rfl ?_
  by_cases hf : FitQ (yq y)
  · rw [if_pos hf] at ret
    obtain ⟨cy1, cy2⟩ := cy hf
    rw [cy1]
    refine a_sipush (pc := 18) (nI 4096) dX10_states_18 (by decide) ?_
    refine a_icmp_leN (pc := 21) 33 dX10_states_21 (by decide) (by omega) (by omega) (fun c1 => ?_) (fun c1 => ?_)
    · refine a_aload_n (pc := 33) dX10_states_33 rfl ?_
      refine a_gr (pc := 34) dX10_states_34 fX10_19 rfl ?_
      refine a_gi (pc := 37) dX10_states_37 fX10_133 rfl ?_
      rw [cy1]
      refine ret _ _ 40 _ _ dX10_states_40 rfl ?_
      exact ⟨rfl, ⟨kd, k, r, hk, rfl, hb1⟩, f1.mono (by decide)⟩
    · exact absurd c1 (by omega)
  · rw [if_neg hf] at ret
    rw [cn hf]
    refine a_sipush (pc := 18) (nI 4096) dX10_states_18 (by decide) ?_
    refine a_icmp_leN (pc := 21) 33 dX10_states_21 (by decide) (by omega) (by omega) (fun c1 => ?_) (fun c1 => ?_)
    · exact absurd c1 (by omega)
    · refine a_aload_n (pc := 24) dX10_states_24 rfl ?_
      refine a_bipush (pc := 25) (-6) dX10_states_25 (by decide) ?_
      refine a_V1i (pc := 27) 9 dX10_states_27 lcX10_refuse lX10_77 rfl rfl rfl (fit_of hR (by omega) rfl) (c_krefuse (d0 := d0) 6 (by decide) (by decide)) rfl rfl (ex_i ?_)
      refine a_goto (pc := 30) 40 dX10_states_30 (by decide) ?_
      refine ret _ _ 40 _ _ dX10_states_40 rfl ?_
      exact ⟨rfl, ⟨kd, k, r, hk, rfl, hb0.ref hk' 6 (by decide)⟩, (f1.mono (by decide)).tr (fr_ref _ _)⟩
set_option maxHeartbeats 1000000 in
set_option maxRecDepth 100000 in
theorem k_fall {d0 : Nat} {S : sH} {g : GH} {y : Sy} {n : Nat} (h : CI S g y n) (hn : n < 512) (i : Int32) : ACi mX10_fall (d0 + 40) S g [.ref 0, .int i] (fun r S' g' => r = (oFall y i).1 ∧ CI S' g' (oFall y i).2 (n + 1) ∧ Fr clL g g') := by
  obtain ⟨kd, k, r, hk, rfl, hb⟩ := h
  have hk' : k = 64 ∨ k = 67 := by omega
  obtain ⟨Ed, hEd, hs⟩ := hb.se
  unfold oFall
  refine ACi.of lcX10_fall rfl rfl (fun X Q ad hR ret => ?_)
  refine AW_ls (ls' := [_, _]) rfl ?_
  refine a_aload_n (pc := 0) dX10_fall_0 rfl ?_
  refine a_gr (pc := 1) dX10_fall_1 fX10_19 rfl ?_
  refine a_aload_n (pc := 4) dX10_fall_4 rfl ?_
  refine a_gr (pc := 5) dX10_fall_5 fX10_12 rfl ?_
  refine a_V1v (pc := 8) 8 dX10_fall_8 lcX9_refresh lX10_129 rfl rfl rfl (fit_of hR (by omega) rfl) (c_refresh_8 (d0 := d0) (yq y) Ed (by omega) hb.1 hs) rfl rfl (fun S' g1 hS hp => ?_)
  obtain ⟨rfl, ok, e13, e11, f1⟩ := hp
  have s1 : SeD 8 1 g1 (yq y) Ed := ⟨(f1.f (by decide) 12).trans hs.1, e11, Or.inr ⟨Ed, e13, Nat.le_refl _, fun _ => ok⟩⟩
  have hb1 : CIb k g1 y (n + 1) := hb.dq (q' := yq y) (w' := yw y) hk' f1 (by decide) (hb.1.fr f1 (by decide)) ⟨Ed, by omega, s1⟩ ((f1.f (by decide) 11).trans hb.2.2.1.2.2)
  have hb0 : CIb k g1 y n := by
    obtain ⟨h1, h2, h3, h4, h5, h6, ⟨q', h7⟩, h8⟩ := hb1
    obtain ⟨-, -, -, -, -, -, ⟨q2, h72⟩, -⟩ := hb
    exact ⟨h1, ⟨Ed, hEd, s1⟩, h3, h4, h5, h6, ⟨q2, h72.fr f1 (by decide) (by decide)⟩, h8⟩
  obtain ⟨cy, cn⟩ := ok.cnt
  refine a_aload_n (pc := 11) dX10_fall_11 rfl ?_
  refine a_gr (pc := 12) dX10_fall_12 fX10_19 rfl ?_
  refine a_gi (pc := 15) dX10_fall_15 fX10_133 rfl ?_
  by_cases hf : FitQ (yq y)
  · rw [if_pos hf] at ret
    obtain ⟨cy1, cy2⟩ := cy hf
    rw [cy1]
    refine a_sipush (pc := 18) (nI 4096) dX10_fall_18 (by decide) ?_
    refine a_icmp_leN (pc := 21) 31 dX10_fall_21 (by decide) (by omega) (by omega) (fun c1 => ?_) (fun c1 => ?_)
    · have no : insQ i (nI 0) (nI (nSt (yq y)) - nI 1) = false → AW mX10_fall X Q ad 0 0 (conc (SS kd k r) g1) 46 [some (.ref 0), some (.int i)] [] := by
        intro c1
        rw [if_neg (by rw [c1]; decide)] at ret
        refine a_aload_n (pc := 46) dX10_fall_46 rfl ?_
        refine a_iconst (pc := 47) (-1) dX10_fall_47 (by decide) ?_
        refine a_V1i (pc := 48) 9 dX10_fall_48 lcX10_refuse lX10_77 rfl rfl rfl (fit_of hR (by omega) rfl) (c_krefuse (d0 := d0) 1 (by decide) (by decide)) rfl rfl (ex_i ?_)
        refine ret _ _ 51 _ _ dX10_fall_51 rfl ?_
        exact ⟨rfl, ⟨kd, k, r, hk, rfl, hb0.ref hk' 1 (by decide)⟩, (f1.mono (by decide)).tr (fr_ref _ _)⟩
      rcases idx_br (i := i) (n := nSt (yq y)) (by omega) with ⟨c1, j, hj, rfl⟩ | ⟨c1, c2⟩
      · rw [if_pos c1, ix_n (by omega)] at ret
        refine a_iload_n (pc := 31) dX10_fall_31 rfl ?_
        refine a_if_ltN (pc := 32) 46 dX10_fall_32 (by decide) (by omega) (fun c3 => ?_) (fun c3 => ?_)
        · exact absurd c3 (by omega)
        · refine a_iload_n (pc := 35) dX10_fall_35 rfl ?_
          refine a_aload_n (pc := 36) dX10_fall_36 rfl ?_
          refine a_gr (pc := 37) dX10_fall_37 fX10_19 rfl ?_
          refine a_gi (pc := 40) dX10_fall_40 fX10_133 rfl ?_
          rw [cy1]
          refine a_icmp_ltN (pc := 43) 52 dX10_fall_43 (by decide) (by omega) (by omega) (fun c4 => ?_) (fun c4 => ?_)
          · refine a_aload_n (pc := 52) dX10_fall_52 rfl ?_
            refine a_gr (pc := 53) dX10_fall_53 fX10_19 rfl ?_
            refine a_iload_n (pc := 56) dX10_fall_56 rfl ?_
            refine a_V1v (pc := 57) 8 dX10_fall_57 lcX9_seek lX10_138 rfl rfl rfl (fit_of hR (by omega) rfl) (c_seekQ_8 (d0 := d0) (yq y) j ok hf hj) rfl rfl (fun S' g2 hS hp => ?_)
            obtain ⟨rfl, ok2, con, ek, f2⟩ := hp
            refine a_aload_n (pc := 60) dX10_fall_60 rfl ?_
            refine a_gr (pc := 61) dX10_fall_61 fX10_12 rfl ?_
            refine a_aload_n (pc := 64) dX10_fall_64 rfl ?_
            refine a_gr (pc := 65) dX10_fall_65 fX10_19 rfl ?_
            refine a_gr (pc := 68) dX10_fall_68 fX10_142 rfl ?_
            refine a_V1v (pc := 71) 0 dX10_fall_71 lcX0_comeUpWith lX10_145 rfl rfl rfl (fit_of hR (by omega) rfl) (c_comeUp_1 (d0 := d0) 9 (fSt (yq y) j) rfl (by decide) con) rfl rfl (fun S' g3 hS hp => ?_)
            obtain ⟨rfl, q3, w3, e3, f3⟩ := hp
            refine a_aload_n (pc := 74) dX10_fall_74 rfl ?_
            refine a_dup (pc := 75) dX10_fall_75 rfl ?_
            refine a_gi (pc := 76) dX10_fall_76 fX10_70 rfl ?_
            rw [show gF g3 0 9 = yf y from (f3.f (by decide) 9).trans ((f2.f (by decide) 9).trans ((f1.f (by decide) 9).trans hb.2.2.1.2.1))]
            refine a_iconst (pc := 79) (nI 1) dX10_fall_79 (by decide) ?_
            refine a_iadd (pc := 80) dX10_fall_80 ?_
            try rw [nI_add]
            refine a_pi (pc := 81) dX10_fall_81 fX10_70 rfl ?_
            refine a_iconst (pc := 84) (nI 1) dX10_fall_84 (by decide) ?_
            refine ret _ _ 85 _ _ dX10_fall_85 rfl ?_
            have f123 : Fr [1, 2, 3, 4, 5, 6, 7, 8, 9, 10, 11, 12, 13, 14, 15, 16] g g3 := ((f1.mono (by decide)).tr (f2.mono (by decide))).tr (f3.mono (by decide))
            have s3 : SeD 8 1 g3 (fSt (yq y) j, []) (Ed + 1) := s1.nx (g := g1) (by rw [e3, f2.f (by decide) 12, f1.f (by decide) 12, hs.1, nI_add]) ((f3.a (by decide)).trans (f2.a (by decide))) ((f3.f (by decide) 13).trans (ek 13 (by decide)))
            have hb3 := hb.dq (w' := yw y) hk' f123 (by decide) q3 ⟨Ed + 1, by omega, s3⟩ (by rw [w3, f2.f (by decide) 11, f1.f (by decide) 11, hb.2.2.1.2.2])
            refine ⟨rfl, ⟨kd, k, r, hk, rfl, ?_⟩, (f123.mono (by decide)).sF (by decide) _ _⟩
            have f4 : Fr [0] g3 (pF g3 0 9 (yf y + nI 1)) := (Fr.rf _ g3).sF (by decide) _ _
            obtain ⟨h1, h2, ⟨h3, h3', h3''⟩, h4, h5, h6, ⟨q', h7⟩, h8⟩ := hb3
            refine ⟨h1.fr f4 (by decide), h2.fr f4 (by decide) (by decide), ⟨by rw [gF_pF, if_neg (by decide)]; exact h3, by rw [gF_pF, if_pos ⟨rfl, rfl⟩], h3''⟩, h4, h5, h6.fr f4 (by decide) (by decide) (by decide) (by decide) (by decide), ⟨q', h7.fr f4 (by decide) (by decide)⟩, ?_⟩
            rcases hk' with rfl | rfl
            · exact h8.fr f4 (by decide) (by decide) (by decide)
            · exact h8.fr f4 (by decide) (by decide) (by decide)
          · exact absurd c4 (by omega)
      · refine a_iload_n (pc := 31) dX10_fall_31 rfl ?_
        refine a_if_lt (pc := 32) 46 dX10_fall_32 (by decide) (fun c3 => ?_) (fun c3 => ?_)
        · exact no c1
        · refine a_iload_n (pc := 35) dX10_fall_35 rfl ?_
          refine a_aload_n (pc := 36) dX10_fall_36 rfl ?_
          refine a_gr (pc := 37) dX10_fall_37 fX10_19 rfl ?_
          refine a_gi (pc := 40) dX10_fall_40 fX10_133 rfl ?_
          rw [cy1]
          refine a_icmp_lt (pc := 43) 52 dX10_fall_43 (by decide) (fun c4 => ?_) (fun c4 => ?_)
          · rcases c2 with z | z
            · exact absurd z c3
            · exact absurd c4 (Int32.not_lt.mpr z)
          · exact no c1
    · exact absurd c1 (by omega)
  · rw [if_neg hf] at ret
    rw [cn hf]
    refine a_sipush (pc := 18) (nI 4096) dX10_fall_18 (by decide) ?_
    refine a_icmp_leN (pc := 21) 31 dX10_fall_21 (by decide) (by omega) (by omega) (fun c1 => ?_) (fun c1 => ?_)
    · exact absurd c1 (by omega)
    · refine a_aload_n (pc := 24) dX10_fall_24 rfl ?_
      refine a_bipush (pc := 25) (-6) dX10_fall_25 (by decide) ?_
      refine a_V1i (pc := 27) 9 dX10_fall_27 lcX10_refuse lX10_77 rfl rfl rfl (fit_of hR (by omega) rfl) (c_krefuse (d0 := d0) 6 (by decide) (by decide)) rfl rfl (ex_i ?_)
      refine ret _ _ 30 _ _ dX10_fall_30 rfl ?_
      exact ⟨rfl, ⟨kd, k, r, hk, rfl, hb0.ref hk' 6 (by decide)⟩, (f1.mono (by decide)).tr (fr_ref _ _)⟩
