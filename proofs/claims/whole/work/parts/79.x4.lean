/-! the law's four helpers -/
abbrev cxL : List Nat := [0, 1, 2, 3, 4, 5, 6, 7, 8, 9, 10, 11, 12, 13, 14, 15, 16, 17, 18, 19, 20, 21, 22, 23, 24, 25, 26, 27, 28, 29, 30, 31, 32, 33, 34, 35, 36, 37, 38, 39, 40, 41, 42, 43, 44, 45, 46, 47, 48, 49, 50, 51, 52, 53, 54, 55, 56, 57, 58, 59, 60, 61, 62, 63, 64, 65, 66, 67, 68, 69, 70, 71, 72, 73, 74, 75, 106]
theorem CI.ot {S : sH} {g g' : GH} {y : Sy} {n : Nat} (h : CI S g y n) (f : Fr [106] g g') : CI S g' y n := by
  obtain ⟨kd, k, r, hk, hS, hb⟩ := h
  refine ⟨kd, k, r, hk, hS, hb.fr f (by omega) ?_⟩
  intro i hi hm
  rw [List.mem_singleton] at hm
  omega
theorem MI.cx {g g' : GH} {y : Sy} (h : MI g y) (f : Fr cxL g g') : MI g' y := by
  obtain ⟨h1, ⟨h2, h2', h2''⟩, h3, h4, h5, h6⟩ := h
  refine ⟨h1.frG f (by decide) (by decide) (by decide) (by decide) (by decide), ⟨(f.f (by decide) _).trans h2, (f.f (by decide) _).trans h2', (f.f (by decide) _).trans h2''⟩, fun st hst => ?_, fun w hw => ?_, ?_, ?_⟩
  · rw [f.a (by decide)]
    exact h3 st hst
  · rw [f.a (by decide)]
    exact h4 w hw
  · unfold MSc at h5 ⊢
    rw [f.f (by decide), f.a (a := 93) (by decide), f.a (a := 94) (by decide), f.a (a := 95) (by decide), f.l (a := 96) (by decide)]
    exact h5
  · unfold RpK at h6 ⊢
    rw [f.a (a := 99) (by decide), f.a (a := 101) (by decide)]
    exact h6
/-- what a helper leaves -/
def hOk (g : GH) (r : Int32) : Option Int32 → Prop
  | some v => r = nI 0 ∧ gL g 106 0 = v.toInt64
  | none => r = nI 1
set_option maxHeartbeats 1000000 in
set_option maxRecDepth 100000 in
theorem l_read {d0 : Nat} {S : sH} {g : GH} {y : Sy} {n : Nat} (h : CI S g y n) (s p : Int32) : HCi mL_read [(0, 10, 13, 13)] (d0 + 42) S g [.ref 0, .int s, .int p, .ref 106] (fun r S' g' => hOk g' r (oRead y s p) ∧ CI S' g' y (n + 1) ∧ Fr cxL g g') := by
  have h0 := h
  obtain ⟨kd, k, r, hk, rfl, hb⟩ := h
  refine HCi.of (by decide +kernel) rfl rfl (fun X Q ad hR hl hT htb ret => ?_)
  refine AW_ls (ls' := [_, _, _, _, _]) rfl ?_
  refine a_aload_n (pc := 0) dL_read_0 rfl ?_
  refine a_iconst (pc := 1) (nI 0) dL_read_1 (by decide) ?_
  refine a_aload_n (pc := 2) dL_read_2 rfl ?_
  refine a_iload_n (pc := 3) dL_read_3 rfl ?_
  refine a_iload_n (pc := 4) dL_read_4 rfl ?_
  refine call_VXi (vs := [.int s, .int p]) (a := 0) (ci := 9) dL_read_5 lcX10_read lL_7 rfl rfl rfl (fitX_of hR (by omega) rfl) hl hT (k_read (d0 := d0) h0 s p) rfl rfl (fun E S' g' hS hp => ?_) (fun rr S' g' hS hp => ?_)
  · obtain ⟨⟨ho, rfl⟩, hC, hf⟩ := hp
    refine x_catch hT [] ⟨0, 10, 13, 13⟩ [] htb (fun z hz => by cases hz) (by decide) (by decide) (gW_in 836 (by decide +kernel) rfl) hT.2.1.1 dL_read_13 (by decide) ?_
    refine a_iconst (pc := 15) (nI 1) dL_read_15 (by decide) ?_
    refine ret _ _ 16 _ _ _ _ (Nat.le_refl _) (Nat.le_refl _) dL_read_16 hS ?_
    exact ⟨by rw [ho]; rfl, hC, hf.mono (by decide)⟩
  · obtain ⟨ho, hC, hf⟩ := hp
    obtain ⟨kd', k', r', hk', rfl, hb'⟩ := hC
    refine a_i2l (pc := 8) dL_read_8 ?_
    refine a_lst (pc := 9) (0) dL_read_9 rfl rfl (by omega) ?_
    refine a_goto (pc := 10) 17 dL_read_10 (by decide) ?_
    refine a_iconst (pc := 17) (nI 0) dL_read_17 (by decide) ?_
    refine ret _ _ 18 _ _ _ _ (Nat.le_refl _) (Nat.le_refl _) dL_read_18 hS ?_
    have f2 : Fr [106] g' (pL g' 106 (vp_updL (gL g' 106) 0 rr.toInt64)) := (Fr.rf _ g').sL (by decide) _
    refine ⟨?_, CI.ot ⟨kd', k', r', hk', rfl, hb'⟩ f2, (hf.mono (by decide)).sL (by decide) _⟩
    rw [ho]
    refine ⟨rfl, ?_⟩
    rw [gL_pL, if_pos rfl, vp_updL, if_pos rfl]
set_option maxHeartbeats 1000000 in
set_option maxRecDepth 100000 in
theorem l_plate {d0 : Nat} {S : sH} {g : GH} {y : Sy} {n : Nat} (h : CI S g y n) (s p : Int32) : HCi mL_plate [(0, 10, 13, 13)] (d0 + 42) S g [.ref 0, .int s, .int p, .ref 106] (fun r S' g' => hOk g' r (oPlate y s p) ∧ CI S' g' y (n + 1) ∧ Fr cxL g g') := by
  have h0 := h
  obtain ⟨kd, k, r, hk, rfl, hb⟩ := h
  refine HCi.of (by decide +kernel) rfl rfl (fun X Q ad hR hl hT htb ret => ?_)
  refine AW_ls (ls' := [_, _, _, _, _]) rfl ?_
  refine a_aload_n (pc := 0) dL_plate_0 rfl ?_
  refine a_iconst (pc := 1) (nI 0) dL_plate_1 (by decide) ?_
  refine a_aload_n (pc := 2) dL_plate_2 rfl ?_
  refine a_iload_n (pc := 3) dL_plate_3 rfl ?_
  refine a_iload_n (pc := 4) dL_plate_4 rfl ?_
  refine call_VXi (vs := [.int s, .int p]) (a := 0) (ci := 9) dL_plate_5 lcX10_plate lL_15 rfl rfl rfl (fitX_of hR (by omega) rfl) hl hT (k_plate (d0 := d0) h0 s p) rfl rfl (fun E S' g' hS hp => ?_) (fun rr S' g' hS hp => ?_)
  · obtain ⟨⟨ho, rfl⟩, hC, hf⟩ := hp
    refine x_catch hT [] ⟨0, 10, 13, 13⟩ [] htb (fun z hz => by cases hz) (by decide) (by decide) (gW_in 836 (by decide +kernel) rfl) hT.2.1.1 dL_plate_13 (by decide) ?_
    refine a_iconst (pc := 15) (nI 1) dL_plate_15 (by decide) ?_
    refine ret _ _ 16 _ _ _ _ (Nat.le_refl _) (Nat.le_refl _) dL_plate_16 hS ?_
    exact ⟨by rw [ho]; rfl, hC, hf.mono (by decide)⟩
  · obtain ⟨ho, hC, hf⟩ := hp
    obtain ⟨kd', k', r', hk', rfl, hb'⟩ := hC
    refine a_i2l (pc := 8) dL_plate_8 ?_
    refine a_lst (pc := 9) (0) dL_plate_9 rfl rfl (by omega) ?_
    refine a_goto (pc := 10) 17 dL_plate_10 (by decide) ?_
    refine a_iconst (pc := 17) (nI 0) dL_plate_17 (by decide) ?_
    refine ret _ _ 18 _ _ _ _ (Nat.le_refl _) (Nat.le_refl _) dL_plate_18 hS ?_
    have f2 : Fr [106] g' (pL g' 106 (vp_updL (gL g' 106) 0 rr.toInt64)) := (Fr.rf _ g').sL (by decide) _
    refine ⟨?_, CI.ot ⟨kd', k', r', hk', rfl, hb'⟩ f2, (hf.mono (by decide)).sL (by decide) _⟩
    rw [ho]
    refine ⟨rfl, ?_⟩
    rw [gL_pL, if_pos rfl, vp_updL, if_pos rfl]
set_option maxHeartbeats 1000000 in
set_option maxRecDepth 100000 in
theorem l_state {d0 : Nat} {S : sH} {g : GH} {y : Sy} {n : Nat} (h : CI S g y n) (hn : n < 512) (i s p : Int32) : HCi mL_state [(0, 12, 15, 13)] (d0 + 42) S g [.ref 0, .int i, .int s, .int p, .ref 106] (fun r S' g' => hOk g' r (oState y i s p) ∧ CI S' g' y (n + 1) ∧ Fr cxL g g') := by
  have h0 := h
  obtain ⟨kd, k, r, hk, rfl, hb⟩ := h
  refine HCi.of (by decide +kernel) rfl rfl (fun X Q ad hR hl hT htb ret => ?_)
  refine AW_ls (ls' := [_, _, _, _, _, _]) rfl ?_
  refine a_aload (pc := 0) dL_state_0 rfl ?_
  refine a_iconst (pc := 2) (nI 0) dL_state_2 (by decide) ?_
  refine a_aload_n (pc := 3) dL_state_3 rfl ?_
  refine a_iload_n (pc := 4) dL_state_4 rfl ?_
  refine a_iload_n (pc := 5) dL_state_5 rfl ?_
  refine a_iload_n (pc := 6) dL_state_6 rfl ?_
  refine call_VXi (vs := [.int i, .int s, .int p]) (a := 0) (ci := 9) dL_state_7 lcX10_state lL_18 rfl rfl rfl (fitX_of hR (by omega) rfl) hl hT (k_state (d0 := d0) h0 hn i s p) rfl rfl (fun E S' g' hS hp => ?_) (fun rr S' g' hS hp => ?_)
  · obtain ⟨⟨ho, rfl⟩, hC, hf⟩ := hp
    refine x_catch hT [] ⟨0, 12, 15, 13⟩ [] htb (fun z hz => by cases hz) (by decide) (by decide) (gW_in 836 (by decide +kernel) rfl) hT.2.1.1 dL_state_15 (by decide) ?_
    refine a_iconst (pc := 17) (nI 1) dL_state_17 (by decide) ?_
    refine ret _ _ 18 _ _ _ _ (Nat.le_refl _) (Nat.le_refl _) dL_state_18 hS ?_
    exact ⟨by rw [ho]; rfl, hC, hf.mono (by decide)⟩
  · obtain ⟨ho, hC, hf⟩ := hp
    obtain ⟨kd', k', r', hk', rfl, hb'⟩ := hC
    refine a_i2l (pc := 10) dL_state_10 ?_
    refine a_lst (pc := 11) (0) dL_state_11 rfl rfl (by omega) ?_
    refine a_goto (pc := 12) 19 dL_state_12 (by decide) ?_
    refine a_iconst (pc := 19) (nI 0) dL_state_19 (by decide) ?_
    refine ret _ _ 20 _ _ _ _ (Nat.le_refl _) (Nat.le_refl _) dL_state_20 hS ?_
    have f2 : Fr [106] g' (pL g' 106 (vp_updL (gL g' 106) 0 rr.toInt64)) := (Fr.rf _ g').sL (by decide) _
    refine ⟨?_, CI.ot ⟨kd', k', r', hk', rfl, hb'⟩ f2, (hf.mono (by decide)).sL (by decide) _⟩
    rw [ho]
    refine ⟨rfl, ?_⟩
    rw [gL_pL, if_pos rfl, vp_updL, if_pos rfl]
set_option maxHeartbeats 1000000 in
set_option maxRecDepth 100000 in
theorem l_get {d0 : Nat} {S : sH} {g : GH} {y : Sy} {n : Nat} (h : CI S g y n) (hy : Yok y) (x : Int32) : HCi mL_get [(0, 8, 11, 26), (0, 8, 14, 13)] (d0 + 42) S g [.ref 0, .int x, .ref 106] (fun r S' g' => (r = nI (oGet y x).1 ∧ ((oGet y x).1 = 0 → gL g' 106 0 = (oGet y x).2)) ∧ CI S' g' y (n + 1) ∧ Fr cxL g g') := by
  have h0 := h
  obtain ⟨kd, k, r, hk, rfl, hb⟩ := h
  refine HCi.of (by decide +kernel) rfl rfl (fun X Q ad hR hl hT htb ret => ?_)
  refine AW_ls (ls' := [_, _, _, _]) rfl ?_
  refine a_aload_n (pc := 0) dL_get_0 rfl ?_
  refine a_iconst (pc := 1) (nI 0) dL_get_1 (by decide) ?_
  refine a_aload_n (pc := 2) dL_get_2 rfl ?_
  refine a_iload_n (pc := 3) dL_get_3 rfl ?_
  refine call_VXl (vs := [.int x]) (a := 0) (ci := 9) dL_get_4 lcX10_get lL_22 rfl rfl rfl (fitX_of hR (by omega) rfl) hl hT (k_get (d0 := d0) h0 hy x) rfl rfl (fun E S' g' hS hp => ?_) (fun rr S' g' hS hp => ?_)
  · obtain ⟨ho, hC, hf⟩ := hp
    rcases ho with ⟨ho, rfl⟩ | ⟨ho, rfl⟩
    · refine x_catch_n (i := 3) hT [] ⟨0, 8, 11, 26⟩ [⟨0, 8, 14, 13⟩] htb (fun z hz => by cases hz) (by decide) (by decide) (gW_in 929 (by decide +kernel) rfl) hT.2.1.2.1 dL_get_11 (by decide) ?_
      refine a_iconst (pc := 12) (nI 1) dL_get_12 (by decide) ?_
      refine ret _ _ 13 _ _ _ _ (Nat.le_refl _) (Nat.le_refl _) dL_get_13 hS ?_
      exact ⟨⟨by rw [ho], fun z => by rw [ho] at z; cases z⟩, hC, hf.mono (by decide)⟩
    · refine x_catch_n (i := 3) hT [⟨0, 8, 11, 26⟩] ⟨0, 8, 14, 13⟩ [] htb (fun z hz => ?_) (by decide) (by decide) (gW_in 836 (by decide +kernel) rfl) hT.2.1.1 dL_get_14 (by decide) ?_
      · rw [List.mem_singleton] at hz
        subst hz
        exact Or.inr ⟨by decide, eS, gW_in 929 (by decide +kernel) rfl, hT.2.1.2.2⟩
      · refine a_iconst (pc := 15) (nI 2) dL_get_15 (by decide) ?_
        refine ret _ _ 16 _ _ _ _ (Nat.le_refl _) (Nat.le_refl _) dL_get_16 hS ?_
        exact ⟨⟨by rw [ho], fun z => by rw [ho] at z; cases z⟩, hC, hf.mono (by decide)⟩
  · obtain ⟨ho, hC, hf⟩ := hp
    obtain ⟨kd', k', r', hk', rfl, hb'⟩ := hC
    refine a_lst (pc := 7) (0) dL_get_7 rfl rfl (by omega) ?_
    refine a_goto (pc := 8) 17 dL_get_8 (by decide) ?_
    refine a_iconst (pc := 17) (nI 0) dL_get_17 (by decide) ?_
    refine ret _ _ 18 _ _ _ _ (Nat.le_refl _) (Nat.le_refl _) dL_get_18 hS ?_
    have f2 : Fr [106] g' (pL g' 106 (vp_updL (gL g' 106) 0 rr)) := (Fr.rf _ g').sL (by decide) _
    refine ⟨?_, CI.ot ⟨kd', k', r', hk', rfl, hb'⟩ f2, (hf.mono (by decide)).sL (by decide) _⟩
    rw [ho]
    refine ⟨rfl, fun _ => ?_⟩
    rw [gL_pL, if_pos rfl, vp_updL, if_pos rfl]
