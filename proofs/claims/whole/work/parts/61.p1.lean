/-! copying; a field of the passage; seeking -/
section A61
variable {M : Mi} {X : Cx} {Q : State → Prop} {ad : Nat → Nat} {S : sH} {g : GH} {pc : Nat} {ls : List (Option Value)} {st : List Value}
theorem cp_w : Cond.static arraycopyName ∈ gW ∧ Cond.native arraycopyName ∈ gW ∧ Cond.initialized "java/lang/System" ∈ gW := ⟨gW_in 751 (by decide +kernel) rfl, gW_in 752 (by decide +kernel) rfl, gW_in 70 (by decide +kernel) rfl⟩
theorem lX7_35 : Cond.methodLink RX7 35 arraycopyName ∈ gW := gW_in 750 (by decide +kernel) rfl
theorem lX3_187 : Cond.methodLink RX3 187 arraycopyName ∈ gW := gW_in 768 (by decide +kernel) rfl
theorem a_copy {idx e a0 a n0 n1 : Nat} (sp dp n : Nat) (d : decode (mcc M) pc = .ok (.invokestatic idx, 3)) (L : Cond.methodLink (mown M) idx arraycopyName ∈ gW) (hR : xR X = rmD e) (he : 0 < e) (h0 : aiAt S a0 0 = some n0) (h1 : aiAt S a 0 = some n1) (hn0 : sp + n ≤ n0) (hn1 : dp + n ≤ n1) (hw : Nat.ble (st.map Value.category).sum 8 = true) (kk : AW M X Q ad 0 0 (conc S (pA g a (va_cpy (gA g a0) (gA g a) sp dp n))) (pc + 3) ls st) : AW M X Q ad 0 0 (conc S g) pc ls (.int (nI n) :: .int (nI dp) :: .ref a :: .int (nI sp) :: .ref a0 :: st) := by
  obtain ⟨ha0, hm0, ⟨z0, hz0⟩, h30⟩ := arI_ok (g := g) h0
  obtain ⟨ha1, hm1, ⟨z1, hz1⟩, h31⟩ := arI_ok (g := g) h1
  intro C H locs lc r
  have G := C.2.2.2.2.1
  have hs := rest_cat (ad := ad) st (Nat.le_of_ble_eq_true hw)
  have c1 : (nI sp).toNatClampNeg = sp := nI_clamp (by omega)
  have c2 : (nI dp).toNatClampNeg = dp := nI_clamp (by omega)
  have c3 : (nI n).toNatClampNeg = n := nI_clamp (by omega)
  refine va_copyi (cc := mcc M) C.1 C.2.1 (C.2.2.1.trans r.2.2.2.1.symm) C.2.2.2.1 (G _ L) (G _ cp_w.2.1) (G _ cp_w.1) (G _ cp_w.2.2) C.2.2.2.2.2.2.2.2.1.1 r.1 r.2.1 r.2.2.1 a0 a 0 0 (c0 := xdA X 0) (c1 := xdA X 0) (n0 := n0) (n1 := n1) (f := gA g a0) (g := gA g a) (ty := .int) (by rw [sw_at (h := conc S g) ha0, h30]; rfl) (by rw [sw_at (h := conc S g) ha1, h31]; rfl) rfl rfl rfl (nI_pos (by omega)) (nI_pos (by omega)) (nI_pos (by omega)) (by rw [c1, c3]; exact hn0) (by rw [c2, c3]; exact hn1) (fun i hi => rfl) (by rw [hR]; exact he) (by rw [hR, show nativeFrameWords "java/lang/System" "arraycopy" 5 = 7 from by decide]; show _ ≤ 64 * e; omega) d (fun H1 locs1 hP hD hS => ?_)
  rw [c1, c2, c3] at hP hD
  have e1 := sw_set (dA := xdA X) (ad := ad) (h := conc S g) (a := a) (c := .inl (0, n1, .inl (va_cpy (gA g a0) (gA g a) sp dp n))) ha1
  rw [conc_pA _ hz1] at e1
  exact kk C H1 locs1 lc ⟨e1 ▸ hP, e1 ▸ hD, hS, r.2.2.2⟩
theorem SS_up (kd kp rp : Nat) (c : sE) (kd' kp' rp' : Nat) (h : c = (SS kd' kp' rp').2 26) : ((SS kd kp rp).1, va_up (SS kd kp rp).2 26 c) = SS kd' kp' rp' := by
  subst h
  refine Prod.ext rfl (funext fun b => ?_)
  by_cases e : b = 26
  · subst e
    simp [va_up]
  · have hb : Nat.beq b 26 = false := by
      cases hq : Nat.beq b 26 with
      | false => rfl
      | true => exact absurd (Nat.eq_of_beq_eq_true hq) e
    show va_up (SS kd kp rp).2 26 _ b = (SS kd' kp' rp').2 b
    rw [va_up, if_neg e]
    show (match Nat.beq b 26 with | true => _ | false => SS0 b) = (match Nat.beq b 26 with | true => _ | false => SS0 b)
    rw [hb]
theorem a_p26 {idx fi r kd kp rp : Nat} {C : String} (kd' kp' rp' : Nat) (d : decode (mcc M) pc = .ok (.putfield idx, 3)) (F : Flk (mown M) idx 2 fi false (.object C)) (hfi : fi = 7 ∨ fi = 8 ∨ fi = 9) (e : .inr (2, ([.ref 27, .ref 34, .ref 43, .ref 47, .ref 51, .ref 61, .ref 62, .ref kd, .ref kp, .ref rp, .int 0, .int 0, .int 0, .int 0] : List Value).set fi (.ref r)) = (SS kd' kp' rp').2 26) (kk : AW M X Q ad 0 0 (conc (SS kd' kp' rp') g) (pc + 3) ls st) : AW M X Q ad 0 0 (conc (SS kd kp rp) g) pc ls (.ref r :: .ref 26 :: st) := by
  have hS : (SS kd kp rp).2 26 = .inr (2, [.ref 27, .ref 34, .ref 43, .ref 47, .ref 51, .ref 61, .ref 62, .ref kd, .ref kp, .ref rp, .int 0, .int 0, .int 0, .int 0]) := rfl
  refine h_putf (a := 26) (ci := 2) (fi := fi) (v := .ref r) (ty := .object C) (fs := cf (g.1 26) 0 [.ref 27, .ref 34, .ref 43, .ref 47, .ref 51, .ref 61, .ref 62, .ref kd, .ref kp, .ref rp, .int 0, .int 0, .int 0, .int 0]) d F (by decide : 26 < 107) rfl (by rcases hfi with rfl | rfl | rfl; exact (by decide : 7 < 14); exact (by decide : 8 < 14); exact (by decide : 9 < 14)) rfl rfl ?_
  have hx : ∀ x, ([.ref 27, .ref 34, .ref 43, .ref 47, .ref 51, .ref 61, .ref 62, .ref kd, .ref kp, .ref rp, .int 0, .int 0, .int 0, .int 0] : List Value)[fi]? ≠ some (.int x) := by
    intro x
    rcases hfi with rfl | rfl | rfl <;> (intro z; cases z)
  rw [conc_pR (r := r) hS hx, SS_up kd kp rp _ kd' kp' rp' e]
  exact kk
end A61
theorem ACv.mono {M : Mi} {d : Nat} {S : sH} {g : GH} {vs : List Value} {Po Po' : sH → GH → Prop} (c : ACv M d S g vs Po) (h : ∀ S' g', Po S' g' → Po' S' g') : ACv M d S g vs Po' := by
  intro l D dA ad sz
  have h2 := c l D dA ad sz
  intro p e ha hc hk s m args below hf hap hP hx
  obtain ⟨k, oc, a1, a2, a3, ⟨⟨⟨u, hoc, hpo, hB⟩, hF⟩, hL⟩⟩ := h2 p e ha hc hk s m args below hf hap hP hx
  exact ⟨k, oc, a1, a2, a3, ⟨⟨⟨u, hoc, h _ _ hpo, hB⟩, hF⟩, hL⟩⟩
theorem ACi.mono {M : Mi} {d : Nat} {S : sH} {g : GH} {vs : List Value} {Po Po' : Int32 → sH → GH → Prop} (c : ACi M d S g vs Po) (h : ∀ r S' g', Po r S' g' → Po' r S' g') : ACi M d S g vs Po' := by
  intro l D dA ad sz
  have h2 := c l D dA ad sz
  intro p e ha hc hk s m args below hf hap hP hx
  obtain ⟨k, oc, a1, a2, a3, ⟨⟨⟨r, u, hoc, hpo, hB⟩, hF⟩, hL⟩⟩ := h2 p e ha hc hk s m args below hf hap hP hx
  exact ⟨k, oc, a1, a2, a3, ⟨⟨⟨r, u, hoc, h _ _ _ hpo, hB⟩, hF⟩, hL⟩⟩
theorem ACl.mono {M : Mi} {d : Nat} {S : sH} {g : GH} {vs : List Value} {Po Po' : Int64 → sH → GH → Prop} (c : ACl M d S g vs Po) (h : ∀ r S' g', Po r S' g' → Po' r S' g') : ACl M d S g vs Po' := by
  intro l D dA ad sz
  have h2 := c l D dA ad sz
  intro p e ha hc hk s m args below hf hap hP hx
  obtain ⟨k, oc, a1, a2, a3, ⟨⟨⟨r, u, hoc, hpo, hB⟩, hF⟩, hL⟩⟩ := h2 p e ha hc hk s m args below hf hap hP hx
  exact ⟨k, oc, a1, a2, a3, ⟨⟨⟨r, u, hoc, h _ _ _ hpo, hB⟩, hF⟩, hL⟩⟩
theorem c_seekQ_8 {d0 kd kp rp : Nat} {g : GH} (q : Qd) (i : Nat) (hs : StOk 8 g q) (hf : FitQ q) (hi : i < nSt q) : ACv mX9_seek (d0 + 35) (SS kd kp rp) g [.ref 8, .int (nI i)] (fun S' g' => S' = SS kd kp rp ∧ StOk 8 g' q ∧ (∀ p, p < 32 → gA g' 9 p = fSt q i p) ∧ (∀ k, k ≠ 12 → gF g' 8 k = gF g 8 k) ∧ Fr [8, 9, 15, 16] g g') := by
  obtain ⟨L, op, s, hL, hp⟩ := hs
  obtain ⟨n1, n2, -⟩ := hL.enu
  obtain ⟨hD, hA, hO, hN, hc⟩ := id hL
  have h4 := n1.mp hf
  rw [n2 hf] at hi
  refine (c_seek_8 (d0 := d0) hD hA hO.2.1 hN i hi h4 hp).mono (fun S' g' => ?_)
  rintro ⟨h1, h2, h3, h4', h5⟩
  have el : lvg 8 g' = lvg 8 g := funext fun j => by unfold lvg; rw [h2.a (by decide)]
  have hL' : LvD 8 g' q L op s := by
    refine ⟨?_, ?_, ?_, ?_, ?_⟩
    · rw [el]
      exact hD.keep (h3 8 (by decide)) (h3 10 (by decide)) (h2.a (by decide)) (h2.a (by decide)) (h2.a (by decide))
    · intro e he l hl
      rw [el, h2.a (by decide)]
      exact hA e he l hl
    · rw [el, h2.a (by decide)]
      exact hO
    · rw [el]
      exact hN
    · rw [el, h3 11 (by decide)]
      exact hc
  have h5' : PosD 8 g' L (Eq1 q) op s (lvg 8 g') q.1 i := by rw [el]; exact h5
  exact ⟨h1, ⟨L, op, s, hL', Or.inr ⟨i, h4', by omega, h5'⟩⟩, hL'.enu.2.2 i h5' hf, h3, h2⟩
theorem c_seekQ_34 {d0 kd kp rp : Nat} {g : GH} (q : Qd) (i : Nat) (hs : StOk 34 g q) (hf : FitQ q) (hi : i < nSt q) : ACv mX9_seek (d0 + 35) (SS kd kp rp) g [.ref 34, .int (nI i)] (fun S' g' => S' = SS kd kp rp ∧ StOk 34 g' q ∧ (∀ p, p < 32 → gA g' 35 p = fSt q i p) ∧ (∀ k, k ≠ 12 → gF g' 34 k = gF g 34 k) ∧ Fr [34, 35, 41, 42] g g') := by
  obtain ⟨L, op, s, hL, hp⟩ := hs
  obtain ⟨n1, n2, -⟩ := hL.enu
  obtain ⟨hD, hA, hO, hN, hc⟩ := id hL
  have h4 := n1.mp hf
  rw [n2 hf] at hi
  refine (c_seek_34 (d0 := d0) hD hA hO.2.1 hN i hi h4 hp).mono (fun S' g' => ?_)
  rintro ⟨h1, h2, h3, h4', h5⟩
  have el : lvg 34 g' = lvg 34 g := funext fun j => by unfold lvg; rw [h2.a (by decide)]
  have hL' : LvD 34 g' q L op s := by
    refine ⟨?_, ?_, ?_, ?_, ?_⟩
    · rw [el]
      exact hD.keep (h3 8 (by decide)) (h3 10 (by decide)) (h2.a (by decide)) (h2.a (by decide)) (h2.a (by decide))
    · intro e he l hl
      rw [el, h2.a (by decide)]
      exact hA e he l hl
    · rw [el, h2.a (by decide)]
      exact hO
    · rw [el]
      exact hN
    · rw [el, h3 11 (by decide)]
      exact hc
  have h5' : PosD 34 g' L (Eq1 q) op s (lvg 34 g') q.1 i := by rw [el]; exact h5
  exact ⟨h1, ⟨L, op, s, hL', Or.inr ⟨i, h4', by omega, h5'⟩⟩, hL'.enu.2.2 i h5' hf, h3, h2⟩
/-! upper and lower ints of a long -/
theorem hi_b (x : Int64) {i : Nat} (hi : i < 32) : (hi32 x).toBitVec.getLsbD i = x.toBitVec.getLsbD (32 + i) := by
  show ((x.toBitVec.sshiftRight' (((nI 32).toInt64 &&& 63).toBitVec.smod 64)).signExtend 32).getLsbD i = _
  have e : ((((nI 32).toInt64 &&& 63).toBitVec.smod 64) : BitVec 64).toNat = 32 := by decide
  rw [BitVec.getLsbD_signExtend, BitVec.sshiftRight', e, BitVec.getLsbD_sshiftRight, decide_eq_true hi, Bool.true_and, if_pos (by omega), decide_eq_false (by omega : ¬ 64 ≤ i), if_pos (by omega)]
  rfl
theorem lo_b (x : Int64) {i : Nat} (hi : i < 32) : x.toInt32.toBitVec.getLsbD i = x.toBitVec.getLsbD i := by
  show (x.toBitVec.signExtend 32).getLsbD i = _
  rw [BitVec.getLsbD_signExtend, decide_eq_true hi, Bool.true_and, if_pos (by omega)]
theorem jn_b (a b : Int32) {i : Nat} (hi : i < 64) : (jn64 a b).toBitVec.getLsbD i = if i < 32 then b.toBitVec.getLsbD i else a.toBitVec.getLsbD (i - 32) := by
  show ((a.toBitVec.signExtend 64 <<< (((nI 32).toInt64 &&& 63).toBitVec.smod 64)) ||| (b.toBitVec.signExtend 64 &&& 4294967295#64)).getLsbD i = _
  have e : ((((nI 32).toInt64 &&& 63).toBitVec.smod 64) : BitVec 64) = 32#64 := by decide
  rw [e, BitVec.getLsbD_or, BitVec.getLsbD_and, BitVec.shiftLeft_eq', BitVec.getLsbD_shiftLeft, BitVec.getLsbD_signExtend, BitVec.getLsbD_signExtend, show (32#64).toNat = 32 by decide, show (4294967295#64) = BitVec.ofNat 64 (2 ^ 32 - 1) from rfl, BitVec.getLsbD_ofNat, Nat.testBit_two_pow_sub_one, decide_eq_true hi]
  by_cases h : i < 32
  · rw [decide_eq_true h, if_pos h, if_pos h]
    simp
  · rw [decide_eq_false h, if_neg h, decide_eq_true (by omega : i - 32 < 64), if_pos (by omega : i - 32 < 32)]
    simp
    intro z
    exact absurd z h
theorem hi_jn (a b : Int32) : hi32 (jn64 a b) = a := Int32.toBitVec_inj.mp (BitVec.eq_of_getLsbD_eq fun i hi => by
  rw [hi_b _ hi, jn_b _ _ (by omega), if_neg (by omega), Nat.add_sub_cancel_left])
theorem lo_jn (a b : Int32) : (jn64 a b).toInt32 = b := Int32.toBitVec_inj.mp (BitVec.eq_of_getLsbD_eq fun i hi => by
  rw [lo_b _ hi, jn_b _ _ (by omega), if_pos hi])
theorem hl_ext {x y : Int64} (h1 : hi32 x = hi32 y) (h2 : x.toInt32 = y.toInt32) : x = y := Int64.toBitVec_inj.mp (BitVec.eq_of_getLsbD_eq fun i hi => by
  by_cases h : i < 32
  · rw [← lo_b x h, ← lo_b y h, h2]
  · have e1 := hi_b x (i := i - 32) (by omega)
    have e2 := hi_b y (i := i - 32) (by omega)
    rw [show 32 + (i - 32) = i by omega] at e1 e2
    rw [← e1, ← e2, h1])
