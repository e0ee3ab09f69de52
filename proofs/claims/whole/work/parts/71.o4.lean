/-! going through, spared fences, numbers -/
noncomputable def oThrough (y : Sy) (x : Int32) : Int32 × Sy := if insQ x (nI 0) (nI 2) = true then (match walkM (yA y) (ix x) (ys y (ix x)) with
  | none => (-nI 6, bmp y 6)
  | some rp => (nI (rp.1 2), sG y rp)) else (-nI 2, bmp y 2)
def oGone (y : Sy) (w : Int32) : Int32 := if insQ w (nI 0) (nI 6) = true then nI ((yg y).1 (ix w)) else -9
def oBad (y : Sy) (i w : Int32) : Int32 × Sy := if insQ i (nI 0) (nI (min ((yg y).1 2) 50) - nI 1) = true then (if insQ w (nI 0) (nI 9) = true then ((yg y).2.getD (ix i) []).getD (ix w) 0 else -9, y) else (-nI 1, bmp y 1)
def spF (m f : Nat) (on : Bool) : Nat := if m.testBit f = on then m else if on = true then m + 2 ^ f else m - 2 ^ f
def oSpare (y : Sy) (x f : Int32) (on : Bool) : Bool × Sy := if insQ x (nI 0) (nI 2) = true ∧ insQ f (nI 0) (nI (fnN (ix x)) - nI 1) = true then (!decide ((ys y (ix x)).testBit (ix f) = on), sS y (tu (ys y) (ix x) (spF (ys y (ix x)) (ix f) on))) else (false, y)
noncomputable def oLeast (y : Sy) (x : Int32) : Int32 × Sy := if insQ x (nI 0) (nI 2) = true then (@ite _ (goodM (yA y) (ix x) 0) (Classical.propDecidable _) (nI (lstW (yA y) (ix x) (fnN (ix x))).2, y) (match walkM (yA y) (ix x) 0 with
  | none => (-nI 6, bmp y 6)
  | some _ => (-nI 5, bmp y 5))) else (-nI 2, bmp y 2)
def oDigest (y : Sy) (w : Int32) : Int32 := if insQ w (nI 0) (nI 1) = true then dgA (fun p => if w = 0 then (yq y).1 p else flQ (yq y) p) 32 else -9
def oStatus (y : Sy) (w : Int32) : Int32 := if insQ w (nI 0) (nI 7) = true then (match ix w with
  | 0 => nI (yq y).2.length
  | 1 => nI (wct (qS (yq y).2) (yq y).2.length)
  | 2 => nI (epc (qS (yq y).2) (yq y).2.length)
  | 3 => yk y
  | 4 => nI (yA y).length
  | 5 => if yk y = nI 2 then verQ (yq y) else nI 0
  | 6 => yw y
  | _ => yf y) else if insQ w (nI 11) (nI 16) = true then yr y (ix w - 10) else -9
theorem sp_bits : ∀ m f, m < 16 → f < 4 → (nI m ||| (nI 1 <<< (nI f &&& 31)) = nI (spF m f true)) ∧ (nI m &&& ((nI 1 <<< (nI f &&& 31)) ^^^ (-1)) = nI (spF m f false)) ∧ spF m f true < 16 ∧ spF m f false < 16 := by
  have : ∀ m : Fin 16, ∀ f : Fin 4, (nI m.1 ||| (nI 1 <<< (nI f.1 &&& 31)) = nI (spF m.1 f.1 true)) ∧ (nI m.1 &&& ((nI 1 <<< (nI f.1 &&& 31)) ^^^ (-1)) = nI (spF m.1 f.1 false)) ∧ spF m.1 f.1 true < 16 ∧ spF m.1 f.1 false < 16 := by decide +kernel
  exact fun m f hm hf => this ⟨m, hm⟩ ⟨f, hf⟩
theorem sp_same : ∀ m f, m < 16 → f < 4 → ∀ on : Bool, spF m f on = m ↔ m.testBit f = on := by
  have : ∀ m : Fin 16, ∀ f : Fin 4, ∀ on : Bool, spF m.1 f.1 on = m.1 ↔ m.1.testBit f.1 = on := by decide +kernel
  exact fun m f hm hf => this ⟨m, hm⟩ ⟨f, hf⟩
theorem sp_test : ∀ m f f', m < 16 → f < 4 → f' < 4 → ∀ on : Bool, (spF m f on).testBit f' = if f' = f then on else m.testBit f' := by
  have : ∀ m : Fin 16, ∀ f : Fin 4, ∀ f' : Fin 4, ∀ on : Bool, (spF m.1 f.1 on).testBit f'.1 = if f'.1 = f.1 then on else m.1.testBit f'.1 := by decide +kernel
  exact fun m f f' hm hf hf' => this ⟨m, hm⟩ ⟨f, hf⟩ ⟨f', hf'⟩
theorem sp_lt : ∀ m f e, e ≤ 4 → m < 2 ^ e → f < e → ∀ on : Bool, spF m f on < 2 ^ e := by
  have : ∀ e : Fin 5, ∀ m : Fin 16, ∀ f : Fin 4, m.1 < 2 ^ e.1 → f.1 < e.1 → ∀ on : Bool, spF m.1 f.1 on < 2 ^ e.1 := by decide +kernel
  intro m f e he hm hf
  have h16 : 2 ^ e ≤ 2 ^ 4 := Nat.pow_le_pow_right (by decide) he
  exact this ⟨e, by omega⟩ ⟨m, by omega⟩ ⟨f, by omega⟩ hm hf
theorem CIb.wk {k : Nat} {g g' : GH} {y : Sy} {n : Nat} {B : List Nat} (h : CIb k g y n) (f : Fr B g g') (hB : ∀ i ∈ B, 26 ≤ i ∧ i ≤ 69) (hk : k ∉ B) (hk1 : k + 1 ∉ B) (hk2 : k + 2 ∉ B) (s : ∃ q', SeB 34 27 g' q' (600 * (n + 1))) : CIb k g' y (n + 1) := by
  have hn : ∀ i, i < 26 ∨ 69 < i → i ∉ B := fun i hi hm => by have := hB i hm; omega
  obtain ⟨h1, h2, ⟨h3, h3', h3''⟩, h4, h5, h6, ⟨q2, h7⟩, h8⟩ := h
  refine ⟨h1.fr f (fun i hi => hn _ (by omega)), (h2.fr f (hn _ (by omega)) (fun i hi => hn _ (by omega))).up (by omega), ⟨(f.f (hn _ (by omega)) _).trans h3, (f.f (hn _ (by omega)) _).trans h3', (f.f (hn _ (by omega)) _).trans h3''⟩, fun st hst => ?_, fun w hw => ?_, h6.fr f (hn _ (by omega)) (hn _ (by omega)) (hn _ (by omega)) (hn _ (by omega)) (hn _ (by omega)), s, h8.fr f hk hk1 hk2⟩
  · rw [f.a (hn _ (by omega))]
    exact h4 st hst
  · rw [f.a (hn _ (by omega))]
    exact h5 w hw
theorem CIb.ref1 {k : Nat} {g : GH} {y : Sy} {n : Nat} (h : CIb k g y (n + 1)) (hk : k = 64 ∨ k = 67) (w : Nat) (hw : w < 7) : CIb k (pA g 75 (upd (gA g 75) w (gA g 75 w + nI 1))) (bmp y w) (n + 1) := by
  have f : Fr [75] g (pA g 75 (upd (gA g 75) w (gA g 75 w + nI 1))) := (Fr.rf _ g).sA (by decide) _
  obtain ⟨h1, h2, ⟨h3, h3', h3''⟩, h4, h5, h6, ⟨q', h7⟩, h8⟩ := h
  refine ⟨h1.fr f (by decide), h2.fr f (by decide) (by decide), ⟨h3, h3', h3''⟩, h4, fun x hx => ?_, h6.fr f (by decide) (by decide) (by decide) (by decide) (by decide), ⟨q', h7.fr f (by decide) (by decide)⟩, ?_⟩
  · rw [gA_pA, if_pos rfl]
    show upd (gA g 75) w _ x = upd (yr y) w (yr y w + nI 1) x
    simp only [upd]
    rw [h5 x hx, h5 w hw]
  · rcases hk with rfl | rfl
    · exact h8.fr f (by decide) (by decide) (by decide)
    · exact h8.fr f (by decide) (by decide) (by decide)
theorem CIb.rp {k r : Nat} {g : GH} {y : Sy} {n : Nat} {rp : Rp} (h : CIb k g y n) (hr : RpC r g rp) : CIb r g (sG y rp) n := by
  obtain ⟨h1, h2, h3, h4, h5, h6, h7, h8⟩ := h
  exact ⟨h1, h2, h3, h4, h5, h6, h7, hr⟩
set_option maxHeartbeats 1000000 in
set_option maxRecDepth 100000 in
theorem k_through_67 {d0 kd : Nat} {g : GH} {y : Sy} {n : Nat} (hb : CIb 64 g y n) (hy : Yok y) (hn : n < 512) (x : Int32) : ACi mX10_through (d0 + 40) (SS kd 64 67) g [.ref 0, .int x] (fun rr S' g' => rr = (oThrough y x).1 ∧ CI S' g' (oThrough y x).2 (n + 1) ∧ Fr clL g g') := by
  have hk : (64 = 64 ∧ 67 = 67) ∨ (64 = 67 ∧ 67 = 64) := by decide
  have hk2 : (67 = 64 ∧ 64 = 67) ∨ (67 = 67 ∧ 64 = 64) := by decide
  have hk' : 64 = 64 ∨ 64 = 67 := by decide
  have hA := hb.2.2.2.2.2.1
  obtain ⟨q0, Ed, hEd, hs⟩ := hb.2.2.2.2.2.2.1
  unfold oThrough
  refine ACi.of lcX10_through rfl rfl (fun X Q ad hR ret => ?_)
  refine AW_ls (ls' := [_, _]) rfl ?_
  refine a_aload_n (pc := 0) dX10_through_0 rfl ?_
  refine a_iload_n (pc := 1) dX10_through_1 rfl ?_
  refine a_V1i (pc := 2) 9 dX10_through_2 lcX10_isKind lX10_149 rfl rfl rfl (fit_of hR (by omega) rfl) (c_isKind (d0 := d0) x) rfl rfl (ex_i ?_)
  refine a_if_neB (pc := 5) 15 dX10_through_5 (by decide) (fun c1 => ?_) (fun c1 => ?_)
  · rw [if_pos c1] at ret
    obtain ⟨st, hst, rfl⟩ := (insQ_ok (by decide)).mp c1
    rw [ix_n (by omega)] at ret
    have hm := ys16 hy (st := st) (by omega)
    refine a_aload_n (pc := 15) dX10_through_15 rfl ?_
    refine a_gr (pc := 16) dX10_through_16 fX10_40 rfl ?_
    refine a_aload_n (pc := 19) dX10_through_19 rfl ?_
    refine a_gr (pc := 20) dX10_through_20 fX10_55 rfl ?_
    refine a_iload_n (pc := 23) dX10_through_23 rfl ?_
    refine a_aal (pc := 24) 3 st (Or.inl rfl) dX10_through_24 (kin_at st (by omega)) rfl ?_
    refine a_aload_n (pc := 25) dX10_through_25 rfl ?_
    refine a_gr (pc := 26) dX10_through_26 fX10_59 rfl ?_
    refine a_iload_n (pc := 29) dX10_through_29 rfl ?_
    refine a_ial (pc := 30) _ dX10_through_30 rfl rfl (by omega) ?_
    rw [hb.2.2.2.1 st (by omega)]
    refine a_aload_n (pc := 31) dX10_through_31 rfl ?_
    refine a_gr (pc := 32) dX10_through_32 fX10_33 rfl ?_
    refine a_iconst (pc := 35) (nI 0) dX10_through_35 (by decide) ?_
    refine a_V4i (pc := 36) 2 dX10_through_36 lcX3_walk lX10_210 rfl rfl rfl (fit_of hR (by omega) rfl) (c_walk_67 (d0 := d0) (yA y) st (ys y st) Ed false q0 (by omega) hm hA hs (by omega)) rfl rfl (fun rr S' g1 hS hp => ?_)
    obtain ⟨rfl, f1, ⟨Ed', q', d1, d2, s1⟩, b, rfl, hyes, hno⟩ := hp
    have hb1 : CIb 64 g1 y (n + 1) := hb.wk f1 (by decide) (by decide) (by decide) (by decide) ⟨q', Ed', by omega, s1⟩
    refine a_if_neB (pc := 39) 49 dX10_through_39 (by decide) (fun c2 => ?_) (fun c2 => ?_)
    · obtain ⟨rp', w1, r1, -⟩ := hyes c2
      rw [w1] at ret
      refine a_aload_n (pc := 49) dX10_through_49 rfl ?_
      refine a_gr (pc := 50) dX10_through_50 fX10_40 rfl ?_
      refine a_V0v (pc := 53) 2 dX10_through_53 lcX3_keepReport lX10_214 rfl rfl rfl (fit_of hR (by omega) rfl) (c_keepReport_67 (d0 := d0)) rfl rfl (ex_v ?_)
      refine a_aload_n (pc := 56) dX10_through_56 rfl ?_
      refine a_gr (pc := 57) dX10_through_57 fX10_40 rfl ?_
      refine a_gr (pc := 60) dX10_through_60 fX10_217 rfl ?_
      refine a_gr (pc := 63) dX10_through_63 fX10_221 rfl ?_
      refine a_iconst (pc := 66) (nI 2) dX10_through_66 (by decide) ?_
      refine a_ial (pc := 67) _ dX10_through_67 rfl rfl (by omega) ?_
      rw [show gA g1 68 2 = _ from r1.1 2 (by decide)]
      refine ret _ _ 68 _ _ dX10_through_68 rfl ?_
      exact ⟨rfl, ⟨71 + st, 67, 64, hk2, rfl, hb1.rp r1⟩, f1.mono (by decide)⟩
    · have w1 : walkM (yA y) st (ys y st) = none := (hno c2).elim id (fun z => by cases z.1)
      rw [w1] at ret
      refine a_aload_n (pc := 42) dX10_through_42 rfl ?_
      refine a_bipush (pc := 43) (-6) dX10_through_43 (by decide) ?_
      refine a_V1i (pc := 45) 9 dX10_through_45 lcX10_refuse lX10_77 rfl rfl rfl (fit_of hR (by omega) rfl) (c_krefuse (d0 := d0) 6 (by decide) (by decide)) rfl rfl (ex_i ?_)
      refine ret _ _ 48 _ _ dX10_through_48 rfl ?_
      exact ⟨rfl, ⟨71 + st, 64, 67, hk, rfl, hb1.ref1 hk' 6 (by decide)⟩, (f1.mono (by decide)).tr (fr_ref _ _)⟩
  · rw [if_neg (by rw [c1]; decide)] at ret
    refine a_aload_n (pc := 8) dX10_through_8 rfl ?_
    refine a_bipush (pc := 9) (-2) dX10_through_9 (by decide) ?_
    refine a_V1i (pc := 11) 9 dX10_through_11 lcX10_refuse lX10_77 rfl rfl rfl (fit_of hR (by omega) rfl) (c_krefuse (d0 := d0) 2 (by decide) (by decide)) rfl rfl (ex_i ?_)
    refine ret _ _ 14 _ _ dX10_through_14 rfl ?_
    exact ⟨rfl, ⟨kd, 64, 67, hk, rfl, hb.ref hk' 2 (by decide)⟩, fr_ref _ _⟩
set_option maxHeartbeats 1000000 in
set_option maxRecDepth 100000 in
theorem k_gone_67 {d0 kd : Nat} {g : GH} {y : Sy} {n : Nat} (hb : CIb 64 g y n) (hn : n < 512) (w : Int32) : ACi mX10_gone (d0 + 40) (SS kd 64 67) g [.ref 0, .int w] (fun rr S' g' => rr = oGone y w ∧ CI S' g' y (n + 1) ∧ Fr clL g g') := by
  have hk : (64 = 64 ∧ 67 = 67) ∨ (64 = 67 ∧ 67 = 64) := by decide
  have fin : CI (SS kd 64 67) g y (n + 1) := ⟨kd, 64, 67, hk, rfl, hb.n (by omega)⟩
  have e7 : nI 7 - nI 1 = nI 6 := by decide
  unfold oGone
  rw [← e7]
  refine ACi.of lcX10_gone rfl rfl (fun X Q ad hR ret => ?_)
  refine AW_ls (ls' := [_, _]) rfl ?_
  have no : insQ w (nI 0) (nI 7 - nI 1) = false → AW mX10_gone X Q ad 0 0 (conc (SS kd 64 67) g) 10 [some (.ref 0), some (.int w)] [] := by
    intro c1
    rw [if_neg (by rw [c1]; decide)] at ret
    refine a_bipush (pc := 10) (-9) dX10_gone_10 (by decide) ?_
    refine ret _ _ 12 _ _ dX10_gone_12 rfl ?_
    exact ⟨rfl, fin, Fr.rf _ g⟩
  rcases idx_br (i := w) (n := 7) (by decide) with ⟨c1, j, hj, rfl⟩ | ⟨c1, c2⟩
  · rw [if_pos c1, ix_n (by omega)] at ret
    refine a_iload_n (pc := 0) dX10_gone_0 rfl ?_
    refine a_if_ltN (pc := 1) 10 dX10_gone_1 (by decide) (by omega) (fun c3 => ?_) (fun c3 => ?_)
    · exact absurd c3 (by omega)
    · refine a_iload_n (pc := 4) dX10_gone_4 rfl ?_
      refine a_bipush (pc := 5) (nI 7) dX10_gone_5 (by decide) ?_
      refine a_icmp_ltN (pc := 7) 13 dX10_gone_7 (by decide) (by omega) (by omega) (fun c4 => ?_) (fun c4 => ?_)
      · refine a_aload_n (pc := 13) dX10_gone_13 rfl ?_
        refine a_gr (pc := 14) dX10_gone_14 fX10_40 rfl ?_
        refine a_gr (pc := 17) dX10_gone_17 fX10_217 rfl ?_
        refine a_gr (pc := 20) dX10_gone_20 fX10_221 rfl ?_
        refine a_iload_n (pc := 23) dX10_gone_23 rfl ?_
        refine a_ial (pc := 24) _ dX10_gone_24 rfl rfl (by omega) ?_
        rw [show gA g 65 j = _ from hb.2.2.2.2.2.2.2.1 j hj]
        refine ret _ _ 25 _ _ dX10_gone_25 rfl ?_
        exact ⟨rfl, fin, Fr.rf _ g⟩
      · exact absurd c4 (by omega)
  · refine a_iload_n (pc := 0) dX10_gone_0 rfl ?_
    refine a_if_lt (pc := 1) 10 dX10_gone_1 (by decide) (fun c3 => ?_) (fun c3 => ?_)
    · exact no c1
    · refine a_iload_n (pc := 4) dX10_gone_4 rfl ?_
      refine a_bipush (pc := 5) (nI 7) dX10_gone_5 (by decide) ?_
      refine a_icmp_lt (pc := 7) 13 dX10_gone_7 (by decide) (fun c4 => ?_) (fun c4 => ?_)
      · rcases c2 with z | z
        · exact absurd z c3
        · exact absurd c4 (Int32.not_lt.mpr z)
      · exact no c1
set_option maxHeartbeats 1000000 in
set_option maxRecDepth 100000 in
theorem k_bad_67 {d0 kd : Nat} {g : GH} {y : Sy} {n : Nat} (hb : CIb 64 g y n) (hn : n < 512) (i w : Int32) : ACi mX10_bad (d0 + 40) (SS kd 64 67) g [.ref 0, .int i, .int w] (fun rr S' g' => rr = (oBad y i w).1 ∧ CI S' g' (oBad y i w).2 (n + 1) ∧ Fr clL g g') := by
  have hk : (64 = 64 ∧ 67 = 67) ∨ (64 = 67 ∧ 67 = 64) := by decide
  have hk' : 64 = 64 ∨ 64 = 67 := by decide
  have fin : CI (SS kd 64 67) g y (n + 1) := ⟨kd, 64, 67, hk, rfl, hb.n (by omega)⟩
  obtain ⟨t1, t2, t3, t4⟩ := hb.2.2.2.2.2.2.2
  have h50 : (yg y).2.length ≤ 50 := by omega
  have e10 : nI 10 - nI 1 = nI 9 := by decide
  unfold oBad
  rw [← t3, ← e10]
  refine ACi.of lcX10_bad rfl rfl (fun X Q ad hR ret => ?_)
  refine AW_ls (ls' := [_, _, _]) rfl ?_
  have no : insQ i (nI 0) (nI (yg y).2.length - nI 1) = false → AW mX10_bad X Q ad 0 0 (conc (SS kd 64 67) g) 18 [some (.ref 0), some (.int i), some (.int w)] [] := by
    intro c1
    rw [if_neg (by rw [c1]; decide)] at ret
    refine a_aload_n (pc := 18) dX10_bad_18 rfl ?_
    refine a_iconst (pc := 19) (-1) dX10_bad_19 (by decide) ?_
    refine a_V1i (pc := 20) 9 dX10_bad_20 lcX10_refuse lX10_77 rfl rfl rfl (fit_of hR (by omega) rfl) (c_krefuse (d0 := d0) 1 (by decide) (by decide)) rfl rfl (ex_i ?_)
    refine ret _ _ 23 _ _ dX10_bad_23 rfl ?_
    exact ⟨rfl, ⟨kd, 64, 67, hk, rfl, hb.ref hk' 1 (by decide)⟩, fr_ref _ _⟩
  rcases idx_br (i := i) (n := (yg y).2.length) (by omega) with ⟨c1, j, hj, rfl⟩ | ⟨c1, c2⟩
  · rw [if_pos c1, ix_n (by omega)] at ret
    have no9 : insQ w (nI 0) (nI 10 - nI 1) = false → AW mX10_bad X Q ad 0 0 (conc (SS kd 64 67) g) 34 [some (.ref 0), some (.int (nI j)), some (.int w)] [] := by
      intro c1
      rw [if_neg (by rw [c1]; decide)] at ret
      refine a_bipush (pc := 34) (-9) dX10_bad_34 (by decide) ?_
      refine ret _ _ 36 _ _ dX10_bad_36 rfl ?_
      exact ⟨rfl, fin, Fr.rf _ g⟩
    refine a_iload_n (pc := 0) dX10_bad_0 rfl ?_
    refine a_if_ltN (pc := 1) 18 dX10_bad_1 (by decide) (by omega) (fun c3 => ?_) (fun c3 => ?_)
    · exact absurd c3 (by omega)
    · refine a_iload_n (pc := 4) dX10_bad_4 rfl ?_
      refine a_aload_n (pc := 5) dX10_bad_5 rfl ?_
      refine a_gr (pc := 6) dX10_bad_6 fX10_40 rfl ?_
      refine a_gr (pc := 9) dX10_bad_9 fX10_217 rfl ?_
      refine a_gi (pc := 12) dX10_bad_12 fX10_226 rfl ?_
      rw [t2]
      refine a_icmp_ltN (pc := 15) 24 dX10_bad_15 (by decide) (by omega) (by omega) (fun c4 => ?_) (fun c4 => ?_)
      · rcases idx_br (i := w) (n := 10) (by decide) with ⟨c5, x, hx, rfl⟩ | ⟨c5, c6⟩
        · rw [if_pos c5, ix_n (by omega)] at ret
          refine a_iload_n (pc := 24) dX10_bad_24 rfl ?_
          refine a_if_ltN (pc := 25) 34 dX10_bad_25 (by decide) (by omega) (fun c7 => ?_) (fun c7 => ?_)
          · exact absurd c7 (by omega)
          · refine a_iload_n (pc := 28) dX10_bad_28 rfl ?_
            refine a_bipush (pc := 29) (nI 10) dX10_bad_29 (by decide) ?_
            refine a_icmp_ltN (pc := 31) 37 dX10_bad_31 (by decide) (by omega) (by omega) (fun c8 => ?_) (fun c8 => ?_)
            · refine a_aload_n (pc := 37) dX10_bad_37 rfl ?_
              refine a_gr (pc := 38) dX10_bad_38 fX10_40 rfl ?_
              refine a_gr (pc := 41) dX10_bad_41 fX10_217 rfl ?_
              refine a_gr (pc := 44) dX10_bad_44 fX10_229 rfl ?_
              refine a_iload_n (pc := 47) dX10_bad_47 rfl ?_
              refine a_bipush (pc := 48) (nI 10) dX10_bad_48 (by decide) ?_
              refine a_imul (pc := 50) dX10_bad_50 ?_
              try rw [pk_mul]
              refine a_iload_n (pc := 51) dX10_bad_51 rfl ?_
              refine a_iadd (pc := 52) dX10_bad_52 ?_
              try rw [nI_add]
              refine a_ial (pc := 53) (j * 10 + x) dX10_bad_53 rfl rfl (by omega) ?_
              rw [show gA g 66 (j * 10 + x) = ((yg y).2.getD j []).getD x 0 by
                have hr : (yg y).2[j]? = some (yg y).2[j] := List.getElem?_eq_getElem hj
                rw [Nat.mul_comm j 10, show gA g 66 (10 * j + x) = _ from t4 j _ hr x hx, List.getD_eq_getElem?_getD (l := (yg y).2), hr]
                rfl]
              refine ret _ _ 54 _ _ dX10_bad_54 rfl ?_
              exact ⟨rfl, fin, Fr.rf _ g⟩
            · exact absurd c8 (by omega)
        · refine a_iload_n (pc := 24) dX10_bad_24 rfl ?_
          refine a_if_lt (pc := 25) 34 dX10_bad_25 (by decide) (fun c7 => ?_) (fun c7 => ?_)
          · exact no9 c5
          · refine a_iload_n (pc := 28) dX10_bad_28 rfl ?_
            refine a_bipush (pc := 29) (nI 10) dX10_bad_29 (by decide) ?_
            refine a_icmp_lt (pc := 31) 37 dX10_bad_31 (by decide) (fun c8 => ?_) (fun c8 => ?_)
            · rcases c6 with z | z
              · exact absurd z c7
              · exact absurd c8 (Int32.not_lt.mpr z)
            · exact no9 c5
      · exact absurd c4 (by omega)
  · refine a_iload_n (pc := 0) dX10_bad_0 rfl ?_
    refine a_if_lt (pc := 1) 18 dX10_bad_1 (by decide) (fun c3 => ?_) (fun c3 => ?_)
    · exact no c1
    · refine a_iload_n (pc := 4) dX10_bad_4 rfl ?_
      refine a_aload_n (pc := 5) dX10_bad_5 rfl ?_
      refine a_gr (pc := 6) dX10_bad_6 fX10_40 rfl ?_
      refine a_gr (pc := 9) dX10_bad_9 fX10_217 rfl ?_
      refine a_gi (pc := 12) dX10_bad_12 fX10_226 rfl ?_
      rw [t2]
      refine a_icmp_lt (pc := 15) 24 dX10_bad_15 (by decide) (fun c4 => ?_) (fun c4 => ?_)
      · rcases c2 with z | z
        · exact absurd z c3
        · exact absurd c4 (Int32.not_lt.mpr z)
      · exact no c1
set_option maxHeartbeats 1000000 in
set_option maxRecDepth 100000 in
theorem k_least_67 {d0 kd : Nat} {g : GH} {y : Sy} {n : Nat} (hb : CIb 64 g y n) (hy : Yok y) (hn : n < 512) (x : Int32) : ACi mX10_least (d0 + 40) (SS kd 64 67) g [.ref 0, .int x] (fun rr S' g' => rr = (oLeast y x).1 ∧ CI S' g' (oLeast y x).2 (n + 1) ∧ Fr clL g g') := by
  have hk : (64 = 64 ∧ 67 = 67) ∨ (64 = 67 ∧ 67 = 64) := by decide
  have hk' : 64 = 64 ∨ 64 = 67 := by decide
  have hA := hb.2.2.2.2.2.1
  obtain ⟨q0, Ed, hEd, hs⟩ := hb.2.2.2.2.2.2.1
  unfold oLeast
  refine ACi.of lcX10_least rfl rfl (fun X Q ad hR ret => ?_)
  refine AW_ls (ls' := [_, _, _, _, _, _]) rfl ?_
  refine a_aload_n (pc := 0) dX10_least_0 rfl ?_
  refine a_iload_n (pc := 1) dX10_least_1 rfl ?_
  refine a_V1i (pc := 2) 9 dX10_least_2 lcX10_isKind lX10_149 rfl rfl rfl (fit_of hR (by omega) rfl) (c_isKind (d0 := d0) x) rfl rfl (ex_i ?_)
  refine a_if_neB (pc := 5) 15 dX10_least_5 (by decide) (fun c1 => ?_) (fun c1 => ?_)
  · rw [if_pos c1] at ret
    obtain ⟨st, hst, rfl⟩ := (insQ_ok (by decide)).mp c1
    rw [ix_n (by omega)] at ret
    refine a_aload_n (pc := 15) dX10_least_15 rfl ?_
    refine a_gr (pc := 16) dX10_least_16 fX10_40 rfl ?_
    refine a_aload_n (pc := 19) dX10_least_19 rfl ?_
    refine a_gr (pc := 20) dX10_least_20 fX10_55 rfl ?_
    refine a_iload_n (pc := 23) dX10_least_23 rfl ?_
    refine a_aal (pc := 24) 3 st (Or.inl rfl) dX10_least_24 (kin_at st (by omega)) rfl ?_
    refine a_iconst (pc := 25) (nI 0) dX10_least_25 (by decide) ?_
    refine a_aload_n (pc := 26) dX10_least_26 rfl ?_
    refine a_gr (pc := 27) dX10_least_27 fX10_33 rfl ?_
    refine a_iconst (pc := 30) (nI 0) dX10_least_30 (by decide) ?_
    refine a_V4i (pc := 31) 2 dX10_least_31 lcX3_walk lX10_210 rfl rfl rfl (fit_of hR (by omega) rfl) (c_walk_67 (d0 := d0) (yA y) st 0 Ed false q0 (by omega) (by decide) hA hs (by omega)) rfl rfl (fun rr S' g1 hS hp => ?_)
    obtain ⟨rfl, f1, ⟨Ed', q', d1, d2, s1⟩, b, rfl, hyes, hno⟩ := hp
    have hb1 : CIb 64 g1 y (n + 1) := hb.wk f1 (by decide) (by decide) (by decide) (by decide) ⟨q', Ed', by omega, s1⟩
    refine a_if_neB (pc := 34) 44 dX10_least_34 (by decide) (fun c2 => ?_) (fun c2 => ?_)
    · obtain ⟨rp', w1, r1, -⟩ := hyes c2
      have hN1 : rp'.1 2 < 2147483648 := by
        rw [walkM, walkO] at w1
        match hz : goO (yA y) st (spB st 0) (yA y).length with
        | none =>
          rw [hz] at w1
          cases w1
        | some (su, w) =>
          rw [hz] at w1
          cases w1
          have hN := goO_N _ _ _ hz
          have h8 := hA.2.1
          have h1 := hN.1
          have h2 := hN.2.2.1
          show w.2.1 2 < 2147483648
          omega
      refine a_aload_n (pc := 44) dX10_least_44 rfl ?_
      refine a_gr (pc := 45) dX10_least_45 fX10_40 rfl ?_
      refine a_gr (pc := 48) dX10_least_48 fX10_232 rfl ?_
      refine a_gr (pc := 51) dX10_least_51 fX10_221 rfl ?_
      refine a_iconst (pc := 54) (nI 2) dX10_least_54 (by decide) ?_
      refine a_ial (pc := 55) _ dX10_least_55 rfl rfl (by omega) ?_
      rw [show gA g1 68 2 = _ from r1.1 2 (by decide)]
      refine a_if_leN (pc := 56) 66 dX10_least_56 (by decide) (by omega) (fun c3 => ?_) (fun c3 => ?_)
      · have hgood : goodM (yA y) st 0 := ⟨rp', w1, by omega⟩
        rw [if_pos hgood] at ret
        refine a_iconst (pc := 66) (nI 0) dX10_least_66 (by decide) ?_
        refine a_istore_n (pc := 67) (ls' := [_, _, _, _, _, _]) dX10_least_67 (Nat.le_of_ble_eq_true rfl) rfl ?_
        refine a_iconst (pc := 68) (nI 0) dX10_least_68 (by decide) ?_
        refine a_istore_n (pc := 69) (ls' := [_, _, _, _, _, _]) dX10_least_69 (Nat.le_of_ble_eq_true rfl) rfl ?_
        refine a_iconst (pc := 70) (nI 0) dX10_least_70 (by decide) ?_
        refine a_istore (pc := 71) (ls' := [_, _, _, _, _, _]) dX10_least_71 (Nat.le_of_ble_eq_true rfl) rfl ?_
        have fe : ∀ (g2 : GH) (ls : List (Option Value)) (v : Int32), AW mX10_least X Q ad 0 0 (conc (SS (71 + st) 64 67) g2) 84 ls [.int (nI (fnN st)), .int v] → AW mX10_least X Q ad 0 0 (conc (SS (71 + st) 64 67) g2) 81 ls [.ref (71 + st), .int v] := by
          intro g2 ls v kk
          obtain rfl | rfl | rfl : st = 0 ∨ st = 1 ∨ st = 2 := by omega
          · refine a_U0i (pc := 81) 3 dX10_least_81 rfl lcX4_fences lX10_156_X4 rfl (fit_of hR (by omega) rfl) (c_fences0 (d0 := d0)) rfl rfl (ex_i ?_)
            exact kk
          · refine a_U0i (pc := 81) 1 dX10_least_81 rfl lcX2_fences lX10_156_X2 rfl (fit_of hR (by omega) rfl) (c_fences1 (d0 := d0)) rfl rfl (ex_i ?_)
            exact kk
          · refine a_U0i (pc := 81) 7 dX10_least_81 rfl lcX8_fences lX10_156_X8 rfl (fit_of hR (by omega) rfl) (c_fences2 (d0 := d0)) rfl rfl (ex_i ?_)
            exact kk
        have hfn := fnN_le st
        have loop : ∀ t f, fnN st = f + t → ∀ (g2 : GH) (Ed2 : Nat) (q2 : Qd) (w5 : Option Value), Fr wkL_67 g g2 → SeD 34 27 g2 q2 Ed2 → Ed2 ≤ Ed + 100 * (f + 1) → AW mX10_least X Q ad 0 0 (conc (SS (71 + st) 64 67) g2) 73 [some (.ref 0), some (.int (nI st)), some (.int (nI (lstW (yA y) st f).2)), some (.int (nI (lstW (yA y) st f).1)), some (.int (nI f)), w5] [] := by
          intro t
          induction t with
          | zero =>
            intro f hf g2 Ed2 q2 w5 f2 s2 d2
            obtain rfl : f = fnN st := by omega
            refine a_iload (pc := 73) dX10_least_73 rfl ?_
            refine a_aload_n (pc := 75) dX10_least_75 rfl ?_
            refine a_gr (pc := 76) dX10_least_76 fX10_55 rfl ?_
            refine a_iload_n (pc := 79) dX10_least_79 rfl ?_
            refine a_aal (pc := 80) 3 st (Or.inl rfl) dX10_least_80 (kin_at st (by omega)) rfl ?_
            refine fe g2 _ _ ?_
            refine a_icmp_geN (pc := 84) 137 dX10_least_84 (by decide) (by omega) (by omega) (fun c4 => ?_) (fun c4 => ?_)
            · refine a_iload_n (pc := 137) dX10_least_137 rfl ?_
              refine ret _ _ 138 _ _ dX10_least_138 rfl ?_
              exact ⟨rfl, ⟨71 + st, 64, 67, hk, rfl, hb.wk f2 (by decide) (by decide) (by decide) (by decide) ⟨q2, Ed2, by omega, s2⟩⟩, f2.mono (by decide)⟩
            · exact absurd c4 (by omega)
          | succ t ih =>
            intro f hf g2 Ed2 q2 w5 f2 s2 d2
            obtain ⟨l1, l2, l3⟩ := lstW_lt (yA y) st f (by omega)
            have bo1 := bt_or (lstW (yA y) st f).1 f l1 (by omega)
            have bo2 := bt_or (lstW (yA y) st f).2 f l2 (by omega)
            have hA2 := hA.fr f2 (by decide) (by decide) (by decide) (by decide) (by decide)
            refine a_iload (pc := 73) dX10_least_73 rfl ?_
            refine a_aload_n (pc := 75) dX10_least_75 rfl ?_
            refine a_gr (pc := 76) dX10_least_76 fX10_55 rfl ?_
            refine a_iload_n (pc := 79) dX10_least_79 rfl ?_
            refine a_aal (pc := 80) 3 st (Or.inl rfl) dX10_least_80 (kin_at st (by omega)) rfl ?_
            refine fe g2 _ _ ?_
            refine a_icmp_geN (pc := 84) 137 dX10_least_84 (by decide) (by omega) (by omega) (fun c4 => ?_) (fun c4 => ?_)
            · exact absurd c4 (by omega)
            · refine a_iconst (pc := 87) (nI 1) dX10_least_87 (by decide) ?_
              refine a_iload (pc := 88) dX10_least_88 rfl ?_
              refine a_ishl (pc := 90) dX10_least_90 ?_
              refine a_istore (pc := 91) (ls' := [_, _, _, _, _, _]) dX10_least_91 (Nat.le_of_ble_eq_true rfl) rfl ?_
              refine a_aload_n (pc := 93) dX10_least_93 rfl ?_
              refine a_gr (pc := 94) dX10_least_94 fX10_40 rfl ?_
              refine a_aload_n (pc := 97) dX10_least_97 rfl ?_
              refine a_gr (pc := 98) dX10_least_98 fX10_55 rfl ?_
              refine a_iload_n (pc := 101) dX10_least_101 rfl ?_
              refine a_aal (pc := 102) 3 st (Or.inl rfl) dX10_least_102 (kin_at st (by omega)) rfl ?_
              refine a_iload_n (pc := 103) dX10_least_103 rfl ?_
              refine a_iload (pc := 104) dX10_least_104 rfl ?_
              refine a_ior (pc := 106) dX10_least_106 ?_
              rw [bo1.1]
              refine a_aload_n (pc := 107) dX10_least_107 rfl ?_
              refine a_gr (pc := 108) dX10_least_108 fX10_33 rfl ?_
              refine a_iconst (pc := 111) (nI 1) dX10_least_111 (by decide) ?_
              refine a_V4i (pc := 112) 2 dX10_least_112 lcX3_walk lX10_210 rfl rfl rfl (fit_of hR (by omega) rfl) (c_walk_67 (d0 := d0) (yA y) st ((lstW (yA y) st f).1 ||| 1 <<< f) Ed2 true q2 (by omega) bo1.2 hA2 s2 (by omega)) rfl rfl (fun rr S' g3 hS hp => ?_)
              obtain ⟨rfl, f3, ⟨Ed3, q3, d3, d4, s3⟩, b3, rfl, hy3, hn3⟩ := hp
              refine a_if_eqB (pc := 115) 126 dX10_least_115 (by decide) (fun c5 => ?_) (fun c5 => ?_)
              · have hng : ¬ goodM (yA y) st ((lstW (yA y) st f).1 ||| 1 <<< f) := by
                  rintro ⟨rp2, w2, z2⟩
                  rcases hn3 c5 with z | ⟨-, z⟩
                  · rw [z] at w2
                    cases w2
                  · exact z rp2 w2 z2
                refine a_iload_n (pc := 126) dX10_least_126 rfl ?_
                refine a_iload (pc := 127) dX10_least_127 rfl ?_
                refine a_ior (pc := 129) dX10_least_129 ?_
                rw [bo2.1]
                refine a_istore_n (pc := 130) (ls' := [_, _, _, _, _, _]) dX10_least_130 (Nat.le_of_ble_eq_true rfl) rfl ?_
                refine a_iinc (pc := 131) (ls' := [_, _, _, _, _, _]) (nI 1) dX10_least_131 (by decide) rfl (Nat.le_of_ble_eq_true rfl) rfl ?_
                try rw [nI_add]
                refine a_goto (pc := 134) 73 dX10_least_134 (by decide) ?_
                have := ih (f + 1) (by omega) g3 Ed3 q3 (some (.int (nI 1 <<< (nI f &&& 31)))) (f2.tr f3) s3 (by omega)
                rw [lstW_n hng] at this
                exact this
              · have hg : goodM (yA y) st ((lstW (yA y) st f).1 ||| 1 <<< f) := by
                  obtain ⟨rp2, w2, -, z2⟩ := hy3 c5
                  exact ⟨rp2, w2, z2 rfl⟩
                refine a_iload_n (pc := 118) dX10_least_118 rfl ?_
                refine a_iload (pc := 119) dX10_least_119 rfl ?_
                refine a_ior (pc := 121) dX10_least_121 ?_
                rw [bo1.1]
                refine a_istore_n (pc := 122) (ls' := [_, _, _, _, _, _]) dX10_least_122 (Nat.le_of_ble_eq_true rfl) rfl ?_
                refine a_goto (pc := 123) 131 dX10_least_123 (by decide) ?_
                refine a_iinc (pc := 131) (ls' := [_, _, _, _, _, _]) (nI 1) dX10_least_131 (by decide) rfl (Nat.le_of_ble_eq_true rfl) rfl ?_
                try rw [nI_add]
                refine a_goto (pc := 134) 73 dX10_least_134 (by decide) ?_
                have := ih (f + 1) (by omega) g3 Ed3 q3 (some (.int (nI 1 <<< (nI f &&& 31)))) (f2.tr f3) s3 (by omega)
                rw [lstW_y hg] at this
                exact this
        exact loop (fnN st) 0 (by omega) g1 Ed' q' _ f1 s1 (by omega)
      · have hbad : ¬ goodM (yA y) st 0 := by
          rintro ⟨rp2, w2, z2⟩
          rw [w1] at w2
          cases w2
          omega
        rw [if_neg hbad, w1] at ret
        refine a_aload_n (pc := 59) dX10_least_59 rfl ?_
        refine a_bipush (pc := 60) (-5) dX10_least_60 (by decide) ?_
        refine a_V1i (pc := 62) 9 dX10_least_62 lcX10_refuse lX10_77 rfl rfl rfl (fit_of hR (by omega) rfl) (c_krefuse (d0 := d0) 5 (by decide) (by decide)) rfl rfl (ex_i ?_)
        refine ret _ _ 65 _ _ dX10_least_65 rfl ?_
        exact ⟨rfl, ⟨71 + st, 64, 67, hk, rfl, hb1.ref1 hk' 5 (by decide)⟩, (f1.mono (by decide)).tr (fr_ref _ _)⟩
    · have w1 : walkM (yA y) st 0 = none := (hno c2).elim id (fun z => by cases z.1)
      have hbad : ¬ goodM (yA y) st 0 := by
        rintro ⟨rp2, w2, z2⟩
        rw [w1] at w2
        cases w2
      rw [if_neg hbad, w1] at ret
      refine a_aload_n (pc := 37) dX10_least_37 rfl ?_
      refine a_bipush (pc := 38) (-6) dX10_least_38 (by decide) ?_
      refine a_V1i (pc := 40) 9 dX10_least_40 lcX10_refuse lX10_77 rfl rfl rfl (fit_of hR (by omega) rfl) (c_krefuse (d0 := d0) 6 (by decide) (by decide)) rfl rfl (ex_i ?_)
      refine ret _ _ 43 _ _ dX10_least_43 rfl ?_
      exact ⟨rfl, ⟨71 + st, 64, 67, hk, rfl, hb1.ref1 hk' 6 (by decide)⟩, (f1.mono (by decide)).tr (fr_ref _ _)⟩
  · rw [if_neg (by rw [c1]; decide)] at ret
    refine a_aload_n (pc := 8) dX10_least_8 rfl ?_
    refine a_bipush (pc := 9) (-2) dX10_least_9 (by decide) ?_
    refine a_V1i (pc := 11) 9 dX10_least_11 lcX10_refuse lX10_77 rfl rfl rfl (fit_of hR (by omega) rfl) (c_krefuse (d0 := d0) 2 (by decide) (by decide)) rfl rfl (ex_i ?_)
    refine ret _ _ 14 _ _ dX10_least_14 rfl ?_
    exact ⟨rfl, ⟨kd, 64, 67, hk, rfl, hb.ref hk' 2 (by decide)⟩, fr_ref _ _⟩
set_option maxHeartbeats 1000000 in
set_option maxRecDepth 100000 in
theorem k_through_64 {d0 kd : Nat} {g : GH} {y : Sy} {n : Nat} (hb : CIb 67 g y n) (hy : Yok y) (hn : n < 512) (x : Int32) : ACi mX10_through (d0 + 40) (SS kd 67 64) g [.ref 0, .int x] (fun rr S' g' => rr = (oThrough y x).1 ∧ CI S' g' (oThrough y x).2 (n + 1) ∧ Fr clL g g') := by
  have hk : (67 = 64 ∧ 64 = 67) ∨ (67 = 67 ∧ 64 = 64) := by decide
  have hk2 : (64 = 64 ∧ 67 = 67) ∨ (64 = 67 ∧ 67 = 64) := by decide
  have hk' : 67 = 64 ∨ 67 = 67 := by decide
  have hA := hb.2.2.2.2.2.1
  obtain ⟨q0, Ed, hEd, hs⟩ := hb.2.2.2.2.2.2.1
  unfold oThrough
  refine ACi.of lcX10_through rfl rfl (fun X Q ad hR ret => ?_)
  refine AW_ls (ls' := [_, _]) rfl ?_
  refine a_aload_n (pc := 0) dX10_through_0 rfl ?_
  refine a_iload_n (pc := 1) dX10_through_1 rfl ?_
  refine a_V1i (pc := 2) 9 dX10_through_2 lcX10_isKind lX10_149 rfl rfl rfl (fit_of hR (by omega) rfl) (c_isKind (d0 := d0) x) rfl rfl (ex_i ?_)
  refine a_if_neB (pc := 5) 15 dX10_through_5 (by decide) (fun c1 => ?_) (fun c1 => ?_)
  · rw [if_pos c1] at ret
    obtain ⟨st, hst, rfl⟩ := (insQ_ok (by decide)).mp c1
    rw [ix_n (by omega)] at ret
    have hm := ys16 hy (st := st) (by omega)
    refine a_aload_n (pc := 15) dX10_through_15 rfl ?_
    refine a_gr (pc := 16) dX10_through_16 fX10_40 rfl ?_
    refine a_aload_n (pc := 19) dX10_through_19 rfl ?_
    refine a_gr (pc := 20) dX10_through_20 fX10_55 rfl ?_
    refine a_iload_n (pc := 23) dX10_through_23 rfl ?_
    refine a_aal (pc := 24) 3 st (Or.inl rfl) dX10_through_24 (kin_at st (by omega)) rfl ?_
    refine a_aload_n (pc := 25) dX10_through_25 rfl ?_
    refine a_gr (pc := 26) dX10_through_26 fX10_59 rfl ?_
    refine a_iload_n (pc := 29) dX10_through_29 rfl ?_
    refine a_ial (pc := 30) _ dX10_through_30 rfl rfl (by omega) ?_
    rw [hb.2.2.2.1 st (by omega)]
    refine a_aload_n (pc := 31) dX10_through_31 rfl ?_
    refine a_gr (pc := 32) dX10_through_32 fX10_33 rfl ?_
    refine a_iconst (pc := 35) (nI 0) dX10_through_35 (by decide) ?_
    refine a_V4i (pc := 36) 2 dX10_through_36 lcX3_walk lX10_210 rfl rfl rfl (fit_of hR (by omega) rfl) (c_walk_64 (d0 := d0) (yA y) st (ys y st) Ed false q0 (by omega) hm hA hs (by omega)) rfl rfl (fun rr S' g1 hS hp => ?_)
    obtain ⟨rfl, f1, ⟨Ed', q', d1, d2, s1⟩, b, rfl, hyes, hno⟩ := hp
    have hb1 : CIb 67 g1 y (n + 1) := hb.wk f1 (by decide) (by decide) (by decide) (by decide) ⟨q', Ed', by omega, s1⟩
    refine a_if_neB (pc := 39) 49 dX10_through_39 (by decide) (fun c2 => ?_) (fun c2 => ?_)
    · obtain ⟨rp', w1, r1, -⟩ := hyes c2
      rw [w1] at ret
      refine a_aload_n (pc := 49) dX10_through_49 rfl ?_
      refine a_gr (pc := 50) dX10_through_50 fX10_40 rfl ?_
      refine a_V0v (pc := 53) 2 dX10_through_53 lcX3_keepReport lX10_214 rfl rfl rfl (fit_of hR (by omega) rfl) (c_keepReport_64 (d0 := d0)) rfl rfl (ex_v ?_)
      refine a_aload_n (pc := 56) dX10_through_56 rfl ?_
      refine a_gr (pc := 57) dX10_through_57 fX10_40 rfl ?_
      refine a_gr (pc := 60) dX10_through_60 fX10_217 rfl ?_
      refine a_gr (pc := 63) dX10_through_63 fX10_221 rfl ?_
      refine a_iconst (pc := 66) (nI 2) dX10_through_66 (by decide) ?_
      refine a_ial (pc := 67) _ dX10_through_67 rfl rfl (by omega) ?_
      rw [show gA g1 65 2 = _ from r1.1 2 (by decide)]
      refine ret _ _ 68 _ _ dX10_through_68 rfl ?_
      exact ⟨rfl, ⟨71 + st, 64, 67, hk2, rfl, hb1.rp r1⟩, f1.mono (by decide)⟩
    · have w1 : walkM (yA y) st (ys y st) = none := (hno c2).elim id (fun z => by cases z.1)
      rw [w1] at ret
      refine a_aload_n (pc := 42) dX10_through_42 rfl ?_
      refine a_bipush (pc := 43) (-6) dX10_through_43 (by decide) ?_
      refine a_V1i (pc := 45) 9 dX10_through_45 lcX10_refuse lX10_77 rfl rfl rfl (fit_of hR (by omega) rfl) (c_krefuse (d0 := d0) 6 (by decide) (by decide)) rfl rfl (ex_i ?_)
      refine ret _ _ 48 _ _ dX10_through_48 rfl ?_
      exact ⟨rfl, ⟨71 + st, 67, 64, hk, rfl, hb1.ref1 hk' 6 (by decide)⟩, (f1.mono (by decide)).tr (fr_ref _ _)⟩
  · rw [if_neg (by rw [c1]; decide)] at ret
    refine a_aload_n (pc := 8) dX10_through_8 rfl ?_
    refine a_bipush (pc := 9) (-2) dX10_through_9 (by decide) ?_
    refine a_V1i (pc := 11) 9 dX10_through_11 lcX10_refuse lX10_77 rfl rfl rfl (fit_of hR (by omega) rfl) (c_krefuse (d0 := d0) 2 (by decide) (by decide)) rfl rfl (ex_i ?_)
    refine ret _ _ 14 _ _ dX10_through_14 rfl ?_
    exact ⟨rfl, ⟨kd, 67, 64, hk, rfl, hb.ref hk' 2 (by decide)⟩, fr_ref _ _⟩
set_option maxHeartbeats 1000000 in
set_option maxRecDepth 100000 in
theorem k_gone_64 {d0 kd : Nat} {g : GH} {y : Sy} {n : Nat} (hb : CIb 67 g y n) (hn : n < 512) (w : Int32) : ACi mX10_gone (d0 + 40) (SS kd 67 64) g [.ref 0, .int w] (fun rr S' g' => rr = oGone y w ∧ CI S' g' y (n + 1) ∧ Fr clL g g') := by
  have hk : (67 = 64 ∧ 64 = 67) ∨ (67 = 67 ∧ 64 = 64) := by decide
  have fin : CI (SS kd 67 64) g y (n + 1) := ⟨kd, 67, 64, hk, rfl, hb.n (by omega)⟩
  have e7 : nI 7 - nI 1 = nI 6 := by decide
  unfold oGone
  rw [← e7]
  refine ACi.of lcX10_gone rfl rfl (fun X Q ad hR ret => ?_)
  refine AW_ls (ls' := [_, _]) rfl ?_
  have no : insQ w (nI 0) (nI 7 - nI 1) = false → AW mX10_gone X Q ad 0 0 (conc (SS kd 67 64) g) 10 [some (.ref 0), some (.int w)] [] := by
    intro c1
    rw [if_neg (by rw [c1]; decide)] at ret
    refine a_bipush (pc := 10) (-9) dX10_gone_10 (by decide) ?_
    refine ret _ _ 12 _ _ dX10_gone_12 rfl ?_
    exact ⟨rfl, fin, Fr.rf _ g⟩
  rcases idx_br (i := w) (n := 7) (by decide) with ⟨c1, j, hj, rfl⟩ | ⟨c1, c2⟩
  · rw [if_pos c1, ix_n (by omega)] at ret
    refine a_iload_n (pc := 0) dX10_gone_0 rfl ?_
    refine a_if_ltN (pc := 1) 10 dX10_gone_1 (by decide) (by omega) (fun c3 => ?_) (fun c3 => ?_)
    · exact absurd c3 (by omega)
    · refine a_iload_n (pc := 4) dX10_gone_4 rfl ?_
      refine a_bipush (pc := 5) (nI 7) dX10_gone_5 (by decide) ?_
      refine a_icmp_ltN (pc := 7) 13 dX10_gone_7 (by decide) (by omega) (by omega) (fun c4 => ?_) (fun c4 => ?_)
      · refine a_aload_n (pc := 13) dX10_gone_13 rfl ?_
        refine a_gr (pc := 14) dX10_gone_14 fX10_40 rfl ?_
        refine a_gr (pc := 17) dX10_gone_17 fX10_217 rfl ?_
        refine a_gr (pc := 20) dX10_gone_20 fX10_221 rfl ?_
        refine a_iload_n (pc := 23) dX10_gone_23 rfl ?_
        refine a_ial (pc := 24) _ dX10_gone_24 rfl rfl (by omega) ?_
        rw [show gA g 68 j = _ from hb.2.2.2.2.2.2.2.1 j hj]
        refine ret _ _ 25 _ _ dX10_gone_25 rfl ?_
        exact ⟨rfl, fin, Fr.rf _ g⟩
      · exact absurd c4 (by omega)
  · refine a_iload_n (pc := 0) dX10_gone_0 rfl ?_
    refine a_if_lt (pc := 1) 10 dX10_gone_1 (by decide) (fun c3 => ?_) (fun c3 => ?_)
    · exact no c1
    · refine a_iload_n (pc := 4) dX10_gone_4 rfl ?_
      refine a_bipush (pc := 5) (nI 7) dX10_gone_5 (by decide) ?_
      refine a_icmp_lt (pc := 7) 13 dX10_gone_7 (by decide) (fun c4 => ?_) (fun c4 => ?_)
      · rcases c2 with z | z
        · exact absurd z c3
        · exact absurd c4 (Int32.not_lt.mpr z)
      · exact no c1
set_option maxHeartbeats 1000000 in
set_option maxRecDepth 100000 in
theorem k_bad_64 {d0 kd : Nat} {g : GH} {y : Sy} {n : Nat} (hb : CIb 67 g y n) (hn : n < 512) (i w : Int32) : ACi mX10_bad (d0 + 40) (SS kd 67 64) g [.ref 0, .int i, .int w] (fun rr S' g' => rr = (oBad y i w).1 ∧ CI S' g' (oBad y i w).2 (n + 1) ∧ Fr clL g g') := by
  have hk : (67 = 64 ∧ 64 = 67) ∨ (67 = 67 ∧ 64 = 64) := by decide
  have hk' : 67 = 64 ∨ 67 = 67 := by decide
  have fin : CI (SS kd 67 64) g y (n + 1) := ⟨kd, 67, 64, hk, rfl, hb.n (by omega)⟩
  obtain ⟨t1, t2, t3, t4⟩ := hb.2.2.2.2.2.2.2
  have h50 : (yg y).2.length ≤ 50 := by omega
  have e10 : nI 10 - nI 1 = nI 9 := by decide
  unfold oBad
  rw [← t3, ← e10]
  refine ACi.of lcX10_bad rfl rfl (fun X Q ad hR ret => ?_)
  refine AW_ls (ls' := [_, _, _]) rfl ?_
  have no : insQ i (nI 0) (nI (yg y).2.length - nI 1) = false → AW mX10_bad X Q ad 0 0 (conc (SS kd 67 64) g) 18 [some (.ref 0), some (.int i), some (.int w)] [] := by
    intro c1
    rw [if_neg (by rw [c1]; decide)] at ret
    refine a_aload_n (pc := 18) dX10_bad_18 rfl ?_
    refine a_iconst (pc := 19) (-1) dX10_bad_19 (by decide) ?_
    refine a_V1i (pc := 20) 9 dX10_bad_20 lcX10_refuse lX10_77 rfl rfl rfl (fit_of hR (by omega) rfl) (c_krefuse (d0 := d0) 1 (by decide) (by decide)) rfl rfl (ex_i ?_)
    refine ret _ _ 23 _ _ dX10_bad_23 rfl ?_
    exact ⟨rfl, ⟨kd, 67, 64, hk, rfl, hb.ref hk' 1 (by decide)⟩, fr_ref _ _⟩
  rcases idx_br (i := i) (n := (yg y).2.length) (by omega) with ⟨c1, j, hj, rfl⟩ | ⟨c1, c2⟩
  · rw [if_pos c1, ix_n (by omega)] at ret
    have no9 : insQ w (nI 0) (nI 10 - nI 1) = false → AW mX10_bad X Q ad 0 0 (conc (SS kd 67 64) g) 34 [some (.ref 0), some (.int (nI j)), some (.int w)] [] := by
      intro c1
      rw [if_neg (by rw [c1]; decide)] at ret
      refine a_bipush (pc := 34) (-9) dX10_bad_34 (by decide) ?_
      refine ret _ _ 36 _ _ dX10_bad_36 rfl ?_
      exact ⟨rfl, fin, Fr.rf _ g⟩
    refine a_iload_n (pc := 0) dX10_bad_0 rfl ?_
    refine a_if_ltN (pc := 1) 18 dX10_bad_1 (by decide) (by omega) (fun c3 => ?_) (fun c3 => ?_)
    · exact absurd c3 (by omega)
    · refine a_iload_n (pc := 4) dX10_bad_4 rfl ?_
      refine a_aload_n (pc := 5) dX10_bad_5 rfl ?_
      refine a_gr (pc := 6) dX10_bad_6 fX10_40 rfl ?_
      refine a_gr (pc := 9) dX10_bad_9 fX10_217 rfl ?_
      refine a_gi (pc := 12) dX10_bad_12 fX10_226 rfl ?_
      rw [t2]
      refine a_icmp_ltN (pc := 15) 24 dX10_bad_15 (by decide) (by omega) (by omega) (fun c4 => ?_) (fun c4 => ?_)
      · rcases idx_br (i := w) (n := 10) (by decide) with ⟨c5, x, hx, rfl⟩ | ⟨c5, c6⟩
        · rw [if_pos c5, ix_n (by omega)] at ret
          refine a_iload_n (pc := 24) dX10_bad_24 rfl ?_
          refine a_if_ltN (pc := 25) 34 dX10_bad_25 (by decide) (by omega) (fun c7 => ?_) (fun c7 => ?_)
          · exact absurd c7 (by omega)
          · refine a_iload_n (pc := 28) dX10_bad_28 rfl ?_
            refine a_bipush (pc := 29) (nI 10) dX10_bad_29 (by decide) ?_
            refine a_icmp_ltN (pc := 31) 37 dX10_bad_31 (by decide) (by omega) (by omega) (fun c8 => ?_) (fun c8 => ?_)
            · refine a_aload_n (pc := 37) dX10_bad_37 rfl ?_
              refine a_gr (pc := 38) dX10_bad_38 fX10_40 rfl ?_
              refine a_gr (pc := 41) dX10_bad_41 fX10_217 rfl ?_
              refine a_gr (pc := 44) dX10_bad_44 fX10_229 rfl ?_
              refine a_iload_n (pc := 47) dX10_bad_47 rfl ?_
              refine a_bipush (pc := 48) (nI 10) dX10_bad_48 (by decide) ?_
              refine a_imul (pc := 50) dX10_bad_50 ?_
              try rw [pk_mul]
              refine a_iload_n (pc := 51) dX10_bad_51 rfl ?_
              refine a_iadd (pc := 52) dX10_bad_52 ?_
              try rw [nI_add]
              refine a_ial (pc := 53) (j * 10 + x) dX10_bad_53 rfl rfl (by omega) ?_
              rw [show gA g 69 (j * 10 + x) = ((yg y).2.getD j []).getD x 0 by
                have hr : (yg y).2[j]? = some (yg y).2[j] := List.getElem?_eq_getElem hj
                rw [Nat.mul_comm j 10, show gA g 69 (10 * j + x) = _ from t4 j _ hr x hx, List.getD_eq_getElem?_getD (l := (yg y).2), hr]
                rfl]
              refine ret _ _ 54 _ _ dX10_bad_54 rfl ?_
              exact ⟨rfl, fin, Fr.rf _ g⟩
            · exact absurd c8 (by omega)
        · refine a_iload_n (pc := 24) dX10_bad_24 rfl ?_
          refine a_if_lt (pc := 25) 34 dX10_bad_25 (by decide) (fun c7 => ?_) (fun c7 => ?_)
          · exact no9 c5
          · refine a_iload_n (pc := 28) dX10_bad_28 rfl ?_
            refine a_bipush (pc := 29) (nI 10) dX10_bad_29 (by decide) ?_
            refine a_icmp_lt (pc := 31) 37 dX10_bad_31 (by decide) (fun c8 => ?_) (fun c8 => ?_)
            · rcases c6 with z | z
              · exact absurd z c7
              · exact absurd c8 (Int32.not_lt.mpr z)
            · exact no9 c5
      · exact absurd c4 (by omega)
  · refine a_iload_n (pc := 0) dX10_bad_0 rfl ?_
    refine a_if_lt (pc := 1) 18 dX10_bad_1 (by decide) (fun c3 => ?_) (fun c3 => ?_)
    · exact no c1
    · refine a_iload_n (pc := 4) dX10_bad_4 rfl ?_
      refine a_aload_n (pc := 5) dX10_bad_5 rfl ?_
      refine a_gr (pc := 6) dX10_bad_6 fX10_40 rfl ?_
      refine a_gr (pc := 9) dX10_bad_9 fX10_217 rfl ?_
      refine a_gi (pc := 12) dX10_bad_12 fX10_226 rfl ?_
      rw [t2]
      refine a_icmp_lt (pc := 15) 24 dX10_bad_15 (by decide) (fun c4 => ?_) (fun c4 => ?_)
      · rcases c2 with z | z
        · exact absurd z c3
        · exact absurd c4 (Int32.not_lt.mpr z)
      · exact no c1
set_option maxHeartbeats 1000000 in
set_option maxRecDepth 100000 in
theorem k_least_64 {d0 kd : Nat} {g : GH} {y : Sy} {n : Nat} (hb : CIb 67 g y n) (hy : Yok y) (hn : n < 512) (x : Int32) : ACi mX10_least (d0 + 40) (SS kd 67 64) g [.ref 0, .int x] (fun rr S' g' => rr = (oLeast y x).1 ∧ CI S' g' (oLeast y x).2 (n + 1) ∧ Fr clL g g') := by
  have hk : (67 = 64 ∧ 64 = 67) ∨ (67 = 67 ∧ 64 = 64) := by decide
  have hk' : 67 = 64 ∨ 67 = 67 := by decide
  have hA := hb.2.2.2.2.2.1
  obtain ⟨q0, Ed, hEd, hs⟩ := hb.2.2.2.2.2.2.1
  unfold oLeast
  refine ACi.of lcX10_least rfl rfl (fun X Q ad hR ret => ?_)
  refine AW_ls (ls' := [_, _, _, _, _, _]) rfl ?_
  refine a_aload_n (pc := 0) dX10_least_0 rfl ?_
  refine a_iload_n (pc := 1) dX10_least_1 rfl ?_
  refine a_V1i (pc := 2) 9 dX10_least_2 lcX10_isKind lX10_149 rfl rfl rfl (fit_of hR (by omega) rfl) (c_isKind (d0 := d0) x) rfl rfl (ex_i ?_)
  refine a_if_neB (pc := 5) 15 dX10_least_5 (by decide) (fun c1 => ?_) (fun c1 => ?_)
  · rw [if_pos c1] at ret
    obtain ⟨st, hst, rfl⟩ := (insQ_ok (by decide)).mp c1
    rw [ix_n (by omega)] at ret
    refine a_aload_n (pc := 15) dX10_least_15 rfl ?_
    refine a_gr (pc := 16) dX10_least_16 fX10_40 rfl ?_
    refine a_aload_n (pc := 19) dX10_least_19 rfl ?_
    refine a_gr (pc := 20) dX10_least_20 fX10_55 rfl ?_
    refine a_iload_n (pc := 23) dX10_least_23 rfl ?_
    refine a_aal (pc := 24) 3 st (Or.inl rfl) dX10_least_24 (kin_at st (by omega)) rfl ?_
    refine a_iconst (pc := 25) (nI 0) dX10_least_25 (by decide) ?_
    refine a_aload_n (pc := 26) dX10_least_26 rfl ?_
    refine a_gr (pc := 27) dX10_least_27 fX10_33 rfl ?_
    refine a_iconst (pc := 30) (nI 0) dX10_least_30 (by decide) ?_
    refine a_V4i (pc := 31) 2 dX10_least_31 lcX3_walk lX10_210 rfl rfl rfl (fit_of hR (by omega) rfl) (c_walk_64 (d0 := d0) (yA y) st 0 Ed false q0 (by omega) (by decide) hA hs (by omega)) rfl rfl (fun rr S' g1 hS hp => ?_)
    obtain ⟨rfl, f1, ⟨Ed', q', d1, d2, s1⟩, b, rfl, hyes, hno⟩ := hp
    have hb1 : CIb 67 g1 y (n + 1) := hb.wk f1 (by decide) (by decide) (by decide) (by decide) ⟨q', Ed', by omega, s1⟩
    refine a_if_neB (pc := 34) 44 dX10_least_34 (by decide) (fun c2 => ?_) (fun c2 => ?_)
    · obtain ⟨rp', w1, r1, -⟩ := hyes c2
      have hN1 : rp'.1 2 < 2147483648 := by
        rw [walkM, walkO] at w1
        match hz : goO (yA y) st (spB st 0) (yA y).length with
        | none =>
          rw [hz] at w1
          cases w1
        | some (su, w) =>
          rw [hz] at w1
          cases w1
          have hN := goO_N _ _ _ hz
          have h8 := hA.2.1
          have h1 := hN.1
          have h2 := hN.2.2.1
          show w.2.1 2 < 2147483648
          omega
      refine a_aload_n (pc := 44) dX10_least_44 rfl ?_
      refine a_gr (pc := 45) dX10_least_45 fX10_40 rfl ?_
      refine a_gr (pc := 48) dX10_least_48 fX10_232 rfl ?_
      refine a_gr (pc := 51) dX10_least_51 fX10_221 rfl ?_
      refine a_iconst (pc := 54) (nI 2) dX10_least_54 (by decide) ?_
      refine a_ial (pc := 55) _ dX10_least_55 rfl rfl (by omega) ?_
      rw [show gA g1 65 2 = _ from r1.1 2 (by decide)]
      refine a_if_leN (pc := 56) 66 dX10_least_56 (by decide) (by omega) (fun c3 => ?_) (fun c3 => ?_)
      · have hgood : goodM (yA y) st 0 := ⟨rp', w1, by omega⟩
        rw [if_pos hgood] at ret
        refine a_iconst (pc := 66) (nI 0) dX10_least_66 (by decide) ?_
        refine a_istore_n (pc := 67) (ls' := [_, _, _, _, _, _]) dX10_least_67 (Nat.le_of_ble_eq_true rfl) rfl ?_
        refine a_iconst (pc := 68) (nI 0) dX10_least_68 (by decide) ?_
        refine a_istore_n (pc := 69) (ls' := [_, _, _, _, _, _]) dX10_least_69 (Nat.le_of_ble_eq_true rfl) rfl ?_
        refine a_iconst (pc := 70) (nI 0) dX10_least_70 (by decide) ?_
        refine a_istore (pc := 71) (ls' := [_, _, _, _, _, _]) dX10_least_71 (Nat.le_of_ble_eq_true rfl) rfl ?_
        have fe : ∀ (g2 : GH) (ls : List (Option Value)) (v : Int32), AW mX10_least X Q ad 0 0 (conc (SS (71 + st) 67 64) g2) 84 ls [.int (nI (fnN st)), .int v] → AW mX10_least X Q ad 0 0 (conc (SS (71 + st) 67 64) g2) 81 ls [.ref (71 + st), .int v] := by
          intro g2 ls v kk
          obtain rfl | rfl | rfl : st = 0 ∨ st = 1 ∨ st = 2 := by omega
          · refine a_U0i (pc := 81) 3 dX10_least_81 rfl lcX4_fences lX10_156_X4 rfl (fit_of hR (by omega) rfl) (c_fences0 (d0 := d0)) rfl rfl (ex_i ?_)
            exact kk
          · refine a_U0i (pc := 81) 1 dX10_least_81 rfl lcX2_fences lX10_156_X2 rfl (fit_of hR (by omega) rfl) (c_fences1 (d0 := d0)) rfl rfl (ex_i ?_)
            exact kk
          · refine a_U0i (pc := 81) 7 dX10_least_81 rfl lcX8_fences lX10_156_X8 rfl (fit_of hR (by omega) rfl) (c_fences2 (d0 := d0)) rfl rfl (ex_i ?_)
            exact kk
        have hfn := fnN_le st
        have loop : ∀ t f, fnN st = f + t → ∀ (g2 : GH) (Ed2 : Nat) (q2 : Qd) (w5 : Option Value), Fr wkL_64 g g2 → SeD 34 27 g2 q2 Ed2 → Ed2 ≤ Ed + 100 * (f + 1) → AW mX10_least X Q ad 0 0 (conc (SS (71 + st) 67 64) g2) 73 [some (.ref 0), some (.int (nI st)), some (.int (nI (lstW (yA y) st f).2)), some (.int (nI (lstW (yA y) st f).1)), some (.int (nI f)), w5] [] := by
          intro t
          induction t with
          | zero =>
            intro f hf g2 Ed2 q2 w5 f2 s2 d2
            obtain rfl : f = fnN st := by omega
            refine a_iload (pc := 73) dX10_least_73 rfl ?_
            refine a_aload_n (pc := 75) dX10_least_75 rfl ?_
            refine a_gr (pc := 76) dX10_least_76 fX10_55 rfl ?_
            refine a_iload_n (pc := 79) dX10_least_79 rfl ?_
            refine a_aal (pc := 80) 3 st (Or.inl rfl) dX10_least_80 (kin_at st (by omega)) rfl ?_
            refine fe g2 _ _ ?_
            refine a_icmp_geN (pc := 84) 137 dX10_least_84 (by decide) (by omega) (by omega) (fun c4 => ?_) (fun c4 => ?_)
            · refine a_iload_n (pc := 137) dX10_least_137 rfl ?_
              refine ret _ _ 138 _ _ dX10_least_138 rfl ?_
              exact ⟨rfl, ⟨71 + st, 67, 64, hk, rfl, hb.wk f2 (by decide) (by decide) (by decide) (by decide) ⟨q2, Ed2, by omega, s2⟩⟩, f2.mono (by decide)⟩
            · exact absurd c4 (by omega)
          | succ t ih =>
            intro f hf g2 Ed2 q2 w5 f2 s2 d2
            obtain ⟨l1, l2, l3⟩ := lstW_lt (yA y) st f (by omega)
            have bo1 := bt_or (lstW (yA y) st f).1 f l1 (by omega)
            have bo2 := bt_or (lstW (yA y) st f).2 f l2 (by omega)
            have hA2 := hA.fr f2 (by decide) (by decide) (by decide) (by decide) (by decide)
            refine a_iload (pc := 73) dX10_least_73 rfl ?_
            refine a_aload_n (pc := 75) dX10_least_75 rfl ?_
            refine a_gr (pc := 76) dX10_least_76 fX10_55 rfl ?_
            refine a_iload_n (pc := 79) dX10_least_79 rfl ?_
            refine a_aal (pc := 80) 3 st (Or.inl rfl) dX10_least_80 (kin_at st (by omega)) rfl ?_
            refine fe g2 _ _ ?_
            refine a_icmp_geN (pc := 84) 137 dX10_least_84 (by decide) (by omega) (by omega) (fun c4 => ?_) (fun c4 => ?_)
            · exact absurd c4 (by omega)
            · refine a_iconst (pc := 87) (nI 1) dX10_least_87 (by decide) ?_
              refine a_iload (pc := 88) dX10_least_88 rfl ?_
              refine a_ishl (pc := 90) dX10_least_90 ?_
              refine a_istore (pc := 91) (ls' := [_, _, _, _, _, _]) dX10_least_91 (Nat.le_of_ble_eq_true rfl) rfl ?_
              refine a_aload_n (pc := 93) dX10_least_93 rfl ?_
              refine a_gr (pc := 94) dX10_least_94 fX10_40 rfl ?_
              refine a_aload_n (pc := 97) dX10_least_97 rfl ?_
              refine a_gr (pc := 98) dX10_least_98 fX10_55 rfl ?_
              refine a_iload_n (pc := 101) dX10_least_101 rfl ?_
              refine a_aal (pc := 102) 3 st (Or.inl rfl) dX10_least_102 (kin_at st (by omega)) rfl ?_
              refine a_iload_n (pc := 103) dX10_least_103 rfl ?_
              refine a_iload (pc := 104) dX10_least_104 rfl ?_
              refine a_ior (pc := 106) dX10_least_106 ?_
              rw [bo1.1]
              refine a_aload_n (pc := 107) dX10_least_107 rfl ?_
              refine a_gr (pc := 108) dX10_least_108 fX10_33 rfl ?_
              refine a_iconst (pc := 111) (nI 1) dX10_least_111 (by decide) ?_
              refine a_V4i (pc := 112) 2 dX10_least_112 lcX3_walk lX10_210 rfl rfl rfl (fit_of hR (by omega) rfl) (c_walk_64 (d0 := d0) (yA y) st ((lstW (yA y) st f).1 ||| 1 <<< f) Ed2 true q2 (by omega) bo1.2 hA2 s2 (by omega)) rfl rfl (fun rr S' g3 hS hp => ?_)
              obtain ⟨rfl, f3, ⟨Ed3, q3, d3, d4, s3⟩, b3, rfl, hy3, hn3⟩ := hp
              refine a_if_eqB (pc := 115) 126 dX10_least_115 (by decide) (fun c5 => ?_) (fun c5 => ?_)
              · have hng : ¬ goodM (yA y) st ((lstW (yA y) st f).1 ||| 1 <<< f) := by
                  rintro ⟨rp2, w2, z2⟩
                  rcases hn3 c5 with z | ⟨-, z⟩
                  · rw [z] at w2
                    cases w2
                  · exact z rp2 w2 z2
                refine a_iload_n (pc := 126) dX10_least_126 rfl ?_
                refine a_iload (pc := 127) dX10_least_127 rfl ?_
                refine a_ior (pc := 129) dX10_least_129 ?_
                rw [bo2.1]
                refine a_istore_n (pc := 130) (ls' := [_, _, _, _, _, _]) dX10_least_130 (Nat.le_of_ble_eq_true rfl) rfl ?_
                refine a_iinc (pc := 131) (ls' := [_, _, _, _, _, _]) (nI 1) dX10_least_131 (by decide) rfl (Nat.le_of_ble_eq_true rfl) rfl ?_
                try rw [nI_add]
                refine a_goto (pc := 134) 73 dX10_least_134 (by decide) ?_
                have := ih (f + 1) (by omega) g3 Ed3 q3 (some (.int (nI 1 <<< (nI f &&& 31)))) (f2.tr f3) s3 (by omega)
                rw [lstW_n hng] at this
                exact this
              · have hg : goodM (yA y) st ((lstW (yA y) st f).1 ||| 1 <<< f) := by
                  obtain ⟨rp2, w2, -, z2⟩ := hy3 c5
                  exact ⟨rp2, w2, z2 rfl⟩
                refine a_iload_n (pc := 118) dX10_least_118 rfl ?_
                refine a_iload (pc := 119) dX10_least_119 rfl ?_
                refine a_ior (pc := 121) dX10_least_121 ?_
                rw [bo1.1]
                refine a_istore_n (pc := 122) (ls' := [_, _, _, _, _, _]) dX10_least_122 (Nat.le_of_ble_eq_true rfl) rfl ?_
                refine a_goto (pc := 123) 131 dX10_least_123 (by decide) ?_
                refine a_iinc (pc := 131) (ls' := [_, _, _, _, _, _]) (nI 1) dX10_least_131 (by decide) rfl (Nat.le_of_ble_eq_true rfl) rfl ?_
                try rw [nI_add]
                refine a_goto (pc := 134) 73 dX10_least_134 (by decide) ?_
                have := ih (f + 1) (by omega) g3 Ed3 q3 (some (.int (nI 1 <<< (nI f &&& 31)))) (f2.tr f3) s3 (by omega)
                rw [lstW_y hg] at this
                exact this
        exact loop (fnN st) 0 (by omega) g1 Ed' q' _ f1 s1 (by omega)
      · have hbad : ¬ goodM (yA y) st 0 := by
          rintro ⟨rp2, w2, z2⟩
          rw [w1] at w2
          cases w2
          omega
        rw [if_neg hbad, w1] at ret
        refine a_aload_n (pc := 59) dX10_least_59 rfl ?_
        refine a_bipush (pc := 60) (-5) dX10_least_60 (by decide) ?_
        refine a_V1i (pc := 62) 9 dX10_least_62 lcX10_refuse lX10_77 rfl rfl rfl (fit_of hR (by omega) rfl) (c_krefuse (d0 := d0) 5 (by decide) (by decide)) rfl rfl (ex_i ?_)
        refine ret _ _ 65 _ _ dX10_least_65 rfl ?_
        exact ⟨rfl, ⟨71 + st, 67, 64, hk, rfl, hb1.ref1 hk' 5 (by decide)⟩, (f1.mono (by decide)).tr (fr_ref _ _)⟩
    · have w1 : walkM (yA y) st 0 = none := (hno c2).elim id (fun z => by cases z.1)
      have hbad : ¬ goodM (yA y) st 0 := by
        rintro ⟨rp2, w2, z2⟩
        rw [w1] at w2
        cases w2
      rw [if_neg hbad, w1] at ret
      refine a_aload_n (pc := 37) dX10_least_37 rfl ?_
      refine a_bipush (pc := 38) (-6) dX10_least_38 (by decide) ?_
      refine a_V1i (pc := 40) 9 dX10_least_40 lcX10_refuse lX10_77 rfl rfl rfl (fit_of hR (by omega) rfl) (c_krefuse (d0 := d0) 6 (by decide) (by decide)) rfl rfl (ex_i ?_)
      refine ret _ _ 43 _ _ dX10_least_43 rfl ?_
      exact ⟨rfl, ⟨71 + st, 67, 64, hk, rfl, hb1.ref1 hk' 6 (by decide)⟩, (f1.mono (by decide)).tr (fr_ref _ _)⟩
  · rw [if_neg (by rw [c1]; decide)] at ret
    refine a_aload_n (pc := 8) dX10_least_8 rfl ?_
    refine a_bipush (pc := 9) (-2) dX10_least_9 (by decide) ?_
    refine a_V1i (pc := 11) 9 dX10_least_11 lcX10_refuse lX10_77 rfl rfl rfl (fit_of hR (by omega) rfl) (c_krefuse (d0 := d0) 2 (by decide) (by decide)) rfl rfl (ex_i ?_)
    refine ret _ _ 14 _ _ dX10_least_14 rfl ?_
    exact ⟨rfl, ⟨kd, 67, 64, hk, rfl, hb.ref hk' 2 (by decide)⟩, fr_ref _ _⟩
set_option maxHeartbeats 1000000 in
set_option maxRecDepth 100000 in
theorem k_spare {d0 : Nat} {S : sH} {g : GH} {y : Sy} {n : Nat} (h : CI S g y n) (hy : Yok y) (hn : n < 512) (x f : Int32) (on : Bool) : ACi mX10_spare (d0 + 40) S g [.ref 0, .int x, .int f, .int (bI on)] (fun r S' g' => r = bI (oSpare y x f on).1 ∧ CI S' g' (oSpare y x f on).2 (n + 1) ∧ Fr clL g g') := by
  obtain ⟨kd, k, r, hk, rfl, hb⟩ := h
  have hk' : k = 64 ∨ k = 67 := by omega
  have fin : CI (SS kd k r) g y (n + 1) := ⟨kd, k, r, hk, rfl, hb.n (by omega)⟩
  unfold oSpare
  refine ACz.of lcX10_spare rfl rfl (fun X Q ad hR ret => ?_)
  refine AW_ls (ls' := [_, _, _, _, _, _]) rfl ?_
  have no : ¬ (insQ x (nI 0) (nI 2) = true ∧ insQ f (nI 0) (nI (fnN (ix x)) - nI 1) = true) → AW mX10_spare X Q ad 0 0 (conc (SS kd k r) g) 25 [some (.ref 0), some (.int x), some (.int f), some (.int (bI on)), none, none] [] := by
    intro c1
    rw [if_neg c1] at ret
    refine a_iconst (pc := 25) (nI 0) dX10_spare_25 (by decide) ?_
    refine ret _ _ 26 _ _ dX10_spare_26 rfl (by first | exact Or.inl rfl | exact Or.inr rfl | exact bI_01 _) ?_
    exact ⟨rfl, fin, Fr.rf _ g⟩
  refine a_aload_n (pc := 0) dX10_spare_0 rfl ?_
  refine a_iload_n (pc := 1) dX10_spare_1 rfl ?_
  refine a_V1i (pc := 2) 9 dX10_spare_2 lcX10_isKind lX10_149 rfl rfl rfl (fit_of hR (by omega) rfl) (c_isKind (d0 := d0) x) rfl rfl (ex_i ?_)
  refine a_if_eqB (pc := 5) 25 dX10_spare_5 (by decide) (fun c1 => ?_) (fun c1 => ?_)
  · exact no (fun z => absurd (z.1.symm.trans c1) (by decide))
  · obtain ⟨st, hst, rfl⟩ := (insQ_ok (by decide)).mp c1
    have hm := ys16 hy (st := st) (by omega)
    have hfn := fnN_le st
    rw [ix_n (by omega)] at ret no
    have fe : ∀ (ls : List (Option Value)) (v : Int32), AW mX10_spare X Q ad 0 0 (conc (SS kd k r) g) 22 ls [.int (nI (fnN st)), .int v] → AW mX10_spare X Q ad 0 0 (conc (SS kd k r) g) 19 ls [.ref (71 + st), .int v] := by
      intro ls v kk
      obtain rfl | rfl | rfl : st = 0 ∨ st = 1 ∨ st = 2 := by omega
      · refine a_U0i (pc := 19) 3 dX10_spare_19 rfl lcX4_fences lX10_156_X4 rfl (fit_of hR (by omega) rfl) (c_fences0 (d0 := d0)) rfl rfl (ex_i ?_)
        exact kk
      · refine a_U0i (pc := 19) 1 dX10_spare_19 rfl lcX2_fences lX10_156_X2 rfl (fit_of hR (by omega) rfl) (c_fences1 (d0 := d0)) rfl rfl (ex_i ?_)
        exact kk
      · refine a_U0i (pc := 19) 7 dX10_spare_19 rfl lcX8_fences lX10_156_X8 rfl (fit_of hR (by omega) rfl) (c_fences2 (d0 := d0)) rfl rfl (ex_i ?_)
        exact kk
    refine a_iload_n (pc := 8) dX10_spare_8 rfl ?_
    rcases idx_br (i := f) (n := fnN st) (by omega) with ⟨c2, j, hj, rfl⟩ | ⟨c2, c3⟩
    · rw [if_pos ⟨c1, c2⟩, ix_n (by omega)] at ret
      have hm4 := hb.2.2.2.1 st (by omega)
      have hbits := sp_bits (ys y st) j hm (by omega)
      refine a_if_ltN (pc := 9) 25 dX10_spare_9 (by decide) (by omega) (fun c4 => ?_) (fun c4 => ?_)
      · exact absurd c4 (by omega)
      · refine a_iload_n (pc := 12) dX10_spare_12 rfl ?_
        refine a_aload_n (pc := 13) dX10_spare_13 rfl ?_
        refine a_gr (pc := 14) dX10_spare_14 fX10_55 rfl ?_
        refine a_iload_n (pc := 17) dX10_spare_17 rfl ?_
        refine a_aal (pc := 18) 3 st (Or.inl rfl) dX10_spare_18 (kin_at st (by omega)) rfl ?_
        refine fe _ _ ?_
        refine a_icmp_ltN (pc := 22) 27 dX10_spare_22 (by decide) (by omega) (by omega) (fun c5 => ?_) (fun c5 => ?_)
        · have last : AW mX10_spare X Q ad 0 0 (conc (SS kd k r) g) 56 [some (.ref 0), some (.int (nI st)), some (.int (nI j)), some (.int (bI on)), none, none] [.int (nI (spF (ys y st) j on))] := by
            have hlt : spF (ys y st) j on < 16 := by
              cases on
              · exact hbits.2.2.2
              · exact hbits.2.2.1
            have hsame := sp_same (ys y st) j hm (by omega) on
            refine a_istore (pc := 56) (ls' := [_, _, _, _, _, _]) dX10_spare_56 (Nat.le_of_ble_eq_true rfl) rfl ?_
            refine a_iload (pc := 58) dX10_spare_58 rfl ?_
            refine a_aload_n (pc := 60) dX10_spare_60 rfl ?_
            refine a_gr (pc := 61) dX10_spare_61 fX10_59 rfl ?_
            refine a_iload_n (pc := 64) dX10_spare_64 rfl ?_
            refine a_ial (pc := 65) _ dX10_spare_65 rfl rfl (by omega) ?_
            rw [hm4]
            refine AW_val3 74 (bI (!decide ((ys y st).testBit j = on))) (fun hJ => ?_) ?_
            · refine a_icmp_eqN (pc := 66) 73 dX10_spare_66 (by decide) (by omega) (by omega) (fun c6 => ?_) (fun c6 => ?_)
              · refine a_iconst (pc := 73) (nI 0) dX10_spare_73 (by decide) ?_
                exact AW_top (by rw [decide_eq_true (hsame.mp c6)]; rfl) hJ
              · refine a_iconst (pc := 69) (nI 1) dX10_spare_69 (by decide) ?_
                refine a_goto (pc := 70) 74 dX10_spare_70 (by decide) ?_
                exact AW_top (by rw [decide_eq_false (fun z => c6 (hsame.mpr z))]; rfl) hJ
            refine a_istore (pc := 74) (ls' := [_, _, _, _, _, _]) dX10_spare_74 (Nat.le_of_ble_eq_true rfl) rfl ?_
            refine a_aload_n (pc := 76) dX10_spare_76 rfl ?_
            refine a_gr (pc := 77) dX10_spare_77 fX10_59 rfl ?_
            refine a_iload_n (pc := 80) dX10_spare_80 rfl ?_
            refine a_iload (pc := 81) dX10_spare_81 rfl ?_
            refine a_ast (pc := 83) _ dX10_spare_83 rfl rfl (by omega) ?_
            refine a_iload (pc := 84) dX10_spare_84 rfl ?_
            refine ret _ _ 86 _ _ dX10_spare_86 rfl (by first | exact Or.inl rfl | exact Or.inr rfl | exact bI_01 _) ?_
            refine ⟨rfl, ⟨kd, k, r, hk, rfl, ?_⟩, (Fr.rf _ g).sA (by decide) _⟩
            have f1 : Fr [74] g (pA g 74 (upd (gA g 74) st (nI (spF (ys y st) j on)))) := (Fr.rf _ g).sA (by decide) _
            obtain ⟨h1, h2, h3, h4, h5, h6, ⟨q', h7⟩, h8⟩ := hb
            refine ⟨h1.fr f1 (by decide), (h2.fr f1 (by decide) (by decide)).up (by omega), h3, fun s hs => ?_, h5, h6.fr f1 (by decide) (by decide) (by decide) (by decide) (by decide), ⟨q', (h7.fr f1 (by decide) (by decide)).up (by omega)⟩, ?_⟩
            · rw [gA_pA, if_pos rfl]
              show upd (gA g 74) st _ s = nI (tu (ys y) st (spF (ys y st) j on) s)
              simp only [upd, tu]
              by_cases z : s = st
              · rw [if_pos z, if_pos z]
              · rw [if_neg z, if_neg z]
                exact h4 s hs
            · rcases hk' with rfl | rfl
              · exact h8.fr f1 (by decide) (by decide) (by decide)
              · exact h8.fr f1 (by decide) (by decide) (by decide)
          refine a_iload_n (pc := 27) dX10_spare_27 rfl ?_
          cases on with
          | false =>
            refine a_if_eqB (pc := 28) 44 dX10_spare_28 (by decide) (fun c6 => ?_) (fun c6 => ?_)
            · refine a_aload_n (pc := 44) dX10_spare_44 rfl ?_
              refine a_gr (pc := 45) dX10_spare_45 fX10_59 rfl ?_
              refine a_iload_n (pc := 48) dX10_spare_48 rfl ?_
              refine a_ial (pc := 49) _ dX10_spare_49 rfl rfl (by omega) ?_
              rw [hm4]
              refine a_iconst (pc := 50) (nI 1) dX10_spare_50 (by decide) ?_
              refine a_iload_n (pc := 51) dX10_spare_51 rfl ?_
              refine a_ishl (pc := 52) dX10_spare_52 ?_
              refine a_iconst (pc := 53) (-1) dX10_spare_53 (by decide) ?_
              refine a_ixor (pc := 54) dX10_spare_54 ?_
              refine a_iand (pc := 55) dX10_spare_55 ?_
              rw [hbits.2.1]
              exact last
            · cases c6
          | true =>
            refine a_if_eqB (pc := 28) 44 dX10_spare_28 (by decide) (fun c6 => ?_) (fun c6 => ?_)
            · cases c6
            · refine a_aload_n (pc := 31) dX10_spare_31 rfl ?_
              refine a_gr (pc := 32) dX10_spare_32 fX10_59 rfl ?_
              refine a_iload_n (pc := 35) dX10_spare_35 rfl ?_
              refine a_ial (pc := 36) _ dX10_spare_36 rfl rfl (by omega) ?_
              rw [hm4]
              refine a_iconst (pc := 37) (nI 1) dX10_spare_37 (by decide) ?_
              refine a_iload_n (pc := 38) dX10_spare_38 rfl ?_
              refine a_ishl (pc := 39) dX10_spare_39 ?_
              refine a_ior (pc := 40) dX10_spare_40 ?_
              refine a_goto (pc := 41) 56 dX10_spare_41 (by decide) ?_
              rw [hbits.1]
              exact last
        · exact absurd c5 (by omega)
    · have c2' : ¬ (insQ (nI st) (nI 0) (nI 2) = true ∧ insQ f (nI 0) (nI (fnN st) - nI 1) = true) := fun z => absurd (z.2.symm.trans c2) (by decide)
      refine a_if_lt (pc := 9) 25 dX10_spare_9 (by decide) (fun c4 => ?_) (fun c4 => ?_)
      · exact no c2'
      · refine a_iload_n (pc := 12) dX10_spare_12 rfl ?_
        refine a_aload_n (pc := 13) dX10_spare_13 rfl ?_
        refine a_gr (pc := 14) dX10_spare_14 fX10_55 rfl ?_
        refine a_iload_n (pc := 17) dX10_spare_17 rfl ?_
        refine a_aal (pc := 18) 3 st (Or.inl rfl) dX10_spare_18 (kin_at st (by omega)) rfl ?_
        refine fe _ _ ?_
        refine a_icmp_lt (pc := 22) 27 dX10_spare_22 (by decide) (fun c5 => ?_) (fun c5 => ?_)
        · rcases c3 with z | z
          · exact absurd z c4
          · exact absurd c5 (Int32.not_lt.mpr z)
        · exact no c2'
set_option maxHeartbeats 1000000 in
set_option maxRecDepth 100000 in
theorem k_digest {d0 : Nat} {S : sH} {g : GH} {y : Sy} {n : Nat} (h : CI S g y n) (hn : n < 512) (w : Int32) : ACi mX10_digest (d0 + 40) S g [.ref 0, .int w] (fun r S' g' => r = oDigest y w ∧ CI S' g' y (n + 1) ∧ Fr clL g g') := by
  obtain ⟨kd, k, r, hk, rfl, hb⟩ := h
  have fin : CI (SS kd k r) g y (n + 1) := ⟨kd, k, r, hk, rfl, hb.n (by omega)⟩
  unfold oDigest
  rw [ins01]
  refine ACi.of lcX10_digest rfl rfl (fun X Q ad hR ret => ?_)
  refine AW_ls (ls' := [_, _, _, _, _]) rfl ?_
  have main : ∀ (c : Nat) (F : Nat → Int32), (c = 2 ∨ c = 3) → (∀ p, p < 32 → gA g c p = F p) → (oDigest y w = dgA F 32) → oDigest y w = (if (decide (w = 0) || decide (w = nI 1)) = true then dgA (fun p => if w = 0 then (yq y).1 p else flQ (yq y) p) 32 else -9) → AW mX10_digest X Q ad 0 0 (conc (SS kd k r) g) 33 [some (.ref 0), some (.int w), none, none, none] [.ref c] := by
    intro c F hc hF hd hd2
    rw [← hd2, hd] at ret
    refine a_astore_n (pc := 33) (ls' := [_, _, _, _, _]) dX10_digest_33 (Nat.le_of_ble_eq_true rfl) rfl ?_
    refine a_iconst (pc := 34) (nI 0) dX10_digest_34 (by decide) ?_
    refine a_istore_n (pc := 35) (ls' := [_, _, _, _, _]) dX10_digest_35 (Nat.le_of_ble_eq_true rfl) rfl ?_
    refine a_iconst (pc := 36) (nI 0) dX10_digest_36 (by decide) ?_
    refine a_istore (pc := 37) (ls' := [_, _, _, _, _]) dX10_digest_37 (Nat.le_of_ble_eq_true rfl) rfl ?_
    have loop : ∀ t p, 32 = p + t → AW mX10_digest X Q ad 0 0 (conc (SS kd k r) g) 39 [some (.ref 0), some (.int w), some (.ref c), some (.int (dgA F p)), some (.int (nI p))] [] := by
      intro t
      induction t with
      | zero =>
        intro p hp
        obtain rfl : p = 32 := by omega
        refine a_iload (pc := 39) dX10_digest_39 rfl ?_
        refine a_bipush (pc := 41) (nI 32) dX10_digest_41 (by decide) ?_
        refine a_icmp_geN (pc := 43) 62 dX10_digest_43 (by decide) (by omega) (by omega) (fun c1 => ?_) (fun c1 => ?_)
        · refine a_iload_n (pc := 62) dX10_digest_62 rfl ?_
          refine ret _ _ 63 _ _ dX10_digest_63 rfl ?_
          exact ⟨rfl, fin, Fr.rf _ g⟩
        · exact absurd c1 (by omega)
      | succ t ih =>
        intro p hp
        refine a_iload (pc := 39) dX10_digest_39 rfl ?_
        refine a_bipush (pc := 41) (nI 32) dX10_digest_41 (by decide) ?_
        refine a_icmp_geN (pc := 43) 62 dX10_digest_43 (by decide) (by omega) (by omega) (fun c1 => ?_) (fun c1 => ?_)
        · exact absurd c1 (by omega)
        · refine a_bipush (pc := 46) (nI 31) dX10_digest_46 (by decide) ?_
          refine a_iload_n (pc := 48) dX10_digest_48 rfl ?_
          refine a_imul (pc := 49) dX10_digest_49 ?_
          try rw [pk_mul]
          refine a_aload_n (pc := 50) dX10_digest_50 rfl ?_
          refine a_iload (pc := 51) dX10_digest_51 rfl ?_
          refine a_ial (pc := 53) p dX10_digest_53 (m := 32) (by rcases hc with rfl | rfl <;> rfl) rfl (by omega) ?_
          rw [hF p (by omega)]
          refine a_iadd (pc := 54) dX10_digest_54 ?_
          try rw [nI_add]
          refine a_istore_n (pc := 55) (ls' := [_, _, _, _, _]) dX10_digest_55 (Nat.le_of_ble_eq_true rfl) rfl ?_
          refine a_iinc (pc := 56) (ls' := [_, _, _, _, _]) (nI 1) dX10_digest_56 (by decide) rfl (Nat.le_of_ble_eq_true rfl) rfl ?_
          try rw [nI_add]
          refine a_goto (pc := 59) 39 dX10_digest_59 (by decide) ?_
          exact ih (p + 1) (by omega)
    exact loop 32 0 (by omega)
  refine a_iload_n (pc := 0) dX10_digest_0 rfl ?_
  refine a_if_eq (pc := 1) 12 dX10_digest_1 (by decide) (fun c1 => ?_) (fun c1 => ?_)
  · refine a_iload_n (pc := 12) dX10_digest_12 rfl ?_
    refine a_if_ne (pc := 13) 26 dX10_digest_13 (by decide) (fun c2 => ?_) (fun c2 => ?_)
    · exact absurd c1 c2
    · refine a_aload_n (pc := 16) dX10_digest_16 rfl ?_
      refine a_gr (pc := 17) dX10_digest_17 fX10_12 rfl ?_
      refine a_gr (pc := 20) dX10_digest_20 fX10_114 rfl ?_
      refine a_goto (pc := 23) 33 dX10_digest_23 (by decide) ?_
      refine main 2 (yq y).1 (Or.inl rfl) hb.1.2.1 ?_ ?_
      · unfold oDigest
        rw [ins01, decide_eq_true c1, Bool.true_or, if_pos rfl]
        exact dgA_congr 32 (fun p _ => if_pos c1)
      · unfold oDigest
        rw [ins01]
  · refine a_iload_n (pc := 4) dX10_digest_4 rfl ?_
    refine a_iconst (pc := 5) (nI 1) dX10_digest_5 (by decide) ?_
    refine a_icmp_eq (pc := 6) 12 dX10_digest_6 (by decide) (fun c2 => ?_) (fun c2 => ?_)
    · refine a_iload_n (pc := 12) dX10_digest_12 rfl ?_
      refine a_if_ne (pc := 13) 26 dX10_digest_13 (by decide) (fun c3 => ?_) (fun c3 => ?_)
      · refine a_aload_n (pc := 26) dX10_digest_26 rfl ?_
        refine a_gr (pc := 27) dX10_digest_27 fX10_12 rfl ?_
        refine a_gr (pc := 30) dX10_digest_30 fX10_111 rfl ?_
        refine main 3 (flQ (yq y)) (Or.inr rfl) hb.1.2.2.1 ?_ ?_
        · unfold oDigest
          rw [ins01, decide_eq_true c2, Bool.or_true, if_pos rfl]
          exact dgA_congr 32 (fun p _ => if_neg c1)
        · unfold oDigest
          rw [ins01]
      · exact absurd c3 c1
    · refine a_bipush (pc := 9) (-9) dX10_digest_9 (by decide) ?_
      refine ret _ _ 11 _ _ dX10_digest_11 rfl ?_
      rw [decide_eq_false c1, decide_eq_false c2, if_neg (by decide)]
      exact ⟨rfl, fin, Fr.rf _ g⟩
theorem ins_out {w : Int32} {lo hi : Nat} (hlo : lo < 2147483648) (hhi : hi < 2147483648) : insQ w (nI lo) (nI hi) = true ↔ nI lo ≤ w ∧ w ≤ nI hi := by
  unfold insQ
  rw [Bool.and_eq_true, decide_eq_true_iff, decide_eq_true_iff]
set_option maxHeartbeats 1000000 in
set_option maxRecDepth 100000 in
theorem k_status {d0 : Nat} {S : sH} {g : GH} {y : Sy} {n : Nat} (h : CI S g y n) (hy : Yok y) (hn : n < 512) (w : Int32) : ACi mX10_status (d0 + 40) S g [.ref 0, .int w] (fun r S' g' => r = oStatus y w ∧ CI S' g' y (n + 1) ∧ Fr clL g g') := by
  obtain ⟨kd, k, r, hk, rfl, hb⟩ := h
  have fin : CI (SS kd k r) g y (n + 1) := ⟨kd, k, r, hk, rfl, hb.n (by omega)⟩
  have e8 := hb.2.2.1.1
  unfold oStatus
  by_cases c7 : insQ w (nI 0) (nI 7) = true
  · rw [if_pos c7]
    obtain ⟨j, hj, rfl⟩ := (insQ_ok (by decide)).mp c7
    rw [ix_n (by omega)]
    obtain rfl | rfl | rfl | rfl | rfl | rfl | rfl | rfl : j = 0 ∨ j = 1 ∨ j = 2 ∨ j = 3 ∨ j = 4 ∨ j = 5 ∨ j = 6 ∨ j = 7 := by omega
    · refine ACi.of lcX10_status rfl rfl (fun X Q ad hR ret => ?_)
      refine AW_ls (ls' := [_, _]) rfl ?_
      refine a_iload_n (pc := 0) dX10_status_0 rfl ?_
      refine a_bipush (pc := 1) (nI 11) dX10_status_1 (by decide) ?_
      refine a_icmp_ltN (pc := 3) 22 dX10_status_3 (by decide) (by omega) (by omega) (fun c1 => ?_) (fun c1 => ?_)
      · refine a_iload_n (pc := 22) dX10_status_22 rfl ?_
        refine a_tabIn (pc := 23) 68 dX10_status_23 (by decide) (by decide) rfl (by decide) ?_
        refine a_aload_n (pc := 68) dX10_status_68 rfl ?_
        refine a_gr (pc := 69) dX10_status_69 fX10_12 rfl ?_
        refine a_gi (pc := 72) dX10_status_72 fX10_88 rfl ?_
        rw [hb.1.1.1]
        refine ret _ _ 75 _ _ dX10_status_75 rfl ?_
        exact ⟨rfl, fin, Fr.rf _ g⟩
      · exact absurd c1 (by decide)
    · refine ACi.of lcX10_status rfl rfl (fun X Q ad hR ret => ?_)
      refine AW_ls (ls' := [_, _]) rfl ?_
      refine a_iload_n (pc := 0) dX10_status_0 rfl ?_
      refine a_bipush (pc := 1) (nI 11) dX10_status_1 (by decide) ?_
      refine a_icmp_ltN (pc := 3) 22 dX10_status_3 (by decide) (by omega) (by omega) (fun c1 => ?_) (fun c1 => ?_)
      · refine a_iload_n (pc := 22) dX10_status_22 rfl ?_
        refine a_tabIn (pc := 23) 76 dX10_status_23 (by decide) (by decide) rfl (by decide) ?_
        refine a_aload_n (pc := 76) dX10_status_76 rfl ?_
        refine a_gr (pc := 77) dX10_status_77 fX10_12 rfl ?_
        refine a_gi (pc := 80) dX10_status_80 fX10_94 rfl ?_
        rw [hb.1.1.2.2.1]
        refine ret _ _ 83 _ _ dX10_status_83 rfl ?_
        exact ⟨rfl, fin, Fr.rf _ g⟩
      · exact absurd c1 (by decide)
    · refine ACi.of lcX10_status rfl rfl (fun X Q ad hR ret => ?_)
      refine AW_ls (ls' := [_, _]) rfl ?_
      refine a_iload_n (pc := 0) dX10_status_0 rfl ?_
      refine a_bipush (pc := 1) (nI 11) dX10_status_1 (by decide) ?_
      refine a_icmp_ltN (pc := 3) 22 dX10_status_3 (by decide) (by omega) (by omega) (fun c1 => ?_) (fun c1 => ?_)
      · refine a_iload_n (pc := 22) dX10_status_22 rfl ?_
        refine a_tabIn (pc := 23) 84 dX10_status_23 (by decide) (by decide) rfl (by decide) ?_
        refine a_aload_n (pc := 84) dX10_status_84 rfl ?_
        refine a_gr (pc := 85) dX10_status_85 fX10_12 rfl ?_
        refine a_gi (pc := 88) dX10_status_88 fX10_235 rfl ?_
        rw [hb.1.1.2.2.2.1]
        refine ret _ _ 91 _ _ dX10_status_91 rfl ?_
        exact ⟨rfl, fin, Fr.rf _ g⟩
      · exact absurd c1 (by decide)
    · refine ACi.of lcX10_status rfl rfl (fun X Q ad hR ret => ?_)
      refine AW_ls (ls' := [_, _]) rfl ?_
      refine a_iload_n (pc := 0) dX10_status_0 rfl ?_
      refine a_bipush (pc := 1) (nI 11) dX10_status_1 (by decide) ?_
      refine a_icmp_ltN (pc := 3) 22 dX10_status_3 (by decide) (by omega) (by omega) (fun c1 => ?_) (fun c1 => ?_)
      · refine a_iload_n (pc := 22) dX10_status_22 rfl ?_
        refine a_tabIn (pc := 23) 92 dX10_status_23 (by decide) (by decide) rfl (by decide) ?_
        refine a_aload_n (pc := 92) dX10_status_92 rfl ?_
        refine a_gi (pc := 93) dX10_status_93 fX10_66 rfl ?_
        rw [e8]
        refine ret _ _ 96 _ _ dX10_status_96 rfl ?_
        exact ⟨rfl, fin, Fr.rf _ g⟩
      · exact absurd c1 (by decide)
    · refine ACi.of lcX10_status rfl rfl (fun X Q ad hR ret => ?_)
      refine AW_ls (ls' := [_, _]) rfl ?_
      refine a_iload_n (pc := 0) dX10_status_0 rfl ?_
      refine a_bipush (pc := 1) (nI 11) dX10_status_1 (by decide) ?_
      refine a_icmp_ltN (pc := 3) 22 dX10_status_3 (by decide) (by omega) (by omega) (fun c1 => ?_) (fun c1 => ?_)
      · refine a_iload_n (pc := 22) dX10_status_22 rfl ?_
        refine a_tabIn (pc := 23) 97 dX10_status_23 (by decide) (by decide) rfl (by decide) ?_
        refine a_aload_n (pc := 97) dX10_status_97 rfl ?_
        refine a_gr (pc := 98) dX10_status_98 fX10_33 rfl ?_
        refine a_gi (pc := 101) dX10_status_101 fX10_207 rfl ?_
        rw [hb.2.2.2.2.2.1.1]
        refine ret _ _ 104 _ _ dX10_status_104 rfl ?_
        exact ⟨rfl, fin, Fr.rf _ g⟩
      · exact absurd c1 (by decide)
    · have ev : verQ (gA g 3, []) = verQ (yq y) := by
        rw [verQ_fl hb.1.ok, verQ_nil, verQ_nil, show gA g 3 6 = _ from hb.1.2.2.1 6 (by decide), show gA g 3 7 = _ from hb.1.2.2.1 7 (by decide), show gA g 3 14 = _ from hb.1.2.2.1 14 (by decide), show gA g 3 15 = _ from hb.1.2.2.1 15 (by decide)]
      refine ACi.of lcX10_status rfl rfl (fun X Q ad hR ret => ?_)
      refine AW_ls (ls' := [_, _]) rfl ?_
      refine a_iload_n (pc := 0) dX10_status_0 rfl ?_
      refine a_bipush (pc := 1) (nI 11) dX10_status_1 (by decide) ?_
      refine a_icmp_ltN (pc := 3) 22 dX10_status_3 (by decide) (by omega) (by omega) (fun c1 => ?_) (fun c1 => ?_)
      · refine a_iload_n (pc := 22) dX10_status_22 rfl ?_
        refine a_tabIn (pc := 23) 105 dX10_status_23 (by decide) (by decide) rfl (by decide) ?_
        refine a_aload_n (pc := 105) dX10_status_105 rfl ?_
        refine a_V0i (pc := 106) 9 dX10_status_106 lcX10_hasStore lX10_160 rfl rfl rfl (fit_of hR (by omega) rfl) (c_hasStore (d0 := d0)) rfl rfl (ex_i ?_)
        rw [e8]
        rcases hy.1 with z | ⟨st, hst, z⟩
        · rw [hs_no z]
          refine a_if_eqB (pc := 109) 134 dX10_status_109 (by decide) (fun c2 => ?_) (fun c2 => ?_)
          · refine a_iconst (pc := 134) (nI 0) dX10_status_134 (by decide) ?_
            refine ret _ _ 135 _ _ dX10_status_135 rfl ?_
            refine ⟨?_, fin, Fr.rf _ g⟩
            show nI 0 = if yk y = nI 2 then verQ (yq y) else nI 0
            rw [if_neg (by rw [z]; decide)]
          · cases c2
        · rw [hs_yes hst z]
          refine a_if_eqB (pc := 109) 134 dX10_status_109 (by decide) (fun c2 => ?_) (fun c2 => ?_)
          · cases c2
          · refine a_aload_n (pc := 112) dX10_status_112 rfl ?_
            refine a_gr (pc := 113) dX10_status_113 fX10_55 rfl ?_
            refine a_aload_n (pc := 116) dX10_status_116 rfl ?_
            refine a_gi (pc := 117) dX10_status_117 fX10_66 rfl ?_
            rw [e8, z]
            refine a_aal (pc := 120) 3 st (Or.inl rfl) dX10_status_120 (kin_at st hst) rfl ?_
            refine a_aload_n (pc := 121) dX10_status_121 rfl ?_
            refine a_gr (pc := 122) dX10_status_122 fX10_12 rfl ?_
            refine a_gr (pc := 125) dX10_status_125 fX10_111 rfl ?_
            obtain rfl | rfl | rfl : st = 0 ∨ st = 1 ∨ st = 2 := by omega
            · refine a_U1i (pc := 128) 3 dX10_status_128 rfl lcX1_version lX10_238_X4 rfl (fit_of hR (by omega) rfl) (c_kverN (d0 := d0) 71 3) rfl rfl (ex_i ?_)
              refine a_goto (pc := 131) 135 dX10_status_131 (by decide) ?_
              refine ret _ _ 135 _ _ dX10_status_135 rfl ?_
              refine ⟨?_, fin, Fr.rf _ g⟩
              show nI 0 = if yk y = nI 2 then verQ (yq y) else nI 0
              rw [if_neg (by rw [z]; decide)]
            · refine a_U1i (pc := 128) 1 dX10_status_128 rfl lcX1_version lX10_238_X2 rfl (fit_of hR (by omega) rfl) (c_kverN (d0 := d0) 72 3) rfl rfl (ex_i ?_)
              refine a_goto (pc := 131) 135 dX10_status_131 (by decide) ?_
              refine ret _ _ 135 _ _ dX10_status_135 rfl ?_
              refine ⟨?_, fin, Fr.rf _ g⟩
              show nI 0 = if yk y = nI 2 then verQ (yq y) else nI 0
              rw [if_neg (by rw [z]; decide)]
            · refine a_U1i (pc := 128) 7 dX10_status_128 rfl lcX8_version lX10_238_X8 rfl (fit_of hR (by omega) rfl) (c_kver_3 (d0 := d0)) rfl rfl (ex_i ?_)
              refine a_goto (pc := 131) 135 dX10_status_131 (by decide) ?_
              refine ret _ _ 135 _ _ dX10_status_135 rfl ?_
              refine ⟨?_, fin, Fr.rf _ g⟩
              show verQ (gA g 3, []) = if yk y = nI 2 then verQ (yq y) else nI 0
              rw [if_pos z, ev]
      · exact absurd c1 (by decide)
    · refine ACi.of lcX10_status rfl rfl (fun X Q ad hR ret => ?_)
      refine AW_ls (ls' := [_, _]) rfl ?_
      refine a_iload_n (pc := 0) dX10_status_0 rfl ?_
      refine a_bipush (pc := 1) (nI 11) dX10_status_1 (by decide) ?_
      refine a_icmp_ltN (pc := 3) 22 dX10_status_3 (by decide) (by omega) (by omega) (fun c1 => ?_) (fun c1 => ?_)
      · refine a_iload_n (pc := 22) dX10_status_22 rfl ?_
        refine a_tabIn (pc := 23) 136 dX10_status_23 (by decide) (by decide) rfl (by decide) ?_
        refine a_aload_n (pc := 136) dX10_status_136 rfl ?_
        refine a_gr (pc := 137) dX10_status_137 fX10_12 rfl ?_
        refine a_gi (pc := 140) dX10_status_140 fX10_242 rfl ?_
        rw [hb.2.2.1.2.2]
        refine ret _ _ 143 _ _ dX10_status_143 rfl ?_
        exact ⟨rfl, fin, Fr.rf _ g⟩
      · exact absurd c1 (by decide)
    · refine ACi.of lcX10_status rfl rfl (fun X Q ad hR ret => ?_)
      refine AW_ls (ls' := [_, _]) rfl ?_
      refine a_iload_n (pc := 0) dX10_status_0 rfl ?_
      refine a_bipush (pc := 1) (nI 11) dX10_status_1 (by decide) ?_
      refine a_icmp_ltN (pc := 3) 22 dX10_status_3 (by decide) (by omega) (by omega) (fun c1 => ?_) (fun c1 => ?_)
      · refine a_iload_n (pc := 22) dX10_status_22 rfl ?_
        refine a_tabIn (pc := 23) 144 dX10_status_23 (by decide) (by decide) rfl (by decide) ?_
        refine a_aload_n (pc := 144) dX10_status_144 rfl ?_
        refine a_gi (pc := 145) dX10_status_145 fX10_70 rfl ?_
        rw [hb.2.2.1.2.1]
        refine ret _ _ 148 _ _ dX10_status_148 rfl ?_
        exact ⟨rfl, fin, Fr.rf _ g⟩
      · exact absurd c1 (by decide)
  · rw [if_neg c7]
    have i11 : (nI 11).toInt = 11 := rfl
    have i16 : (nI 16).toInt = 16 := rfl
    have i7 : (nI 7).toInt = 7 := rfl
    have i0 : (nI 0).toInt = 0 := rfl
    have out : ¬ insQ w (nI 11) (nI 16) = true → w.toInt < 0 ∨ 7 < w.toInt := by
      intro _
      rw [ins_out (by decide) (by decide), Int32.le_iff_toInt_le, Int32.le_iff_toInt_le, i0, i7] at c7
      omega
    by_cases c11 : insQ w (nI 11) (nI 16) = true
    · rw [if_pos c11]
      have hw := (ins_out (by decide) (by decide)).mp c11
      rw [Int32.le_iff_toInt_le, Int32.le_iff_toInt_le, i11, i16] at hw
      obtain ⟨j, hj, rfl⟩ : ∃ j, j < 6 ∧ w = nI (11 + j) := by
        refine ⟨w.toInt.toNat - 11, by omega, ?_⟩
        apply Int32.toInt_inj.mp
        rw [nI_toInt (by omega)]
        omega
      rw [ix_n (by omega)]
      refine ACi.of lcX10_status rfl rfl (fun X Q ad hR ret => ?_)
      refine AW_ls (ls' := [_, _]) rfl ?_
      refine a_iload_n (pc := 0) dX10_status_0 rfl ?_
      refine a_bipush (pc := 1) (nI 11) dX10_status_1 (by decide) ?_
      refine a_icmp_ltN (pc := 3) 22 dX10_status_3 (by decide) (by omega) (by omega) (fun c1 => ?_) (fun c1 => ?_)
      · exact absurd c1 (by omega)
      · refine a_iload_n (pc := 6) dX10_status_6 rfl ?_
        refine a_bipush (pc := 7) (nI 16) dX10_status_7 (by decide) ?_
        refine a_icmp_gtN (pc := 9) 22 dX10_status_9 (by decide) (by omega) (by omega) (fun c2 => ?_) (fun c2 => ?_)
        · exact absurd c2 (by omega)
        · refine a_aload_n (pc := 12) dX10_status_12 rfl ?_
          refine a_gr (pc := 13) dX10_status_13 fX10_63 rfl ?_
          refine a_iload_n (pc := 16) dX10_status_16 rfl ?_
          refine a_bipush (pc := 17) (nI 10) dX10_status_17 (by decide) ?_
          refine a_isub (pc := 19) dX10_status_19 ?_
          rw [pk_sub (by omega), show 11 + j - 10 = 1 + j by omega]
          refine a_ial (pc := 20) _ dX10_status_20 rfl rfl (by omega) ?_
          rw [hb.2.2.2.2.1 (1 + j) (by omega)]
          refine ret _ _ 21 _ _ dX10_status_21 rfl ?_
          exact ⟨by rw [show 11 + j - 10 = 1 + j by omega], fin, Fr.rf _ g⟩
    · rw [if_neg c11]
      have ho := out c11
      refine ACi.of lcX10_status rfl rfl (fun X Q ad hR ret => ?_)
      refine AW_ls (ls' := [_, _]) rfl ?_
      have low : AW mX10_status X Q ad 0 0 (conc (SS kd k r) g) 22 [some (.ref 0), some (.int w)] [] := by
        refine a_iload_n (pc := 22) dX10_status_22 rfl ?_
        refine a_tabOut (pc := 23) 149 dX10_status_23 ho (by decide) ?_
        refine a_bipush (pc := 149) (-9) dX10_status_149 (by decide) ?_
        refine ret _ _ 151 _ _ dX10_status_151 rfl ?_
        exact ⟨rfl, fin, Fr.rf _ g⟩
      refine a_iload_n (pc := 0) dX10_status_0 rfl ?_
      refine a_bipush (pc := 1) (nI 11) dX10_status_1 (by decide) ?_
      refine a_icmp_lt (pc := 3) 22 dX10_status_3 (by decide) (fun c1 => ?_) (fun c1 => ?_)
      · exact low
      · refine a_iload_n (pc := 6) dX10_status_6 rfl ?_
        refine a_bipush (pc := 7) (nI 16) dX10_status_7 (by decide) ?_
        refine a_icmp_gt (pc := 9) 22 dX10_status_9 (by decide) (fun c2 => ?_) (fun c2 => ?_)
        · exact low
        · exact absurd ((ins_out (by decide) (by decide)).mpr ⟨Int32.not_lt.mp c1, Int32.not_lt.mp c2⟩) c11
