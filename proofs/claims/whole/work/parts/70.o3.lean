/-! stores and scripts -/
def oStore (y : Sy) (k : Int32) : Int32 × Sy := if insQ k (nI 0) (nI 2) = true then (nI (fnN (ix k)), sK (sQ y (fmtQ (ix k), [])) k) else (-nI 2, bmp y 2)
def oTake (y : Sy) (L : List En) : Int32 × Sy := if (yq y).2.length + L.length ≤ 60 then (nI L.length, sW (sQ y ((yq y).1, (yq y).2 ++ L)) (wrA (yw y) L)) else (-nI 6, bmp y 6)
abbrev yst (y : Sy) : Nat := ix (yk y)
abbrev ysp (y : Sy) : Nat → Int32 := spB (yst y) (ys y (yst y))
def oPut (y : Sy) (key : Int32) (v : Int64) : Int32 × Sy := if yk y = -1 then (-nI 5, bmp y 5) else if insQ key (nI 0) (nI 2) = true then oTake y (chgQ (yq y) (yst y) (ysp y) (ix key) v none) else (-nI 1, bmp y 1)
def oMove (y : Sy) (k l : Int32) : Int32 × Sy := if yk y = -1 then (-nI 5, bmp y 5) else if twoK k l = true then oTake y (chgQ (yq y) (yst y) (ysp y) (ix l) (keyQ (yq y) (yst y) (ix k)) (some (ix k))) else (-nI 1, bmp y 1)
def oRise (y : Sy) : Int32 × Sy := if yk y = -1 then (-nI 5, bmp y 5) else if 0 < (yq y).2.length then (-nI 5, bmp y 5) else oTake y (risQ (yq y).1 (yst y) (ysp y))
def oSound (y : Sy) : Bool := if yk y = -1 then false else sndA (yst y) (rdQ (yq y) 3 0) (rdQ (yq y) 3 1) (verQ (yq y))
def oAdd (y : Sy) (a : Ac) : Int32 × Sy := if (yA y).length < 8 then (nI ((yA y).length + 1), sA y (yA y ++ [a])) else (-nI 6, bmp y 6)
def oAddPut (y : Sy) (k : Int32) (v : Int64) : Int32 × Sy := if insQ k (nI 0) (nI 2) = true then oAdd y (0, ix k, 0, v) else (-nI 1, bmp y 1)
def oAddMove (y : Sy) (k l : Int32) : Int32 × Sy := if twoK k l = true then oAdd y (1, ix k, ix l, 0) else (-nI 1, bmp y 1)
def oAddSure (y : Sy) : Int32 × Sy := oAdd y (2, 0, 0, 0)
def oClear (y : Sy) : Int32 × Sy := (nI (yA y).length, sA y [])
theorem kin_at {kd kp rp : Nat} : ∀ j, j < 3 → arAt (SS kd kp rp) 70 3 j = some (71 + j)
  | 0, _ => rfl
  | 1, _ => rfl
  | 2, _ => rfl
  | n + 3, h => absurd h (by omega)
theorem CIb.pl {k : Nat} {g g' : GH} {y : Sy} {n : Nat} {B : List Nat} (h : CIb k g y n) (hk : k = 64 ∨ k = 67) (f : Fr B g g') (hB : ∀ i ∈ B, 17 ≤ i ∧ i ≤ 20) : CIb k g' y n := by
  have hn : ∀ i, i < 17 ∨ 20 < i → i ∉ B := fun i hi hm => by have := hB i hm; omega
  obtain ⟨h1, h2, ⟨h3, h3', h3''⟩, h4, h5, h6, ⟨q2, h7⟩, h8⟩ := h
  refine ⟨h1.fr f (fun i hi => hn _ (by omega)), h2.fr f (hn _ (by omega)) (fun i hi => hn _ (by omega)), ⟨(f.f (hn _ (by omega)) _).trans h3, (f.f (hn _ (by omega)) _).trans h3', (f.f (hn _ (by omega)) _).trans h3''⟩, fun st hst => ?_, fun w hw => ?_, h6.fr f (hn _ (by omega)) (hn _ (by omega)) (hn _ (by omega)) (hn _ (by omega)) (hn _ (by omega)), ⟨q2, h7.fr f (hn _ (by omega)) (fun i hi => hn _ (by omega))⟩, h8.fr f (hn _ (by omega)) (hn _ (by omega)) (hn _ (by omega))⟩
  · rw [f.a (hn _ (by omega))]
    exact h4 st hst
  · rw [f.a (hn _ (by omega))]
    exact h5 w hw
theorem CIb.sk {k : Nat} {g : GH} {y : Sy} {n : Nat} (h : CIb k g y n) (hk : k = 64 ∨ k = 67) (x : Int32) : CIb k (pF g 0 8 x) (sK y x) n := by
  have f : Fr [0] g (pF g 0 8 x) := (Fr.rf _ g).sF (by decide) _ _
  obtain ⟨h1, h2, ⟨h3, h3', h3''⟩, h4, h5, h6, ⟨q', h7⟩, h8⟩ := h
  refine ⟨h1.fr f (by decide), h2.fr f (by decide) (by decide), ⟨by rw [gF_pF, if_pos ⟨rfl, rfl⟩], by rw [gF_pF, if_neg (by decide)]; exact h3', h3''⟩, h4, h5, h6.fr f (by decide) (by decide) (by decide) (by decide) (by decide), ⟨q', h7.fr f (by decide) (by decide)⟩, ?_⟩
  rcases hk with rfl | rfl
  · exact h8.fr f (by decide) (by decide) (by decide)
  · exact h8.fr f (by decide) (by decide) (by decide)
theorem CIb.sc {k : Nat} {g g' : GH} {y : Sy} {n : Nat} {A : List Ac} (h : CIb k g y n) (hk : k = 64 ∨ k = 67) (f : Fr [21, 22, 23, 24, 25] g g') (hA : CSc g' A) : CIb k g' (sA y A) (n + 1) := by
  obtain ⟨h1, h2, ⟨h3, h3', h3''⟩, h4, h5, h6, ⟨q', h7⟩, h8⟩ := h
  refine ⟨h1.fr f (by decide), (h2.fr f (by decide) (by decide)).up (by omega), ⟨(f.f (by decide) _).trans h3, (f.f (by decide) _).trans h3', (f.f (by decide) _).trans h3''⟩, fun st hst => ?_, fun w hw => ?_, hA, ⟨q', (h7.fr f (by decide) (by decide)).up (by omega)⟩, ?_⟩
  · rw [f.a (by decide)]
    exact h4 st hst
  · rw [f.a (by decide)]
    exact h5 w hw
  · rcases hk with rfl | rfl
    · exact h8.fr f (by decide) (by decide) (by decide)
    · exact h8.fr f (by decide) (by decide) (by decide)
theorem k_take {d0 kd k r : Nat} {g : GH} {y : Sy} {n : Nat} (hk : (k = 64 ∧ r = 67) ∨ (k = 67 ∧ r = 64)) (hb : CIb k g y n) (L : List En) (hP : PL 17 g L) (hLo : ∀ x ∈ L, okE x) (hLz : ∀ x ∈ L, okF x) : ACi mX10_carryOut (d0 + 3) (SS kd k r) g [.ref 0] (fun rr S' g' => rr = (oTake y L).1 ∧ CI S' g' (oTake y L).2 (n + 1) ∧ Fr clL g g') := by
  have hk' : k = 64 ∨ k = 67 := by omega
  obtain ⟨Ed, hEd, hs⟩ := hb.se
  have h11 := hP.2.1
  unfold oTake
  by_cases hf : (yq y).2.length + L.length ≤ 60
  · rw [if_pos hf]
    refine (c_carry1 (d0 := d0) (yq y) L Ed hb.1 hs hP hLo hLz hf).mono (fun rr S' g' => ?_)
    rintro ⟨rfl, h2, h3, h4, h5, h6⟩
    exact ⟨h2, ⟨kd, k, r, hk, rfl, hb.dq hk' h6 (by decide) h3 ⟨Ed + L.length, by omega, h4⟩ (by rw [h5, hb.2.2.1.2.2])⟩, h6.mono (by decide)⟩
  · rw [if_neg hf]
    refine (c_carry2 (d0 := d0) (yq y) L hb.1 hP (by omega)).mono (fun rr S' g' => ?_)
    rintro ⟨rfl, rfl, h3⟩
    exact ⟨h3, ⟨kd, k, r, hk, rfl, hb.ref hk' 6 (by decide)⟩, fr_ref _ _⟩
theorem hs_no {x : Int32} (h : x = -1) : insQ x (nI 0) (nI 2) = false := by rw [h]; decide
theorem hs_yes {x : Int32} {st : Nat} (hst : st < 3) (h : x = nI st) : insQ x (nI 0) (nI 2) = true := (insQ_ok (by decide)).mpr ⟨st, by omega, h⟩
theorem ys16 {y : Sy} (hy : Yok y) {st : Nat} (h : st < 3) : ys y st < 16 := by
  have h1 := hy.2.1 st h
  have h2 : 2 ^ fnN st ≤ 2 ^ 4 := Nat.pow_le_pow_right (by decide) (fnN_le st)
  omega
set_option maxHeartbeats 1000000 in
set_option maxRecDepth 100000 in
theorem k_store {d0 : Nat} {S : sH} {g : GH} {y : Sy} {n : Nat} (h : CI S g y n) (hn : n < 512) (x : Int32) : ACi mX10_store (d0 + 40) S g [.ref 0, .int x] (fun r S' g' => r = (oStore y x).1 ∧ CI S' g' (oStore y x).2 (n + 1) ∧ Fr clL g g') := by
  obtain ⟨kd, k, r, hk, rfl, hb⟩ := h
  have hk' : k = 64 ∨ k = 67 := by omega
  obtain ⟨Ed, hEd, hs⟩ := hb.se
  unfold oStore
  refine ACi.of lcX10_store rfl rfl (fun X Q ad hR ret => ?_)
  refine AW_ls (ls' := [_, _]) rfl ?_
  refine a_aload_n (pc := 0) dX10_store_0 rfl ?_
  refine a_iload_n (pc := 1) dX10_store_1 rfl ?_
  refine a_V1i (pc := 2) 9 dX10_store_2 lcX10_isKind lX10_149 rfl rfl rfl (fit_of hR (by omega) rfl) (c_isKind (d0 := d0) x) rfl rfl (ex_i ?_)
  refine a_if_neB (pc := 5) 15 dX10_store_5 (by decide) (fun c1 => ?_) (fun c1 => ?_)
  · rw [if_pos c1] at ret
    obtain ⟨st, hst, rfl⟩ := (insQ_ok (by decide)).mp c1
    rw [ix_n (by omega)] at ret
    refine a_aload_n (pc := 15) dX10_store_15 rfl ?_
    refine a_iload_n (pc := 16) dX10_store_16 rfl ?_
    refine a_pi (pc := 17) dX10_store_17 fX10_66 rfl ?_
    refine a_aload_n (pc := 20) dX10_store_20 rfl ?_
    refine a_gr (pc := 21) dX10_store_21 fX10_12 rfl ?_
    refine a_aload_n (pc := 24) dX10_store_24 rfl ?_
    refine a_gr (pc := 25) dX10_store_25 fX10_55 rfl ?_
    refine a_iload_n (pc := 28) dX10_store_28 rfl ?_
    refine a_aal (pc := 29) 3 st (Or.inl rfl) dX10_store_29 (kin_at st (by omega)) rfl ?_
    refine a_V1v (pc := 30) 0 dX10_store_30 lcX0_format lX10_152 rfl rfl rfl (fit_of hR (by omega) rfl) (c_dformat_1 (d0 := d0) st (by omega)) rfl rfl (fun S' g1 hS hp => ?_)
    obtain ⟨rfl, q1, w1, e1, f1⟩ := hp
    refine a_aload_n (pc := 33) dX10_store_33 rfl ?_
    refine a_gr (pc := 34) dX10_store_34 fX10_55 rfl ?_
    refine a_iload_n (pc := 37) dX10_store_37 rfl ?_
    refine a_aal (pc := 38) 3 st (Or.inl rfl) dX10_store_38 (kin_at st (by omega)) rfl ?_
    have f2 : Fr clL g g1 := (((Fr.rf clL g).sF (a := 0) (by decide) 8 (nI st))).tr (f1.mono (by decide))
    have hb1 : CIb k g1 (sK (sQ y (fmtQ st, [])) (nI st)) (n + 1) := (hb.sk hk' (nI st)).dq (w' := yw y) hk' f1 (by decide) q1 ⟨Ed + 1, by omega, hs.nx (by rw [e1]; exact congrArg (· + nI 1) hs.1 |>.trans (nI_add _ _)) (f1.a (by decide)) (f1.f (by decide) 13)⟩ (by rw [w1]; exact hb.2.2.1.2.2)
    have fin : CI (SS kd k r) g1 (sK (sQ y (fmtQ st, [])) (nI st)) (n + 1) := ⟨kd, k, r, hk, rfl, hb1⟩
    obtain rfl | rfl | rfl : st = 0 ∨ st = 1 ∨ st = 2 := by omega
    · refine a_U0i (pc := 39) 3 dX10_store_39 rfl lcX4_fences lX10_156_X4 rfl (fit_of hR (by omega) rfl) (c_fences0 (d0 := d0)) rfl rfl (ex_i ?_)
      refine ret _ _ 42 _ _ dX10_store_42 rfl ?_
      exact ⟨rfl, fin, f2⟩
    · refine a_U0i (pc := 39) 1 dX10_store_39 rfl lcX2_fences lX10_156_X2 rfl (fit_of hR (by omega) rfl) (c_fences1 (d0 := d0)) rfl rfl (ex_i ?_)
      refine ret _ _ 42 _ _ dX10_store_42 rfl ?_
      exact ⟨rfl, fin, f2⟩
    · refine a_U0i (pc := 39) 7 dX10_store_39 rfl lcX8_fences lX10_156_X8 rfl (fit_of hR (by omega) rfl) (c_fences2 (d0 := d0)) rfl rfl (ex_i ?_)
      refine ret _ _ 42 _ _ dX10_store_42 rfl ?_
      exact ⟨rfl, fin, f2⟩
  · rw [if_neg (by rw [c1]; decide)] at ret
    refine a_aload_n (pc := 8) dX10_store_8 rfl ?_
    refine a_bipush (pc := 9) (-2) dX10_store_9 (by decide) ?_
    refine a_V1i (pc := 11) 9 dX10_store_11 lcX10_refuse lX10_77 rfl rfl rfl (fit_of hR (by omega) rfl) (c_krefuse (d0 := d0) 2 (by decide) (by decide)) rfl rfl (ex_i ?_)
    refine ret _ _ 14 _ _ dX10_store_14 rfl ?_
    exact ⟨rfl, ⟨kd, k, r, hk, rfl, hb.ref hk' 2 (by decide)⟩, fr_ref _ _⟩
set_option maxHeartbeats 1000000 in
set_option maxRecDepth 100000 in
theorem k_put {d0 : Nat} {S : sH} {g : GH} {y : Sy} {n : Nat} (h : CI S g y n) (hy : Yok y) (hn : n < 512) (x : Int32) (v : Int64) : ACi mX10_put (d0 + 40) S g [.ref 0, .int x, .long v] (fun r S' g' => r = (oPut y x v).1 ∧ CI S' g' (oPut y x v).2 (n + 1) ∧ Fr clL g g') := by
  obtain ⟨kd, k, r, hk, rfl, hb⟩ := h
  have hk' : k = 64 ∨ k = 67 := by omega
  have e8 := hb.2.2.1.1
  unfold oPut
  refine ACi.of lcX10_put rfl rfl (fun X Q ad hR ret => ?_)
  refine AW_ls (ls' := [_, _, _, _]) rfl ?_
  refine a_aload_n (pc := 0) dX10_put_0 rfl ?_
  refine a_V0i (pc := 1) 9 dX10_put_1 lcX10_hasStore lX10_160 rfl rfl rfl (fit_of hR (by omega) rfl) (c_hasStore (d0 := d0)) rfl rfl (ex_i ?_)
  rw [e8]
  rcases hy.1 with z | ⟨st, hst, z⟩
  · rw [if_pos z] at ret
    rw [hs_no z]
    refine a_if_neB (pc := 4) 14 dX10_put_4 (by decide) (fun c1 => ?_) (fun c1 => ?_)
    · cases c1
    · refine a_aload_n (pc := 7) dX10_put_7 rfl ?_
      refine a_bipush (pc := 8) (-5) dX10_put_8 (by decide) ?_
      refine a_V1i (pc := 10) 9 dX10_put_10 lcX10_refuse lX10_77 rfl rfl rfl (fit_of hR (by omega) rfl) (c_krefuse (d0 := d0) 5 (by decide) (by decide)) rfl rfl (ex_i ?_)
      refine ret _ _ 13 _ _ dX10_put_13 rfl ?_
      exact ⟨rfl, ⟨kd, k, r, hk, rfl, hb.ref hk' 5 (by decide)⟩, fr_ref _ _⟩
  · have hst1 : yst y = st := by show ix (yk y) = st; rw [z, ix_n (by omega)]
    have hsp1 : ysp y = spB st (ys y st) := by show spB (yst y) (ys y (yst y)) = _; rw [hst1]
    rw [if_neg (by rw [z]; exact nI_m1 (by omega)), hst1, hsp1] at ret
    rw [hs_yes hst z]
    have hm := ys16 hy hst
    refine a_if_neB (pc := 4) 14 dX10_put_4 (by decide) (fun c1 => ?_) (fun c1 => ?_)
    · refine a_iload_n (pc := 14) dX10_put_14 rfl ?_
      refine a_S1i (pc := 15) dX10_put_15 lcX10_isKey lX10_164 (fit_of hR (by omega) rfl) (c_isKey (d0 := d0) x) rfl rfl (ex_i ?_)
      refine a_if_neB (pc := 18) 27 dX10_put_18 (by decide) (fun c2 => ?_) (fun c2 => ?_)
      · rw [if_pos c2] at ret
        obtain ⟨key, hkey, rfl⟩ := (insQ_ok (by decide)).mp c2
        rw [ix_n (by omega)] at ret
        refine a_aload_n (pc := 27) dX10_put_27 rfl ?_
        refine a_gr (pc := 28) dX10_put_28 fX10_26 rfl ?_
        refine a_aload_n (pc := 31) dX10_put_31 rfl ?_
        refine a_gr (pc := 32) dX10_put_32 fX10_59 rfl ?_
        refine a_aload_n (pc := 35) dX10_put_35 rfl ?_
        refine a_gi (pc := 36) dX10_put_36 fX10_66 rfl ?_
        rw [e8, z]
        refine a_ial (pc := 39) _ dX10_put_39 rfl rfl (by omega) ?_
        rw [hb.2.2.2.1 st hst]
        refine a_V1v (pc := 40) 4 dX10_put_40 lcX5_begin lX10_167 rfl rfl rfl (fit_of hR (by omega) rfl) (c_pbegin_17 (d0 := d0) (nI (ys y st))) rfl rfl (fun S' g1 hS hp => ?_)
        obtain ⟨rfl, hP0, e4, f1⟩ := hp
        refine a_aload_n (pc := 43) dX10_put_43 rfl ?_
        refine a_gr (pc := 44) dX10_put_44 fX10_55 rfl ?_
        refine a_aload_n (pc := 47) dX10_put_47 rfl ?_
        refine a_gi (pc := 48) dX10_put_48 fX10_66 rfl ?_
        rw [show gF g1 0 8 = nI st from (f1.f (by decide) 8).trans (e8.trans z)]
        refine a_aal (pc := 51) 3 st (Or.inl rfl) dX10_put_51 (kin_at st hst) rfl ?_
        refine a_aload_n (pc := 52) dX10_put_52 rfl ?_
        refine a_gr (pc := 53) dX10_put_53 fX10_12 rfl ?_
        refine a_gr (pc := 56) dX10_put_56 fX10_111 rfl ?_
        refine a_iload_n (pc := 59) dX10_put_59 rfl ?_
        refine a_lload_n (pc := 60) dX10_put_60 rfl ?_
        refine a_aload_n (pc := 61) dX10_put_61 rfl ?_
        refine a_gr (pc := 62) dX10_put_62 fX10_26 rfl ?_
        have hlz : ∀ l, (none : Option Nat) = some l → l < 3 := fun l e => by cases e
        have e3 : eq32 (gA g1 3) (flQ (yq y)) := fun p hp => by rw [f1.a (by decide)]; exact hb.1.2.2.1 p hp
        have hL := chgQ_now hb.1.ok e3 st (spB st (ys y st)) key v none
        have fin : ∀ g2 : GH, PL 17 g2 (chgQ (yq y) st (spB st (ys y st)) key v none) → Fr [17, 18, 19, 20] g g2 → AW mX10_put X Q ad 0 0 (conc (SS kd k r) g2) 68 [some (.ref 0), some (.int (nI key)), some (.long v), none] [] := by
          intro g2 hP2 f2
          refine a_aload_n (pc := 68) dX10_put_68 rfl ?_
          refine a_V0i (pc := 69) 9 dX10_put_69 lcX10_carryOut lX10_174 rfl rfl rfl (fit_of hR (by omega) rfl) (k_take (d0 := d0) hk (hb.pl hk' f2 (by decide)) _ hP2 (chg_ok (by omega) hlz) (chg_fz (by omega) hlz)) rfl rfl (fun rr S' g3 hS hp => ?_)
          obtain ⟨h1, h2, h3⟩ := hp
          refine ret _ _ 72 _ _ dX10_put_72 hS ?_
          exact ⟨h1, h2, (f2.mono (by decide)).tr h3⟩
        obtain rfl | rfl | rfl : st = 0 ∨ st = 1 ∨ st = 2 := by omega
        · refine a_U4v (pc := 65) 3 dX10_put_65 rfl lcX1_planPut lX10_170_X4 rfl (fit_of hR (by omega) rfl) (c_planPut_17 (d0 := d0) 0 (ys y 0) key v (by decide) (by omega) hm hP0 e4) rfl rfl (fun S' g2 hS hp => ?_)
          obtain ⟨rfl, hP2, f2⟩ := hp
          rw [hL] at hP2
          exact fin g2 hP2 (f1.tr f2)
        · refine a_U4v (pc := 65) 1 dX10_put_65 rfl lcX1_planPut lX10_170_X2 rfl (fit_of hR (by omega) rfl) (c_planPut_17 (d0 := d0) 1 (ys y 1) key v (by decide) (by omega) hm hP0 e4) rfl rfl (fun S' g2 hS hp => ?_)
          obtain ⟨rfl, hP2, f2⟩ := hp
          rw [hL] at hP2
          exact fin g2 hP2 (f1.tr f2)
        · refine a_U4v (pc := 65) 7 dX10_put_65 rfl lcX1_planPut lX10_170_X8 rfl (fit_of hR (by omega) rfl) (c_planPut_17 (d0 := d0) 2 (ys y 2) key v (by decide) (by omega) hm hP0 e4) rfl rfl (fun S' g2 hS hp => ?_)
          obtain ⟨rfl, hP2, f2⟩ := hp
          rw [hL] at hP2
          exact fin g2 hP2 (f1.tr f2)
      · rw [if_neg (by rw [c2]; decide)] at ret
        refine a_aload_n (pc := 21) dX10_put_21 rfl ?_
        refine a_iconst (pc := 22) (-1) dX10_put_22 (by decide) ?_
        refine a_V1i (pc := 23) 9 dX10_put_23 lcX10_refuse lX10_77 rfl rfl rfl (fit_of hR (by omega) rfl) (c_krefuse (d0 := d0) 1 (by decide) (by decide)) rfl rfl (ex_i ?_)
        refine ret _ _ 26 _ _ dX10_put_26 rfl ?_
        exact ⟨rfl, ⟨kd, k, r, hk, rfl, hb.ref hk' 1 (by decide)⟩, fr_ref _ _⟩
    · cases c1
set_option maxHeartbeats 1000000 in
set_option maxRecDepth 100000 in
theorem k_move {d0 : Nat} {S : sH} {g : GH} {y : Sy} {n : Nat} (h : CI S g y n) (hy : Yok y) (hn : n < 512) (x x' : Int32) : ACi mX10_move (d0 + 40) S g [.ref 0, .int x, .int x'] (fun r S' g' => r = (oMove y x x').1 ∧ CI S' g' (oMove y x x').2 (n + 1) ∧ Fr clL g g') := by
  obtain ⟨kd, k, r, hk, rfl, hb⟩ := h
  have hk' : k = 64 ∨ k = 67 := by omega
  have e8 := hb.2.2.1.1
  unfold oMove
  refine ACi.of lcX10_move rfl rfl (fun X Q ad hR ret => ?_)
  refine AW_ls (ls' := [_, _, _]) rfl ?_
  refine a_aload_n (pc := 0) dX10_move_0 rfl ?_
  refine a_V0i (pc := 1) 9 dX10_move_1 lcX10_hasStore lX10_160 rfl rfl rfl (fit_of hR (by omega) rfl) (c_hasStore (d0 := d0)) rfl rfl (ex_i ?_)
  rw [e8]
  rcases hy.1 with z | ⟨st, hst, z⟩
  · rw [if_pos z] at ret
    rw [hs_no z]
    refine a_if_neB (pc := 4) 14 dX10_move_4 (by decide) (fun c1 => ?_) (fun c1 => ?_)
    · cases c1
    · refine a_aload_n (pc := 7) dX10_move_7 rfl ?_
      refine a_bipush (pc := 8) (-5) dX10_move_8 (by decide) ?_
      refine a_V1i (pc := 10) 9 dX10_move_10 lcX10_refuse lX10_77 rfl rfl rfl (fit_of hR (by omega) rfl) (c_krefuse (d0 := d0) 5 (by decide) (by decide)) rfl rfl (ex_i ?_)
      refine ret _ _ 13 _ _ dX10_move_13 rfl ?_
      exact ⟨rfl, ⟨kd, k, r, hk, rfl, hb.ref hk' 5 (by decide)⟩, fr_ref _ _⟩
  · have hst1 : yst y = st := by show ix (yk y) = st; rw [z, ix_n (by omega)]
    have hsp1 : ysp y = spB st (ys y st) := by show spB (yst y) (ys y (yst y)) = _; rw [hst1]
    rw [if_neg (by rw [z]; exact nI_m1 (by omega)), hst1, hsp1] at ret
    rw [hs_yes hst z]
    have hm := ys16 hy hst
    refine a_if_neB (pc := 4) 14 dX10_move_4 (by decide) (fun c1 => ?_) (fun c1 => ?_)
    · refine a_iload_n (pc := 14) dX10_move_14 rfl ?_
      refine a_iload_n (pc := 15) dX10_move_15 rfl ?_
      refine a_S2i (pc := 16) dX10_move_16 lcX10_areTwoKeys lX10_177 (fit_of hR (by omega) rfl) (c_twoKeys (d0 := d0) x x') rfl rfl (ex_i ?_)
      refine a_if_neB (pc := 19) 28 dX10_move_19 (by decide) (fun c2 => ?_) (fun c2 => ?_)
      · rw [if_pos c2] at ret
        obtain ⟨t1, t2, t3⟩ := twoK_ok c2
        obtain ⟨key, hkey, rfl⟩ := (insQ_ok (by decide)).mp t1
        obtain ⟨l, hl, rfl⟩ := (insQ_ok (by decide)).mp t2
        rw [ix_n (by omega), ix_n (by omega)] at ret
        refine a_aload_n (pc := 28) dX10_move_28 rfl ?_
        refine a_gr (pc := 29) dX10_move_29 fX10_26 rfl ?_
        refine a_aload_n (pc := 32) dX10_move_32 rfl ?_
        refine a_gr (pc := 33) dX10_move_33 fX10_59 rfl ?_
        refine a_aload_n (pc := 36) dX10_move_36 rfl ?_
        refine a_gi (pc := 37) dX10_move_37 fX10_66 rfl ?_
        rw [e8, z]
        refine a_ial (pc := 40) _ dX10_move_40 rfl rfl (by omega) ?_
        rw [hb.2.2.2.1 st hst]
        refine a_V1v (pc := 41) 4 dX10_move_41 lcX5_begin lX10_167 rfl rfl rfl (fit_of hR (by omega) rfl) (c_pbegin_17 (d0 := d0) (nI (ys y st))) rfl rfl (fun S' g1 hS hp => ?_)
        obtain ⟨rfl, hP0, e4, f1⟩ := hp
        refine a_aload_n (pc := 44) dX10_move_44 rfl ?_
        refine a_gr (pc := 45) dX10_move_45 fX10_55 rfl ?_
        refine a_aload_n (pc := 48) dX10_move_48 rfl ?_
        refine a_gi (pc := 49) dX10_move_49 fX10_66 rfl ?_
        rw [show gF g1 0 8 = nI st from (f1.f (by decide) 8).trans (e8.trans z)]
        refine a_aal (pc := 52) 3 st (Or.inl rfl) dX10_move_52 (kin_at st hst) rfl ?_
        refine a_aload_n (pc := 53) dX10_move_53 rfl ?_
        refine a_gr (pc := 54) dX10_move_54 fX10_12 rfl ?_
        refine a_gr (pc := 57) dX10_move_57 fX10_111 rfl ?_
        refine a_iload_n (pc := 60) dX10_move_60 rfl ?_
        refine a_iload_n (pc := 61) dX10_move_61 rfl ?_
        refine a_aload_n (pc := 62) dX10_move_62 rfl ?_
        refine a_gr (pc := 63) dX10_move_63 fX10_26 rfl ?_
        have hlz : ∀ l, some key = some l → l < 3 := fun l e => by cases e; omega
        have e3 : eq32 (gA g1 3) (flQ (yq y)) := fun p hp => by rw [f1.a (by decide)]; exact hb.1.2.2.1 p hp
        have hL : chgQ (gA g1 3, []) st (spB st (ys y st)) l (keyQ (gA g1 3, []) st key) (some key) = chgQ (yq y) st (spB st (ys y st)) l (keyQ (yq y) st key) (some key) := by rw [chgQ_now hb.1.ok e3, keyQ_now hb.1.ok e3 st (by omega)]
        have fin : ∀ g2 : GH, PL 17 g2 (chgQ (yq y) st (spB st (ys y st)) l (keyQ (yq y) st key) (some key)) → Fr [17, 18, 19, 20] g g2 → AW mX10_move X Q ad 0 0 (conc (SS kd k r) g2) 69 [some (.ref 0), some (.int (nI key)), some (.int (nI l))] [] := by
          intro g2 hP2 f2
          refine a_aload_n (pc := 69) dX10_move_69 rfl ?_
          refine a_V0i (pc := 70) 9 dX10_move_70 lcX10_carryOut lX10_174 rfl rfl rfl (fit_of hR (by omega) rfl) (k_take (d0 := d0) hk (hb.pl hk' f2 (by decide)) _ hP2 (chg_ok (by omega) hlz) (chg_fz (by omega) hlz)) rfl rfl (fun rr S' g3 hS hp => ?_)
          obtain ⟨h1, h2, h3⟩ := hp
          refine ret _ _ 73 _ _ dX10_move_73 hS ?_
          exact ⟨h1, h2, (f2.mono (by decide)).tr h3⟩
        obtain rfl | rfl | rfl : st = 0 ∨ st = 1 ∨ st = 2 := by omega
        · refine a_U4v (pc := 66) 3 dX10_move_66 rfl lcX1_planMove lX10_180_X4 rfl (fit_of hR (by omega) rfl) (c_planMove_17 (d0 := d0) 0 (ys y 0) key l (by decide) (by omega) (by omega) hm hP0 e4) rfl rfl (fun S' g2 hS hp => ?_)
          obtain ⟨rfl, hP2, f2⟩ := hp
          rw [hL] at hP2
          exact fin g2 hP2 (f1.tr f2)
        · refine a_U4v (pc := 66) 1 dX10_move_66 rfl lcX1_planMove lX10_180_X2 rfl (fit_of hR (by omega) rfl) (c_planMove_17 (d0 := d0) 1 (ys y 1) key l (by decide) (by omega) (by omega) hm hP0 e4) rfl rfl (fun S' g2 hS hp => ?_)
          obtain ⟨rfl, hP2, f2⟩ := hp
          rw [hL] at hP2
          exact fin g2 hP2 (f1.tr f2)
        · refine a_U4v (pc := 66) 7 dX10_move_66 rfl lcX1_planMove lX10_180_X8 rfl (fit_of hR (by omega) rfl) (c_planMove_17 (d0 := d0) 2 (ys y 2) key l (by decide) (by omega) (by omega) hm hP0 e4) rfl rfl (fun S' g2 hS hp => ?_)
          obtain ⟨rfl, hP2, f2⟩ := hp
          rw [hL] at hP2
          exact fin g2 hP2 (f1.tr f2)
      · rw [if_neg (by rw [c2]; decide)] at ret
        refine a_aload_n (pc := 22) dX10_move_22 rfl ?_
        refine a_iconst (pc := 23) (-1) dX10_move_23 (by decide) ?_
        refine a_V1i (pc := 24) 9 dX10_move_24 lcX10_refuse lX10_77 rfl rfl rfl (fit_of hR (by omega) rfl) (c_krefuse (d0 := d0) 1 (by decide) (by decide)) rfl rfl (ex_i ?_)
        refine ret _ _ 27 _ _ dX10_move_27 rfl ?_
        exact ⟨rfl, ⟨kd, k, r, hk, rfl, hb.ref hk' 1 (by decide)⟩, fr_ref _ _⟩
    · cases c1
set_option maxHeartbeats 1000000 in
set_option maxRecDepth 100000 in
theorem k_rise {d0 : Nat} {S : sH} {g : GH} {y : Sy} {n : Nat} (h : CI S g y n) (hy : Yok y) (hn : n < 512) : ACi mX10_rise (d0 + 40) S g [.ref 0] (fun r S' g' => r = (oRise y).1 ∧ CI S' g' (oRise y).2 (n + 1) ∧ Fr clL g g') := by
  obtain ⟨kd, k, r, hk, rfl, hb⟩ := h
  have hk' : k = 64 ∨ k = 67 := by omega
  have e8 := hb.2.2.1.1
  have h60 := hb.1.1.2.1
  unfold oRise
  refine ACi.of lcX10_rise rfl rfl (fun X Q ad hR ret => ?_)
  refine AW_ls (ls' := [_]) rfl ?_
  refine a_aload_n (pc := 0) dX10_rise_0 rfl ?_
  refine a_V0i (pc := 1) 9 dX10_rise_1 lcX10_hasStore lX10_160 rfl rfl rfl (fit_of hR (by omega) rfl) (c_hasStore (d0 := d0)) rfl rfl (ex_i ?_)
  rw [e8]
  rcases hy.1 with z | ⟨st, hst, z⟩
  · rw [if_pos z] at ret
    rw [hs_no z]
    refine a_if_eqB (pc := 4) 17 dX10_rise_4 (by decide) (fun c1 => ?_) (fun c1 => ?_)
    · refine a_aload_n (pc := 17) dX10_rise_17 rfl ?_
      refine a_bipush (pc := 18) (-5) dX10_rise_18 (by decide) ?_
      refine a_V1i (pc := 20) 9 dX10_rise_20 lcX10_refuse lX10_77 rfl rfl rfl (fit_of hR (by omega) rfl) (c_krefuse (d0 := d0) 5 (by decide) (by decide)) rfl rfl (ex_i ?_)
      refine ret _ _ 23 _ _ dX10_rise_23 rfl ?_
      exact ⟨rfl, ⟨kd, k, r, hk, rfl, hb.ref hk' 5 (by decide)⟩, fr_ref _ _⟩
    · cases c1
  · have hst1 : yst y = st := by show ix (yk y) = st; rw [z, ix_n (by omega)]
    have hsp1 : ysp y = spB st (ys y st) := by show spB (yst y) (ys y (yst y)) = _; rw [hst1]
    rw [if_neg (by rw [z]; exact nI_m1 (by omega)), hst1, hsp1] at ret
    rw [hs_yes hst z]
    have hm := ys16 hy hst
    refine a_if_eqB (pc := 4) 17 dX10_rise_4 (by decide) (fun c1 => ?_) (fun c1 => ?_)
    · cases c1
    · refine a_aload_n (pc := 7) dX10_rise_7 rfl ?_
      refine a_gr (pc := 8) dX10_rise_8 fX10_12 rfl ?_
      refine a_gi (pc := 11) dX10_rise_11 fX10_88 rfl ?_
      rw [hb.1.1.1]
      refine a_if_leN (pc := 14) 24 dX10_rise_14 (by decide) (by omega) (fun c2 => ?_) (fun c2 => ?_)
      · rw [if_neg (by omega)] at ret
        have hnil : (yq y).2 = [] := List.eq_nil_of_length_eq_zero (by omega)
        have hq0 : flQ (yq y) = (yq y).1 := by
          rw [show yq y = ((yq y).1, []) from Prod.ext rfl hnil]
          rfl
        refine a_aload_n (pc := 24) dX10_rise_24 rfl ?_
        refine a_gr (pc := 25) dX10_rise_25 fX10_26 rfl ?_
        refine a_aload_n (pc := 28) dX10_rise_28 rfl ?_
        refine a_gr (pc := 29) dX10_rise_29 fX10_59 rfl ?_
        refine a_aload_n (pc := 32) dX10_rise_32 rfl ?_
        refine a_gi (pc := 33) dX10_rise_33 fX10_66 rfl ?_
        rw [e8, z]
        refine a_ial (pc := 36) _ dX10_rise_36 rfl rfl (by omega) ?_
        rw [hb.2.2.2.1 st hst]
        refine a_V1v (pc := 37) 4 dX10_rise_37 lcX5_begin lX10_167 rfl rfl rfl (fit_of hR (by omega) rfl) (c_pbegin_17 (d0 := d0) (nI (ys y st))) rfl rfl (fun S' g1 hS hp => ?_)
        obtain ⟨rfl, hP0, e4, f1⟩ := hp
        refine a_aload_n (pc := 40) dX10_rise_40 rfl ?_
        refine a_gr (pc := 41) dX10_rise_41 fX10_55 rfl ?_
        refine a_aload_n (pc := 44) dX10_rise_44 rfl ?_
        refine a_gi (pc := 45) dX10_rise_45 fX10_66 rfl ?_
        rw [show gF g1 0 8 = nI st from (f1.f (by decide) 8).trans (e8.trans z)]
        refine a_aal (pc := 48) 3 st (Or.inl rfl) dX10_rise_48 (kin_at st hst) rfl ?_
        refine a_aload_n (pc := 49) dX10_rise_49 rfl ?_
        refine a_gr (pc := 50) dX10_rise_50 fX10_12 rfl ?_
        refine a_gr (pc := 53) dX10_rise_53 fX10_111 rfl ?_
        refine a_aload_n (pc := 56) dX10_rise_56 rfl ?_
        refine a_gr (pc := 57) dX10_rise_57 fX10_26 rfl ?_
        have e3 : eq32 (gA g1 3) (yq y).1 := fun p hp => by
          rw [f1.a (by decide), ← hq0]
          exact hb.1.2.2.1 p hp
        have hL := risQ_congr e3 st (spB st (ys y st))
        have fin : ∀ g2 : GH, PL 17 g2 (risQ (yq y).1 st (spB st (ys y st))) → Fr [17, 18, 19, 20] g g2 → AW mX10_rise X Q ad 0 0 (conc (SS kd k r) g2) 63 [some (.ref 0)] [] := by
          intro g2 hP2 f2
          refine a_aload_n (pc := 63) dX10_rise_63 rfl ?_
          refine a_V0i (pc := 64) 9 dX10_rise_64 lcX10_carryOut lX10_174 rfl rfl rfl (fit_of hR (by omega) rfl) (k_take (d0 := d0) hk (hb.pl hk' f2 (by decide)) _ hP2 (ris_ok _ _ _ _ _ _ _ _ _ _) (ris_fz _ _ _ _ _ _ _ _ _ _)) rfl rfl (fun rr S' g3 hS hp => ?_)
          obtain ⟨h1, h2, h3⟩ := hp
          refine ret _ _ 67 _ _ dX10_rise_67 hS ?_
          exact ⟨h1, h2, (f2.mono (by decide)).tr h3⟩
        obtain rfl | rfl | rfl : st = 0 ∨ st = 1 ∨ st = 2 := by omega
        · refine a_U2v (pc := 60) 3 dX10_rise_60 rfl lcX1_planRising lX10_195_X4 rfl (fit_of hR (by omega) rfl) (c_prisN (d0 := d0) 71 3 17) rfl rfl (ex_v ?_)
          exact fin g1 hP0 f1
        · refine a_U2v (pc := 60) 1 dX10_rise_60 rfl lcX2_planRising lX10_195_X2 rfl (fit_of hR (by omega) rfl) (c_pris1_17 (d0 := d0) (ys y 1) hm hP0 e4) rfl rfl (fun S' g2 hS hp => ?_)
          obtain ⟨rfl, hP2, f2⟩ := hp
          rw [hL] at hP2
          exact fin g2 hP2 (f1.tr f2)
        · refine a_U2v (pc := 60) 7 dX10_rise_60 rfl lcX1_planRising lX10_195_X8 rfl (fit_of hR (by omega) rfl) (c_prisN (d0 := d0) 73 3 17) rfl rfl (ex_v ?_)
          exact fin g1 hP0 f1
      · rw [if_pos c2] at ret
        refine a_aload_n (pc := 17) dX10_rise_17 rfl ?_
        refine a_bipush (pc := 18) (-5) dX10_rise_18 (by decide) ?_
        refine a_V1i (pc := 20) 9 dX10_rise_20 lcX10_refuse lX10_77 rfl rfl rfl (fit_of hR (by omega) rfl) (c_krefuse (d0 := d0) 5 (by decide) (by decide)) rfl rfl (ex_i ?_)
        refine ret _ _ 23 _ _ dX10_rise_23 rfl ?_
        exact ⟨rfl, ⟨kd, k, r, hk, rfl, hb.ref hk' 5 (by decide)⟩, fr_ref _ _⟩
set_option maxHeartbeats 1000000 in
set_option maxRecDepth 100000 in
theorem k_addAct {d0 kd k r : Nat} {g : GH} {y : Sy} {n : Nat} (hk : (k = 64 ∧ r = 67) ∨ (k = 67 ∧ r = 64)) (hb : CIb k g y n) (a : Ac) (w x x' : Int32) (v : Int64) (ha : okA a) (hw : w = nI a.1) (h0 : a.1 = 0 → x = nI a.2.1 ∧ v = a.2.2.2) (h1 : a.1 = 1 → x = nI a.2.1 ∧ x' = nI a.2.2.1) : ACi mX10_addAct (d0 + 1) (SS kd k r) g [.ref 0, .int w, .int x, .int x', .long v] (fun rr S' g' => rr = (oAdd y a).1 ∧ CI S' g' (oAdd y a).2 (n + 1) ∧ Fr clL g g') := by
  have hk' : k = 64 ∨ k = 67 := by omega
  have hA := hb.2.2.2.2.2.1
  have h8 := hA.2.1
  unfold oAdd
  refine ACi.of lcX10_addAct rfl rfl (fun X Q ad hR ret => ?_)
  refine AW_ls (ls' := [_, _, _, _, _, _]) rfl ?_
  refine a_aload_n (pc := 0) dX10_addAct_0 rfl ?_
  refine a_gr (pc := 1) dX10_addAct_1 fX10_33 rfl ?_
  refine a_gi (pc := 4) dX10_addAct_4 fX10_207 rfl ?_
  rw [hA.1]
  refine a_bipush (pc := 7) (nI 8) dX10_addAct_7 (by decide) ?_
  refine a_icmp_ltN (pc := 9) 19 dX10_addAct_9 (by decide) (by omega) (by omega) (fun c1 => ?_) (fun c1 => ?_)
  · rw [if_pos c1] at ret
    refine a_aload_n (pc := 19) dX10_addAct_19 rfl ?_
    refine a_gr (pc := 20) dX10_addAct_20 fX10_33 rfl ?_
    refine a_iload_n (pc := 23) dX10_addAct_23 rfl ?_
    refine a_iload_n (pc := 24) dX10_addAct_24 rfl ?_
    refine a_iload_n (pc := 25) dX10_addAct_25 rfl ?_
    refine a_lload (pc := 26) dX10_addAct_26 rfl ?_
    refine a_V4v (pc := 28) 6 dX10_addAct_28 lcX7_append lX10_252 rfl rfl rfl (fit_of hR (by omega) rfl) (c_append (d0 := d0) (yA y) a w x x' v hA c1 ha hw h0 h1) rfl rfl (fun S' g1 hS hp => ?_)
    obtain ⟨rfl, hA1, f1⟩ := hp
    refine a_aload_n (pc := 31) dX10_addAct_31 rfl ?_
    refine a_gr (pc := 32) dX10_addAct_32 fX10_33 rfl ?_
    refine a_gi (pc := 35) dX10_addAct_35 fX10_207 rfl ?_
    rw [hA1.1]
    refine ret _ _ 38 _ _ dX10_addAct_38 rfl ?_
    exact ⟨by rw [List.length_append, List.length_singleton], ⟨kd, k, r, hk, rfl, hb.sc hk' f1 hA1⟩, f1.mono (by decide)⟩
  · rw [if_neg (by omega)] at ret
    refine a_aload_n (pc := 12) dX10_addAct_12 rfl ?_
    refine a_bipush (pc := 13) (-6) dX10_addAct_13 (by decide) ?_
    refine a_V1i (pc := 15) 9 dX10_addAct_15 lcX10_refuse lX10_77 rfl rfl rfl (fit_of hR (by omega) rfl) (c_krefuse (d0 := d0) 6 (by decide) (by decide)) rfl rfl (ex_i ?_)
    refine ret _ _ 18 _ _ dX10_addAct_18 rfl ?_
    exact ⟨rfl, ⟨kd, k, r, hk, rfl, hb.ref hk' 6 (by decide)⟩, fr_ref _ _⟩
set_option maxHeartbeats 1000000 in
set_option maxRecDepth 100000 in
theorem k_addPut {d0 : Nat} {S : sH} {g : GH} {y : Sy} {n : Nat} (h : CI S g y n) (hn : n < 512) (x : Int32) (v : Int64) : ACi mX10_addPut (d0 + 40) S g [.ref 0, .int x, .long v] (fun r S' g' => r = (oAddPut y x v).1 ∧ CI S' g' (oAddPut y x v).2 (n + 1) ∧ Fr clL g g') := by
  obtain ⟨kd, k, r, hk, rfl, hb⟩ := h
  have hk' : k = 64 ∨ k = 67 := by omega
  unfold oAddPut
  refine ACi.of lcX10_addPut rfl rfl (fun X Q ad hR ret => ?_)
  refine AW_ls (ls' := [_, _, _, _]) rfl ?_
  refine a_iload_n (pc := 0) dX10_addPut_0 rfl ?_
  refine a_S1i (pc := 1) dX10_addPut_1 lcX10_isKey lX10_164 (fit_of hR (by omega) rfl) (c_isKey (d0 := d0) x) rfl rfl (ex_i ?_)
  refine a_if_neB (pc := 4) 13 dX10_addPut_4 (by decide) (fun c2 => ?_) (fun c2 => ?_)
  · rw [if_pos c2] at ret
    obtain ⟨key, hkey, rfl⟩ := (insQ_ok (by decide)).mp c2
    rw [ix_n (by omega)] at ret
    refine a_aload_n (pc := 13) dX10_addPut_13 rfl ?_
    refine a_iconst (pc := 14) (nI 0) dX10_addPut_14 (by decide) ?_
    refine a_iload_n (pc := 15) dX10_addPut_15 rfl ?_
    refine a_iconst (pc := 16) (-1) dX10_addPut_16 (by decide) ?_
    refine a_lload_n (pc := 17) dX10_addPut_17 rfl ?_
    refine a_V4i (pc := 18) 9 dX10_addPut_18 lcX10_addAct lX10_203 rfl rfl rfl (fit_of hR (by omega) rfl) (k_addAct (d0 := d0) hk hb (0, key, 0, v) (nI 0) (nI key) (-1) v ⟨(by decide : 0 < 3), fun _ => by show key < 3; omega, fun z => by cases z⟩ rfl (fun _ => ⟨rfl, rfl⟩) (fun z => by cases z)) rfl rfl (fun rr S' g1 hS hp => ?_)
    refine ret _ _ 21 _ _ dX10_addPut_21 hS ?_
    exact hp
  · rw [if_neg (by rw [c2]; decide)] at ret
    refine a_aload_n (pc := 7) dX10_addPut_7 rfl ?_
    refine a_iconst (pc := 8) (-1) dX10_addPut_8 (by decide) ?_
    refine a_V1i (pc := 9) 9 dX10_addPut_9 lcX10_refuse lX10_77 rfl rfl rfl (fit_of hR (by omega) rfl) (c_krefuse (d0 := d0) 1 (by decide) (by decide)) rfl rfl (ex_i ?_)
    refine ret _ _ 12 _ _ dX10_addPut_12 rfl ?_
    exact ⟨rfl, ⟨kd, k, r, hk, rfl, hb.ref hk' 1 (by decide)⟩, fr_ref _ _⟩
set_option maxHeartbeats 1000000 in
set_option maxRecDepth 100000 in
theorem k_addMove {d0 : Nat} {S : sH} {g : GH} {y : Sy} {n : Nat} (h : CI S g y n) (hn : n < 512) (x x' : Int32) : ACi mX10_addMove (d0 + 40) S g [.ref 0, .int x, .int x'] (fun r S' g' => r = (oAddMove y x x').1 ∧ CI S' g' (oAddMove y x x').2 (n + 1) ∧ Fr clL g g') := by
  obtain ⟨kd, k, r, hk, rfl, hb⟩ := h
  have hk' : k = 64 ∨ k = 67 := by omega
  unfold oAddMove
  refine ACi.of lcX10_addMove rfl rfl (fun X Q ad hR ret => ?_)
  refine AW_ls (ls' := [_, _, _]) rfl ?_
  refine a_iload_n (pc := 0) dX10_addMove_0 rfl ?_
  refine a_iload_n (pc := 1) dX10_addMove_1 rfl ?_
  refine a_S2i (pc := 2) dX10_addMove_2 lcX10_areTwoKeys lX10_177 (fit_of hR (by omega) rfl) (c_twoKeys (d0 := d0) x x') rfl rfl (ex_i ?_)
  refine a_if_neB (pc := 5) 14 dX10_addMove_5 (by decide) (fun c2 => ?_) (fun c2 => ?_)
  · rw [if_pos c2] at ret
    obtain ⟨t1, t2, t3⟩ := twoK_ok c2
    obtain ⟨key, hkey, rfl⟩ := (insQ_ok (by decide)).mp t1
    obtain ⟨l, hl, rfl⟩ := (insQ_ok (by decide)).mp t2
    rw [ix_n (by omega), ix_n (by omega)] at ret
    refine a_aload_n (pc := 14) dX10_addMove_14 rfl ?_
    refine a_iconst (pc := 15) (nI 1) dX10_addMove_15 (by decide) ?_
    refine a_iload_n (pc := 16) dX10_addMove_16 rfl ?_
    refine a_iload_n (pc := 17) dX10_addMove_17 rfl ?_
    refine a_lconst (pc := 18) 0 dX10_addMove_18 (by decide) ?_
    refine a_V4i (pc := 19) 9 dX10_addMove_19 lcX10_addAct lX10_203 rfl rfl rfl (fit_of hR (by omega) rfl) (k_addAct (d0 := d0) hk hb (1, key, l, 0) (nI 1) (nI key) (nI l) 0 ⟨(by decide : 1 < 3), (fun z => by cases z), fun _ => ⟨by show key < 3; omega, by show l < 3; omega, fun z => t3 (by show nI key = nI l; rw [show key = l from z])⟩⟩ rfl (fun z => by cases z) (fun _ => ⟨rfl, rfl⟩)) rfl rfl (fun rr S' g1 hS hp => ?_)
    refine ret _ _ 22 _ _ dX10_addMove_22 hS ?_
    exact hp
  · rw [if_neg (by rw [c2]; decide)] at ret
    refine a_aload_n (pc := 8) dX10_addMove_8 rfl ?_
    refine a_iconst (pc := 9) (-1) dX10_addMove_9 (by decide) ?_
    refine a_V1i (pc := 10) 9 dX10_addMove_10 lcX10_refuse lX10_77 rfl rfl rfl (fit_of hR (by omega) rfl) (c_krefuse (d0 := d0) 1 (by decide) (by decide)) rfl rfl (ex_i ?_)
    refine ret _ _ 13 _ _ dX10_addMove_13 rfl ?_
    exact ⟨rfl, ⟨kd, k, r, hk, rfl, hb.ref hk' 1 (by decide)⟩, fr_ref _ _⟩
set_option maxHeartbeats 1000000 in
set_option maxRecDepth 100000 in
theorem k_addSure {d0 : Nat} {S : sH} {g : GH} {y : Sy} {n : Nat} (h : CI S g y n) (hn : n < 512) : ACi mX10_addSure (d0 + 40) S g [.ref 0] (fun r S' g' => r = (oAddSure y).1 ∧ CI S' g' (oAddSure y).2 (n + 1) ∧ Fr clL g g') := by
  obtain ⟨kd, k, r, hk, rfl, hb⟩ := h
  refine ACi.of lcX10_addSure rfl rfl (fun X Q ad hR ret => ?_)
  refine AW_ls (ls' := [_]) rfl ?_
  refine a_aload_n (pc := 0) dX10_addSure_0 rfl ?_
  refine a_iconst (pc := 1) (nI 2) dX10_addSure_1 (by decide) ?_
  refine a_iconst (pc := 2) (-1) dX10_addSure_2 (by decide) ?_
  refine a_iconst (pc := 3) (-1) dX10_addSure_3 (by decide) ?_
  refine a_lconst (pc := 4) 0 dX10_addSure_4 (by decide) ?_
  refine a_V4i (pc := 5) 9 dX10_addSure_5 lcX10_addAct lX10_203 rfl rfl rfl (fit_of hR (by omega) rfl) (k_addAct (d0 := d0) hk hb (2, 0, 0, 0) (nI 2) (-1) (-1) 0 ⟨by decide, (fun z => by cases z), (fun z => by cases z)⟩ rfl (fun z => by cases z) (fun z => by cases z)) rfl rfl (fun rr S' g1 hS hp => ?_)
  refine ret _ _ 8 _ _ dX10_addSure_8 hS ?_
  exact hp
set_option maxHeartbeats 1000000 in
set_option maxRecDepth 100000 in
theorem k_clear {d0 : Nat} {S : sH} {g : GH} {y : Sy} {n : Nat} (h : CI S g y n) (hn : n < 512) : ACi mX10_clear (d0 + 40) S g [.ref 0] (fun r S' g' => r = (oClear y).1 ∧ CI S' g' (oClear y).2 (n + 1) ∧ Fr clL g g') := by
  obtain ⟨kd, k, r, hk, rfl, hb⟩ := h
  have hk' : k = 64 ∨ k = 67 := by omega
  refine ACi.of lcX10_clear rfl rfl (fun X Q ad hR ret => ?_)
  refine AW_ls (ls' := [_, _]) rfl ?_
  refine a_aload_n (pc := 0) dX10_clear_0 rfl ?_
  refine a_gr (pc := 1) dX10_clear_1 fX10_33 rfl ?_
  refine a_gi (pc := 4) dX10_clear_4 fX10_207 rfl ?_
  rw [hb.2.2.2.2.2.1.1]
  refine a_istore_n (pc := 7) (ls' := [_, _]) dX10_clear_7 (Nat.le_of_ble_eq_true rfl) rfl ?_
  refine a_aload_n (pc := 8) dX10_clear_8 rfl ?_
  refine a_gr (pc := 9) dX10_clear_9 fX10_33 rfl ?_
  refine a_iconst (pc := 12) (nI 0) dX10_clear_12 (by decide) ?_
  refine a_pi (pc := 13) dX10_clear_13 fX10_207 rfl ?_
  refine a_iload_n (pc := 16) dX10_clear_16 rfl ?_
  refine ret _ _ 17 _ _ dX10_clear_17 rfl ?_
  refine ⟨rfl, ⟨kd, k, r, hk, rfl, hb.sc hk' ((Fr.rf _ g).sF (by decide) _ _) ⟨?_, by simp, fun n a ha => by cases ha⟩⟩, (Fr.rf _ g).sF (by decide) _ _⟩
  simp only [gF_pF, gF_pA, gF_pL, gA_pF, gA_pA, gA_pL, gL_pF, gL_pA, gL_pL, reduceIte, Nat.reduceEqDiff, and_false, false_and, and_true, true_and, and_self]
  rfl
set_option maxHeartbeats 1000000 in
set_option maxRecDepth 100000 in
theorem k_isSound {d0 : Nat} {S : sH} {g : GH} {y : Sy} {n : Nat} (h : CI S g y n) (hy : Yok y) (hn : n < 512) : ACi mX10_isSound (d0 + 40) S g [.ref 0] (fun r S' g' => r = bI (oSound y) ∧ CI S' g' y (n + 1) ∧ Fr clL g g') := by
  obtain ⟨kd, k, r, hk, rfl, hb⟩ := h
  have hk' : k = 64 ∨ k = 67 := by omega
  have e8 := hb.2.2.1.1
  have fin : CI (SS kd k r) g y (n + 1) := ⟨kd, k, r, hk, rfl, hb.n (by omega)⟩
  unfold oSound
  refine ACz.of lcX10_isSound rfl rfl (fun X Q ad hR ret => ?_)
  refine AW_ls (ls' := [_]) rfl ?_
  refine a_aload_n (pc := 0) dX10_isSound_0 rfl ?_
  refine a_V0i (pc := 1) 9 dX10_isSound_1 lcX10_hasStore lX10_160 rfl rfl rfl (fit_of hR (by omega) rfl) (c_hasStore (d0 := d0)) rfl rfl (ex_i ?_)
  rw [e8]
  rcases hy.1 with z | ⟨st, hst, z⟩
  · rw [if_pos z] at ret
    rw [hs_no z]
    refine a_if_eqB (pc := 4) 33 dX10_isSound_4 (by decide) (fun c1 => ?_) (fun c1 => ?_)
    · refine a_iconst (pc := 33) (nI 0) dX10_isSound_33 (by decide) ?_
      refine ret _ _ 34 _ _ dX10_isSound_34 rfl (by first | exact Or.inl rfl | exact Or.inr rfl | exact bI_01 _) ?_
      exact ⟨rfl, fin, Fr.rf _ g⟩
    · cases c1
  · have hst1 : yst y = st := by show ix (yk y) = st; rw [z, ix_n (by omega)]
    rw [if_neg (by rw [z]; exact nI_m1 (by omega)), hst1] at ret
    rw [hs_yes hst z]
    refine a_if_eqB (pc := 4) 33 dX10_isSound_4 (by decide) (fun c1 => ?_) (fun c1 => ?_)
    · cases c1
    · refine a_aload_n (pc := 7) dX10_isSound_7 rfl ?_
      refine a_gr (pc := 8) dX10_isSound_8 fX10_55 rfl ?_
      refine a_aload_n (pc := 11) dX10_isSound_11 rfl ?_
      refine a_gi (pc := 12) dX10_isSound_12 fX10_66 rfl ?_
      rw [e8, z]
      refine a_aal (pc := 15) 3 st (Or.inl rfl) dX10_isSound_15 (kin_at st hst) rfl ?_
      refine a_aload_n (pc := 16) dX10_isSound_16 rfl ?_
      refine a_gr (pc := 17) dX10_isSound_17 fX10_12 rfl ?_
      refine a_gr (pc := 20) dX10_isSound_20 fX10_111 rfl ?_
      have e6 : gA g 3 6 = rdQ (yq y) 3 0 := (hb.1.2.2.1 6 (by decide)).trans (rdQ_fl (s := 3) (p := 0) hb.1.ok (by decide) (by decide)).symm
      have e7 : gA g 3 7 = rdQ (yq y) 3 1 := (hb.1.2.2.1 7 (by decide)).trans (rdQ_fl (s := 3) (p := 1) hb.1.ok (by decide) (by decide)).symm
      have ev : verQ (gA g 3, []) = verQ (yq y) := by
        rw [verQ_fl hb.1.ok, verQ_nil, verQ_nil, show gA g 3 6 = _ from hb.1.2.2.1 6 (by decide), show gA g 3 7 = _ from hb.1.2.2.1 7 (by decide), show gA g 3 14 = _ from hb.1.2.2.1 14 (by decide), show gA g 3 15 = _ from hb.1.2.2.1 15 (by decide)]
      have last : ∀ b : Bool, b = sndA st (rdQ (yq y) 3 0) (rdQ (yq y) 3 1) (verQ (yq y)) → AW mX10_isSound X Q ad 0 0 (conc (SS kd k r) g) 26 [some (.ref 0)] [.int (bI b)] := by
        intro b hbb
        refine a_if_eqB (pc := 26) 33 dX10_isSound_26 (by decide) (fun c2 => ?_) (fun c2 => ?_)
        · refine a_iconst (pc := 33) (nI 0) dX10_isSound_33 (by decide) ?_
          refine ret _ _ 34 _ _ dX10_isSound_34 rfl (by first | exact Or.inl rfl | exact Or.inr rfl | exact bI_01 _) ?_
          exact ⟨by rw [← hbb, c2]; rfl, fin, Fr.rf _ g⟩
        · refine a_iconst (pc := 29) (nI 1) dX10_isSound_29 (by decide) ?_
          refine a_goto (pc := 30) 34 dX10_isSound_30 (by decide) ?_
          refine ret _ _ 34 _ _ dX10_isSound_34 rfl (by first | exact Or.inl rfl | exact Or.inr rfl | exact bI_01 _) ?_
          exact ⟨by rw [← hbb, c2]; rfl, fin, Fr.rf _ g⟩
      obtain rfl | rfl | rfl : st = 0 ∨ st = 1 ∨ st = 2 := by omega
      · refine a_U1i (pc := 23) 3 dX10_isSound_23 rfl lcX4_allIsWell lX10_199_X4 rfl (fit_of hR (by omega) rfl) (c_well0 (d0 := d0) 3) rfl rfl (ex_i ?_)
        exact last _ rfl
      · refine a_U1i (pc := 23) 1 dX10_isSound_23 rfl lcX2_allIsWell lX10_199_X2 rfl (fit_of hR (by omega) rfl) (c_well1_3 (d0 := d0)) rfl rfl (ex_i ?_)
        rw [e6, e7]
        exact last _ (by simp [sndA])
      · refine a_U1i (pc := 23) 7 dX10_isSound_23 rfl lcX8_allIsWell lX10_199_X8 rfl (fit_of hR (by omega) rfl) (c_well2 (d0 := d0)) rfl rfl (ex_i ?_)
        rw [ev]
        exact last _ rfl
