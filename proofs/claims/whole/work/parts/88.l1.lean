/-! THE LAW: its script's row lies at the place 107, beyond the heap that is known -/
abbrev mL_law : Mi := (RL, "law", "([I)Z", cL_law, 8, (some .boolean))
def Lw (b L : Nat) (zs : Nat → Int32) (X : Cx) (ad : Nat → Nat) : Prop := (xR X = room_1 ∧ (xl X).stackTraces = false ∧ Tx (xA X) (xs X) (xH X)) ∧ va_X b L zs (xs X) (xH X) ∧ b < (xH X).size ∧ ¬ xA X b ∧ ad 107 = b ∧ L ≤ 2048
section L88
variable {M : Mi} {X : Cx} {Q : State → Prop} {ad : Nat → Nat} {k n : Nat} {h : sH} {pc : Nat} {ls : List (Option Value)} {st : List Value} {b L : Nat} {zs : Nat → Int32}
theorem s_ial {v : Int32} (j : Nat) (hL : Lw b L zs X ad) (d : decode (mcc M) pc = .ok (.iaload, 1)) (hv : v = nI j) (hj : j < L) (kk : AW M X Q ad k n h (pc + 1) ls (.int (zs j) :: st)) : AW M X Q ad k n h pc ls (.int v :: .ref 107 :: st) := by
  obtain ⟨-, hX, hb, hA, rfl, hL2⟩ := hL
  subst hv
  intro C H locs lc r
  refine va_sld C.1 C.2.1 hX hb hA r.2.2.1 (vp_in_nI hj (by omega)) d ?_
  rw [nI_clamp (by omega)]
  exact kk C H locs lc r
theorem s_alen (hL : Lw b L zs X ad) (d : decode (mcc M) pc = .ok (.arraylength, 1)) (kk : AW M X Q ad k n h (pc + 1) ls (.int (nI L) :: st)) : AW M X Q ad k n h pc ls (.ref 107 :: st) := by
  obtain ⟨-, hX, hb, hA, rfl, hL2⟩ := hL
  intro C H locs lc r
  exact va_slen C.1 C.2.1 hX hb hA r.2.2.1 d (kk C H locs lc r)
theorem AW_wid {k' n' : Nat} (h1 : k ≤ k') (h2 : n ≤ n') (kk : AW M X Q ad k' n' h pc ls st) : AW M X Q ad k n h pc ls st := fun C H locs lc r => W.widen h1 h2 (kk C H locs lc r)
theorem AW_less {ls' : List (Option Value)} (hs : ∀ (i : Nat) (v : Value), ls'[i]? = some (some v) → ls[i]? = some (some v)) (kk : AW M X Q ad k n h pc ls' st) : AW M X Q ad k n h pc ls st := fun C H locs lc r => kk C H locs lc ⟨r.1, r.2.1, r.2.2.1, lv_less r.2.2.2 (fun q hq => by
  obtain ⟨v, h1, h2⟩ := sl_mem.mp hq
  exact sl_mem.mpr ⟨v, hs _ _ h1, h2⟩)⟩
theorem AW_five {a1 a2 a3 a4 a5 : Option Value} (x1 x2 x3 : Option Value) (kk : AW M X Q ad k n h pc [a1, a2, a3, a4, a5, none, none, none] st) : AW M X Q ad k n h pc [a1, a2, a3, a4, a5, x1, x2, x3] st := AW_less (fun i v hi => by
  match i, hi with
  | 0, hi => exact hi
  | 1, hi => exact hi
  | 2, hi => exact hi
  | 3, hi => exact hi
  | 4, hi => exact hi
  | 5, hi => cases hi
  | 6, hi => cases hi
  | 7, hi => cases hi
  | i + 8, hi => cases hi) kk
/-- heaps of the same cells -/
theorem AW_sw {h' : sH} (e : ∀ dA ad, sw dA ad h = sw dA ad h') (kk : AW M X Q ad k n h' pc ls st) : AW M X Q ad k n h pc ls st := fun C H locs lc r => kk C H locs lc ⟨e _ _ ▸ r.1, e _ _ ▸ r.2.1, r.2.2.1, r.2.2.2⟩
theorem fit_law {M' : Mi} {d : Nat} (hL : Lw b L zs X ad) (hd : d ≤ 42) (hm : Nat.ble (mnL M') 45 = true) (hk : k ≤ 1000) (hn : n ≤ 200000) : Fit X M' d k n := by
  have h2 := Nat.le_of_ble_eq_true hm
  unfold Fit
  rw [hL.1.1]
  refine ⟨⟨?_, ?_⟩, ?_, ?_⟩
  · show d + 1 ≤ 2048
    omega
  · show _ ≤ 84000
    omega
  · show k ≤ 601024
    omega
  · show n ≤ 7293034
    omega
theorem fitX_law {M' : Mi} {d : Nat} (hL : Lw b L zs X ad) (hd : d ≤ 42) (hm : Nat.ble (mnL M') 45 = true) (hk : k ≤ 1000) (hn : n ≤ 200000) : FitX X M' d k n := by
  have h2 := Nat.le_of_ble_eq_true hm
  unfold FitX
  rw [hL.1.1]
  refine ⟨⟨?_, ?_⟩, ?_, ?_⟩
  · show d + 1 ≤ 2048
    omega
  · show _ ≤ 84000
    omega
  · show k + 1 ≤ 601024
    omega
  · show n + 6 ≤ 7293034
    omega
end L88
theorem k_through {d0 : Nat} {S : sH} {g : GH} {y : Sy} {n : Nat} (h : CI S g y n) (hy : Yok y) (hn : n < 512) (x : Int32) : ACi mX10_through (d0 + 40) S g [.ref 0, .int x] (fun rr S' g' => rr = (oThrough y x).1 ∧ CI S' g' (oThrough y x).2 (n + 1) ∧ Fr clL g g') := by
  obtain ⟨kd, k, r, ⟨rfl, rfl⟩ | ⟨rfl, rfl⟩, rfl, hb⟩ := h
  · exact k_through_67 hb hy hn x
  · exact k_through_64 hb hy hn x
theorem k_gone {d0 : Nat} {S : sH} {g : GH} {y : Sy} {n : Nat} (h : CI S g y n) (hn : n < 512) (w : Int32) : ACi mX10_gone (d0 + 40) S g [.ref 0, .int w] (fun rr S' g' => rr = oGone y w ∧ CI S' g' y (n + 1) ∧ Fr clL g g') := by
  obtain ⟨kd, k, r, ⟨rfl, rfl⟩ | ⟨rfl, rfl⟩, rfl, hb⟩ := h
  · exact k_gone_67 hb hn w
  · exact k_gone_64 hb hn w
theorem k_bad {d0 : Nat} {S : sH} {g : GH} {y : Sy} {n : Nat} (h : CI S g y n) (hn : n < 512) (i w : Int32) : ACi mX10_bad (d0 + 40) S g [.ref 0, .int i, .int w] (fun rr S' g' => rr = (oBad y i w).1 ∧ CI S' g' (oBad y i w).2 (n + 1) ∧ Fr clL g g') := by
  obtain ⟨kd, k, r, ⟨rfl, rfl⟩ | ⟨rfl, rfl⟩, rfl, hb⟩ := h
  · exact k_bad_67 hb hn i w
  · exact k_bad_64 hb hn i w
theorem k_least {d0 : Nat} {S : sH} {g : GH} {y : Sy} {n : Nat} (h : CI S g y n) (hy : Yok y) (hn : n < 512) (x : Int32) : ACi mX10_least (d0 + 40) S g [.ref 0, .int x] (fun rr S' g' => rr = (oLeast y x).1 ∧ CI S' g' (oLeast y x).2 (n + 1) ∧ Fr clL g g') := by
  obtain ⟨kd, k, r, ⟨rfl, rfl⟩ | ⟨rfl, rfl⟩, rfl, hb⟩ := h
  · exact k_least_67 hb hy hn x
  · exact k_least_64 hb hy hn x
abbrev lls (i : Nat) : List (Option Value) := [some (.ref 107), some (.ref 0), some (.ref 76), some (.ref 106), some (.int (nI i)), none, none, none]
/-- a pass of the law's loop is through -/
def LwK (X : Cx) (Q : State → Prop) (ad : Nat → Nat) (k n c i : Nat) : Prop := ∀ (S' : sH) (g' : GH) (y' : Sy), CI S' g' y' (c + 1) → MI g' y' → Yok y' → AW mL_law X Q ad (k + 1) (n + 6) (conc S' g') 1093 (lls i) []
theorem and31 (x : Int32) : ∃ j, j < 32 ∧ x &&& nI 31 = nI j := by
  refine ⟨(x &&& nI 31).toBitVec.toNat, ?_, ?_⟩
  · rw [Int32.toBitVec_and, BitVec.toNat_and]
    exact Nat.and_lt_two_pow (n := 5) _ (by decide)
  · apply Int32.toBitVec_inj.mp
    show _ = (Int32.ofNat _).toBitVec
    rw [Int32.toBitVec_ofNat', BitVec.ofNat_toNat, BitVec.setWidth_eq]
theorem lend {i L : Nat} (hL : L ≤ 2048) (hi : i ≤ 2100) (h : ¬ nI L - nI 4 < nI i) : i + 4 ≤ L := by
  rw [Int32.lt_iff_toInt_lt, Int32.toInt_sub] at h
  have e1 : (nI L).toInt = L := Int32.toInt_ofNat_of_lt (by omega)
  have e2 : (nI i).toInt = i := Int32.toInt_ofNat_of_lt (by omega)
  have e3 : (nI 4).toInt = 4 := rfl
  rw [e1, e2, e3, Int.bmod_eq_of_le (by omega) (by omega)] at h
  omega
