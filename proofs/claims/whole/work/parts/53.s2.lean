/-! bits -/
section A53
variable {M : Mi} {X : Cx} {Q : State → Prop} {ad : Nat → Nat} {k n : Nat} {h : sH} {pc : Nat} {ls : List (Option Value)} {st : List Value}
theorem a_ldcw (v : Int32) {i : Nat} (d : decode (mcc M) pc = .ok (.ldc_w i, 3)) (hw : Cond.constant (mown M) i v ∈ gW) (kk : AW M X Q ad k n h (pc + 3) ls (.int v :: st)) : AW M X Q ad k n h pc ls st := fun C H locs lc r => lv_ldcw C.1 C.2.1 C.2.2.2.1 (C.2.2.2.2.1 _ hw) d (kk C H locs lc r)
end A53
def usF (x : Int32) (k : Nat) : Int32 := (x.toUInt32 >>> ((nI k).toUInt32 &&& Int32.toUInt32 31)).toInt32
def bc1 (x : Int32) : Int32 := x - (usF x 1 &&& 1431655765)
def bc2 (x : Int32) : Int32 := (x &&& 858993459) + (usF x 2 &&& 858993459)
def bc3 (x : Int32) : Int32 := (x + usF x 4) &&& 252645135
def bc4 (x : Int32) : Int32 := x + usF x 8
def bc5 (x : Int32) : Int32 := x + usF x 16
def bcF (x : Int32) : Int32 := bc5 (bc4 (bc3 (bc2 (bc1 x)))) &&& nI 63
theorem bcF_pow : ∀ e, e < 30 → bcF (nI (2 ^ e) - nI 1) = nI e := by
  have : ∀ e : Fin 30, bcF (nI (2 ^ e.1) - nI 1) = nI e.1 := by decide +kernel
  exact fun e he => this ⟨e, he⟩
set_option maxRecDepth 100000 in
theorem c_bitCount {d0 : Nat} {S : sH} {g : GH} (x : Int32) : ACi mJ6_bitCount_0f7a4 d0 S g [.int x] (fun r S' g' => S' = S ∧ g' = g ∧ r = bcF x) := by
  refine ACi.of lcJ6_bitCount_0f7a4 rfl rfl (fun X Q ad hR ret => ?_)
  refine AW_ls (ls' := [_]) rfl ?_
  refine a_iload_n (pc := 0) dJ6_bitCount_0f7a4_0 rfl ?_
  refine a_iload_n (pc := 1) dJ6_bitCount_0f7a4_1 rfl ?_
  refine a_iconst (pc := 2) (nI 1) dJ6_bitCount_0f7a4_2 (by decide) ?_
  refine a_iushr (pc := 3) dJ6_bitCount_0f7a4_3 ?_
  refine a_ldcw (pc := 4) 1431655765 dJ6_bitCount_0f7a4_4 (gW_in 479 (by decide +kernel) rfl) ?_
  refine a_iand (pc := 7) dJ6_bitCount_0f7a4_7 ?_
  refine a_isub (pc := 8) dJ6_bitCount_0f7a4_8 ?_
  refine AW_top (y := bc1 x) rfl ?_
  refine a_istore_n (pc := 9) (ls' := [_]) dJ6_bitCount_0f7a4_9 (Nat.le_of_ble_eq_true rfl) rfl ?_
  refine a_iload_n (pc := 10) dJ6_bitCount_0f7a4_10 rfl ?_
  refine a_ldcw (pc := 11) 858993459 dJ6_bitCount_0f7a4_11 (gW_in 480 (by decide +kernel) rfl) ?_
  refine a_iand (pc := 14) dJ6_bitCount_0f7a4_14 ?_
  refine a_iload_n (pc := 15) dJ6_bitCount_0f7a4_15 rfl ?_
  refine a_iconst (pc := 16) (nI 2) dJ6_bitCount_0f7a4_16 (by decide) ?_
  refine a_iushr (pc := 17) dJ6_bitCount_0f7a4_17 ?_
  refine a_ldcw (pc := 18) 858993459 dJ6_bitCount_0f7a4_18 (gW_in 480 (by decide +kernel) rfl) ?_
  refine a_iand (pc := 21) dJ6_bitCount_0f7a4_21 ?_
  refine a_iadd (pc := 22) dJ6_bitCount_0f7a4_22 ?_
  try rw [nI_add]
  refine AW_top (y := bc2 (bc1 x)) rfl ?_
  refine a_istore_n (pc := 23) (ls' := [_]) dJ6_bitCount_0f7a4_23 (Nat.le_of_ble_eq_true rfl) rfl ?_
  refine a_iload_n (pc := 24) dJ6_bitCount_0f7a4_24 rfl ?_
  refine a_iload_n (pc := 25) dJ6_bitCount_0f7a4_25 rfl ?_
  refine a_iconst (pc := 26) (nI 4) dJ6_bitCount_0f7a4_26 (by decide) ?_
  refine a_iushr (pc := 27) dJ6_bitCount_0f7a4_27 ?_
  refine a_iadd (pc := 28) dJ6_bitCount_0f7a4_28 ?_
  try rw [nI_add]
  refine a_ldcw (pc := 29) 252645135 dJ6_bitCount_0f7a4_29 (gW_in 481 (by decide +kernel) rfl) ?_
  refine a_iand (pc := 32) dJ6_bitCount_0f7a4_32 ?_
  refine AW_top (y := bc3 (bc2 (bc1 x))) rfl ?_
  refine a_istore_n (pc := 33) (ls' := [_]) dJ6_bitCount_0f7a4_33 (Nat.le_of_ble_eq_true rfl) rfl ?_
  refine a_iload_n (pc := 34) dJ6_bitCount_0f7a4_34 rfl ?_
  refine a_iload_n (pc := 35) dJ6_bitCount_0f7a4_35 rfl ?_
  refine a_bipush (pc := 36) (nI 8) dJ6_bitCount_0f7a4_36 (by decide) ?_
  refine a_iushr (pc := 38) dJ6_bitCount_0f7a4_38 ?_
  refine a_iadd (pc := 39) dJ6_bitCount_0f7a4_39 ?_
  try rw [nI_add]
  refine AW_top (y := bc4 (bc3 (bc2 (bc1 x)))) rfl ?_
  refine a_istore_n (pc := 40) (ls' := [_]) dJ6_bitCount_0f7a4_40 (Nat.le_of_ble_eq_true rfl) rfl ?_
  refine a_iload_n (pc := 41) dJ6_bitCount_0f7a4_41 rfl ?_
  refine a_iload_n (pc := 42) dJ6_bitCount_0f7a4_42 rfl ?_
  refine a_bipush (pc := 43) (nI 16) dJ6_bitCount_0f7a4_43 (by decide) ?_
  refine a_iushr (pc := 45) dJ6_bitCount_0f7a4_45 ?_
  refine a_iadd (pc := 46) dJ6_bitCount_0f7a4_46 ?_
  try rw [nI_add]
  refine AW_top (y := bc5 (bc4 (bc3 (bc2 (bc1 x))))) rfl ?_
  refine a_istore_n (pc := 47) (ls' := [_]) dJ6_bitCount_0f7a4_47 (Nat.le_of_ble_eq_true rfl) rfl ?_
  refine a_iload_n (pc := 48) dJ6_bitCount_0f7a4_48 rfl ?_
  refine a_bipush (pc := 49) (nI 63) dJ6_bitCount_0f7a4_49 (by decide) ?_
  refine a_iand (pc := 51) dJ6_bitCount_0f7a4_51 ?_
  refine ret _ _ 52 _ _ dJ6_bitCount_0f7a4_52 rfl ?_
  exact ⟨rfl, rfl, rfl⟩
/-- the epochs from a to b, as bits -/
def spn (a b : Nat) : Nat := (2 ^ (b - a + 1) - 1) * 2 ^ a
theorem spn_I : ∀ a b, a ≤ b → b < 30 → ((nI 1 <<< ((nI b - nI a + nI 1) &&& 31)) - nI 1) <<< (nI a &&& 31) = nI (spn a b) := by
  have : ∀ b : Fin 30, ∀ a : Fin 30, a.1 ≤ b.1 → ((nI 1 <<< ((nI b.1 - nI a.1 + nI 1) &&& 31)) - nI 1) <<< (nI a.1 &&& 31) = nI (spn a.1 b.1) := by decide +kernel
  exact fun a b h hb => this ⟨b, hb⟩ ⟨a, by omega⟩ h
theorem spn_lt : ∀ a b, a ≤ b → b < 30 → spn a b < 2 ^ 30 := by
  have : ∀ b : Fin 30, ∀ a : Fin 30, a.1 ≤ b.1 → spn a.1 b.1 < 2 ^ 30 := by decide +kernel
  exact fun a b h hb => this ⟨b, hb⟩ ⟨a, by omega⟩ h
theorem spn_bit {a b e : Nat} (h : a ≤ b) : (spn a b).testBit e = decide (a ≤ e ∧ e ≤ b) := by
  unfold spn
  rw [Nat.testBit_mul_two_pow]
  by_cases ha : a ≤ e
  · rw [decide_eq_true ha, Bool.true_and, Nat.testBit_two_pow_sub_one]
    by_cases hb : e ≤ b
    · rw [decide_eq_true (by omega), decide_eq_true ⟨ha, hb⟩]
    · rw [decide_eq_false (by omega), decide_eq_false (fun z => hb z.2)]
  · rw [decide_eq_false ha, Bool.false_and, decide_eq_false (fun z => ha z.1)]
theorem spn_0 (E : Nat) (h : 1 ≤ E) : spn 0 (E - 1) = 2 ^ E - 1 := by
  unfold spn
  rw [show E - 1 - 0 + 1 = E by omega]
  simp
set_option maxRecDepth 100000 in
theorem c_span {d0 : Nat} {S : sH} {g : GH} (a b : Nat) (h : a ≤ b) (hb : b < 30) : ACi mX9_span d0 S g [.int (nI a), .int (nI b)] (fun r S' g' => S' = S ∧ g' = g ∧ r = nI (spn a b)) := by
  refine ACi.of lcX9_span rfl rfl (fun X Q ad hR ret => ?_)
  refine AW_ls (ls' := [_, _]) rfl ?_
  refine a_iconst (pc := 0) (nI 1) dX9_span_0 (by decide) ?_
  refine a_iload_n (pc := 1) dX9_span_1 rfl ?_
  refine a_iload_n (pc := 2) dX9_span_2 rfl ?_
  refine a_isub (pc := 3) dX9_span_3 ?_
  refine a_iconst (pc := 4) (nI 1) dX9_span_4 (by decide) ?_
  refine a_iadd (pc := 5) dX9_span_5 ?_
  try rw [nI_add]
  refine a_ishl (pc := 6) dX9_span_6 ?_
  refine a_iconst (pc := 7) (nI 1) dX9_span_7 (by decide) ?_
  refine a_isub (pc := 8) dX9_span_8 ?_
  refine a_iload_n (pc := 9) dX9_span_9 rfl ?_
  refine a_ishl (pc := 10) dX9_span_10 ?_
  refine ret _ _ 11 _ _ dX9_span_11 rfl ?_
  exact ⟨rfl, rfl, spn_I a b h hb⟩
def bt1 (x e : Nat) : Nat := if x.testBit e = true then 1 else 0
theorem shr_k : ∀ e, e < 32 → ((nI e &&& 31).toBitVec.smod 32).toNat = e := by
  have : ∀ e : Fin 32, ((nI e.1 &&& 31).toBitVec.smod 32).toNat = e.1 := by decide +kernel
  exact fun e he => this ⟨e, he⟩
theorem sh_bit {v e : Nat} (hv : v < 2 ^ 31) (he : e < 32) : (nI v >>> (nI e &&& 31)) &&& nI 1 = nI (bt1 v e) := by
  rw [pk_shrN hv _ e (shr_k e he), nI_and]
  congr 1
  unfold bt1
  rw [Nat.and_one_is_mod, Nat.testBit_eq_decide_div_mod_eq]
  by_cases z : v / 2 ^ e % 2 = 1
  · rw [decide_eq_true z, if_pos rfl, z]
  · rw [decide_eq_false z, if_neg (by decide)]
    omega
theorem pow_and (e x : Nat) : 2 ^ e &&& x = if x.testBit e = true then 2 ^ e else 0 := by
  apply Nat.eq_of_testBit_eq
  intro i
  rw [Nat.testBit_and, Nat.testBit_two_pow]
  by_cases h : e = i
  · subst h
    rw [decide_eq_true rfl, Bool.true_and]
    by_cases hx : x.testBit e = true
    · rw [if_pos hx, hx, Nat.testBit_two_pow, decide_eq_true rfl]
    · rw [if_neg hx, Nat.zero_testBit]
      exact Bool.eq_false_iff.mpr hx
  · rw [decide_eq_false h, Bool.false_and]
    split
    · rw [Nat.testBit_two_pow, decide_eq_false h]
    · rw [Nat.zero_testBit]
theorem top_bit {x e : Nat} (h1 : 2 ^ e ≤ x) (h2 : x < 2 ^ (e + 1)) : x.testBit e = true := by
  rw [Nat.testBit_eq_decide_div_mod_eq, Nat.div_eq_of_lt_le (k := 1) (by omega) (by rw [Nat.pow_succ] at h2; omega)]
  rfl
theorem is_pow {c : Nat} (h0 : c ≠ 0) (h : c &&& (c - 1) = 0) : ∃ e, c = 2 ^ e := by
  refine ⟨c.log2, ?_⟩
  have h1 : 2 ^ c.log2 ≤ c := Nat.log2_self_le h0
  have h2 : c < 2 ^ (c.log2 + 1) := Nat.lt_log2_self
  rcases Nat.lt_or_eq_of_le h1 with z | z
  · have b1 := top_bit h1 h2
    have b2 : (c - 1).testBit c.log2 = true := top_bit (by omega) (by omega)
    have : (c &&& (c - 1)).testBit c.log2 = true := by rw [Nat.testBit_and, b1, b2]; rfl
    rw [h, Nat.zero_testBit] at this
    cases this
  · exact z.symm
theorem pow_m1 (e : Nat) : 2 ^ e &&& (2 ^ e - 1) = 0 := by
  apply Nat.eq_of_testBit_eq
  intro i
  rw [Nat.testBit_and, Nat.testBit_two_pow, Nat.testBit_two_pow_sub_one, Nat.zero_testBit]
  by_cases h : e = i
  · rw [decide_eq_false (by omega : ¬ i < e), Bool.and_false]
  · rw [decide_eq_false h, Bool.false_and]
