/-! gathering the ints of a part -/
def gR (P S O T : Nat → Int32) (p i ne ep : Nat) (v : Int32) : Prop := ep < ne ∧ (v = bsR P S O T ep p i ∨ ∃ k, k < i ∧ S k = nI (p / 2) ∧ weN S k = ep ∧ v = vlA O T p k)
def mtc (S : Nat → Int32) (x : Int32) : Nat → Nat
  | 0 => 0
  | k + 1 => mtc S x k + (if S k = x then 1 else 0)
theorem mtc_mono (S : Nat → Int32) (x : Int32) {j k : Nat} (h : j ≤ k) : mtc S x j ≤ mtc S x k := by
  obtain ⟨t, rfl⟩ := Nat.exists_eq_add_of_le h
  induction t with
  | zero => exact Nat.le_refl _
  | succ t ih =>
    rw [← Nat.add_assoc, mtc]
    have := ih (by omega)
    omega
section G58
variable {P S O T : Nat → Int32} {p : Nat}
theorem gR_skip {i ne ep : Nat} {v : Int32} (h : ¬ S i = nI (p / 2)) : gR P S O T p i ne ep v ↔ gR P S O T p (i + 1) ne ep v := by
  unfold gR
  rw [bsR, if_neg (fun z => h z.1)]
  constructor
  · rintro ⟨h1, h2 | ⟨k, k1, k2, k3⟩⟩
    · exact ⟨h1, Or.inl h2⟩
    · exact ⟨h1, Or.inr ⟨k, by omega, k2, k3⟩⟩
  · rintro ⟨h1, h2 | ⟨k, k1, k2, k3⟩⟩
    · exact ⟨h1, Or.inl h2⟩
    · by_cases z : k = i
      · rw [z] at k2
        exact absurd k2 h
      · exact ⟨h1, Or.inr ⟨k, by omega, k2, k3⟩⟩
theorem gR_gap {i ne ne' ep : Nat} {v sd : Int32} (h7 : ∀ k, k < i → S k = nI (p / 2) → weN S k < ne) (hn : ne ≤ ne') (h8 : ∀ ep, ne ≤ ep → bsR P S O T ep p i = sd) : (gR P S O T p i ne ep v ∨ (v = sd ∧ ne ≤ ep ∧ ep < ne')) ↔ gR P S O T p i ne' ep v := by
  constructor
  · rintro (⟨h1, h2⟩ | ⟨h1, h2, h3⟩)
    · exact ⟨by omega, h2⟩
    · exact ⟨h3, Or.inl (by rw [h1, h8 ep h2])⟩
  · rintro ⟨h1, h2⟩
    by_cases z : ep < ne
    · exact Or.inl ⟨z, h2⟩
    · right
      refine ⟨?_, by omega, h1⟩
      rcases h2 with h2 | ⟨k, k1, k2, k3, k4⟩
      · rw [h2, h8 ep (by omega)]
      · have := h7 k k1 k2
        omega
theorem gR_add {i ep : Nat} {v : Int32} (h : S i = nI (p / 2)) : (gR P S O T p i (weN S i + 1) ep v ∨ (v = vlA O T p i ∧ ep = weN S i)) ↔ gR P S O T p (i + 1) (weN S i + 1) ep v := by
  unfold gR
  constructor
  · rintro (⟨h1, h2 | ⟨k, k1, k2, k3⟩⟩ | ⟨h1, h2⟩)
    · refine ⟨h1, Or.inl ?_⟩
      rw [bsR, if_neg (fun z => by omega)]
      exact h2
    · exact ⟨h1, Or.inr ⟨k, by omega, k2, k3⟩⟩
    · exact ⟨by omega, Or.inr ⟨i, by omega, h, h2.symm, h1⟩⟩
  · rintro ⟨h1, h2 | ⟨k, k1, k2, k3, k4⟩⟩
    · rw [bsR, if_neg (fun z => by omega)] at h2
      exact Or.inl ⟨h1, Or.inl h2⟩
    · by_cases z : k = i
      · subst z
        exact Or.inr ⟨k4, k3.symm⟩
      · exact Or.inl ⟨h1, Or.inr ⟨k, by omega, k2, k3, k4⟩⟩
theorem gR_all {n E ep : Nat} {v : Int32} : gR P S O T p n E ep v ↔ (ep < E ∧ inA P S O T n ep p v) := Iff.rfl
end G58
theorem shr_1 {p : Nat} (h : p < 32) : nI p >>> (nI 1 &&& 31) = nI (p / 2) := pk_shrN (by omega) _ 1 (by decide)
theorem and_1 {p : Nat} : nI p &&& nI 1 = nI (p % 2) := by rw [nI_and, Nat.and_one_is_mod]
set_option maxHeartbeats 1000000 in
set_option maxRecDepth 100000 in
theorem c_gather_8 {d0 kd kp rp : Nat} {g : GH} (q : Qd) (hq : CD 1 g q) (p L a E : Nat) (hp : p < 32) (hL : L < 32) (h8 : gF g 8 8 = nI L) (h9 : gF g 8 9 = nI a) (h10 : gF g 8 10 = nI E) (hE : E = max (epc (qS q.2) q.2.length) 1) (hE30 : E ≤ 30) (ha : a + 1 + mtc (qS q.2) (nI (p / 2)) q.2.length ≤ 152) : ACv mX9_gather (d0 + 1) (SS kd kp rp) g [.ref 8, .ref 1, .int (nI p)] (fun S' g' => S' = SS kd kp rp ∧ Fr [8, 10, 11, 12, 13] g g' ∧ (∀ k, k ≠ 8 → k ≠ 9 → gF g' 8 k = gF g 8 k) ∧ (∀ j, j < a → gA g' 12 j = gA g 12 j ∧ gA g' 13 j = gA g 13 j) ∧ (∀ l, l < L → gA g' 10 l = gA g 10 l ∧ gA g' 11 l = gA g 11 l) ∧ gA g' 11 L = nI a ∧ ∃ e1, a ≤ e1 ∧ e1 ≤ a + 1 + mtc (qS q.2) (nI (p / 2)) q.2.length ∧ SegD 8 g' a e1 (fun ep v => ep < E ∧ inA q.1 (qS q.2) (qO q.2) (qT q.2) q.2.length ep p v) ∧ ((e1 ≤ a + 1 ∧ gF g' 8 8 = nI L ∧ gF g' 8 9 = nI a) ∨ (a + 1 < e1 ∧ gF g' 8 8 = nI (L + 1) ∧ gF g' 8 9 = nI e1 ∧ gA g' 10 L = nI p ∧ gA g' 11 (L + 1) = nI e1))) := by
  obtain ⟨⟨h6, h60, -⟩, hpl, -, hen, -⟩ := id hq
  have hsec := hq.sec
  generalize hn : q.2.length = n at *
  generalize hS : qS q.2 = S at *
  generalize hO : qO q.2 = O at *
  generalize hT : qT q.2 = T at *
  generalize hP : q.1 = P at *
  have hneE : ∀ k, k < n → S k = nI (p / 2) → weN S k + 1 ≤ E := by
    intro k hk he
    have := ep_lt S hk (by rw [he]; exact nI_m1 (by omega))
    omega
  refine ACv.of lcX9_gather rfl rfl (fun X Q ad hR ret => ?_)
  refine AW_ls (ls' := [_, _, _, _, _, _, _, _]) rfl ?_
  have main : ∀ gv, (gv = 4 + 0 ∨ gv = 5 ∨ gv = 6) → gv ≠ 4 → (∀ k, k < n → gA g gv k = vlA O T p k) → AW mX9_gather X Q ad 0 0 (conc (SS kd kp rp) g) 17 [some (.ref 8), some (.ref 1), some (.int (nI p)), none, none, none, none, none] [.ref gv] := by
    intro gv hgv hgv3 hgiv
    have hgv : gv = 5 ∨ gv = 6 := by omega
    have hgvF : gv ∉ [8, 12, 13] := by rcases hgv with rfl | rfl <;> decide
    have hgvL : gv ≠ 11 := by omega
    refine a_astore_n (pc := 17) (ls' := [_, _, _, _, _, _, _, _]) dX9_gather_17 (Nat.le_of_ble_eq_true rfl) rfl ?_
    refine a_aload_n (pc := 18) dX9_gather_18 rfl ?_
    refine a_gr (pc := 19) dX9_gather_19 fX9_70 rfl ?_
    refine a_iload_n (pc := 22) dX9_gather_22 rfl ?_
    refine a_ial (pc := 23) _ dX9_gather_23 rfl rfl (by omega) ?_
    rw [hpl p hp]
    refine a_istore (pc := 24) (ls' := [_, _, _, _, _, _, _, _]) dX9_gather_24 (Nat.le_of_ble_eq_true rfl) rfl ?_
    refine a_iconst (pc := 26) (nI 0) dX9_gather_26 (by decide) ?_
    refine a_istore (pc := 27) (ls' := [_, _, _, _, _, _, _, _]) dX9_gather_27 (Nat.le_of_ble_eq_true rfl) rfl ?_
    refine a_aload_n (pc := 29) dX9_gather_29 rfl ?_
    refine a_gr (pc := 30) dX9_gather_30 fX9_18 rfl ?_
    refine a_aload_n (pc := 33) dX9_gather_33 rfl ?_
    refine a_gi (pc := 34) dX9_gather_34 fX9_36 rfl ?_
    rw [h8]
    refine a_aload_n (pc := 37) dX9_gather_37 rfl ?_
    refine a_gi (pc := 38) dX9_gather_38 fX9_40 rfl ?_
    rw [h9]
    refine a_ast (pc := 41) _ dX9_gather_41 rfl rfl (by omega) ?_
    refine a_iconst (pc := 42) (nI 0) dX9_gather_42 (by decide) ?_
    refine a_istore (pc := 43) (ls' := [_, _, _, _, _, _, _, _]) dX9_gather_43 (Nat.le_of_ble_eq_true rfl) rfl ?_
    generalize hg0 : pA g 11 (upd (gA g 11) L (nI a)) = g0
    have f0 : Fr [11] g g0 := by
      rw [← hg0]
      exact (Fr.rf _ g).sA (by decide) _
    have tail : ∀ (g1 : GH) (e : Nat) (x4 x5 x6 : Int32) (w7 : Option Value), Fr [8, 12, 13] g0 g1 → (∀ k, k ≠ 9 → gF g1 8 k = gF g 8 k) → (∀ j, j < a → gA g1 12 j = gA g 12 j ∧ gA g1 13 j = gA g 13 j) → gF g1 8 9 = nI e → e ≤ a + 1 + mtc S (nI (p / 2)) n → SegD 8 g1 a e (fun ep v => ep < E ∧ inA P S O T n ep p v) → AW mX9_gather X Q ad 0 0 (conc (SS kd kp rp) g1) 156 [some (.ref 8), some (.ref 1), some (.int (nI p)), some (.ref gv), some (.int x4), some (.int x5), some (.int x6), w7] [] := by
      intro g1 e x4 x5 x6 w7 hf1 hF1 hlow h91 hle hseg
      have hae := hseg.1.1
      have e8 : gF g1 8 8 = nI L := (hF1 8 (by decide)).trans h8
      have e3 : gA g1 11 L = nI a := by
        rw [hf1.a (by decide), ← hg0, gA_pA, if_pos rfl, upd, if_pos rfl]
      have e3l : ∀ l, l < L → gA g1 11 l = gA g 11 l := fun l hl => by
        rw [hf1.a (by decide), ← hg0, gA_pA, if_pos rfl, upd, if_neg (by omega)]
      have e2 : gA g1 10 = gA g 10 := (hf1.a (by decide)).trans (f0.a (by decide))
      have hfr : Fr [8, 10, 11, 12, 13] g g1 := (f0.mono (by decide)).tr (hf1.mono (by decide))
      refine a_aload_n (pc := 156) dX9_gather_156 rfl ?_
      refine a_gi (pc := 157) dX9_gather_157 fX9_40 rfl ?_
      rw [h91]
      refine a_aload_n (pc := 160) dX9_gather_160 rfl ?_
      refine a_gr (pc := 161) dX9_gather_161 fX9_18 rfl ?_
      refine a_aload_n (pc := 164) dX9_gather_164 rfl ?_
      refine a_gi (pc := 165) dX9_gather_165 fX9_36 rfl ?_
      rw [e8]
      refine a_ial (pc := 168) _ dX9_gather_168 rfl rfl (by omega) ?_
      rw [e3]
      refine a_isub (pc := 169) dX9_gather_169 ?_
      rw [pk_sub hae]
      refine a_iconst (pc := 170) (nI 1) dX9_gather_170 (by decide) ?_
      refine a_icmp_leN (pc := 171) 210 dX9_gather_171 (by decide) (by omega) (by omega) (fun c1 => ?_) (fun c1 => ?_)
      · refine a_aload_n (pc := 210) dX9_gather_210 rfl ?_
        refine a_aload_n (pc := 211) dX9_gather_211 rfl ?_
        refine a_gr (pc := 212) dX9_gather_212 fX9_18 rfl ?_
        refine a_aload_n (pc := 215) dX9_gather_215 rfl ?_
        refine a_gi (pc := 216) dX9_gather_216 fX9_36 rfl ?_
        rw [e8]
        refine a_ial (pc := 219) _ dX9_gather_219 rfl rfl (by omega) ?_
        rw [e3]
        refine a_pi (pc := 220) dX9_gather_220 fX9_40 rfl ?_
        refine ret _ _ 223 _ dX9_gather_223 rfl ?_
        refine ⟨rfl, hfr.sF (by decide) _ _, fun k k8 k9 => ?_, hlow, fun l hl => ⟨by rw [gA_pF, e2], e3l l hl⟩, e3, e, hae, hle, hseg, Or.inl ⟨by omega, ?_, ?_⟩⟩
        · rw [gF_pF, if_neg (fun z => k9 z.2)]
          exact hF1 k k9
        · simp only [gF_pF, gF_pA, gF_pL, gA_pF, gA_pA, gA_pL, gL_pF, gL_pA, gL_pL, reduceIte, Nat.reduceEqDiff, and_false, false_and, and_true, true_and, and_self, e8]
        · simp only [gF_pF, gF_pA, gF_pL, gA_pF, gA_pA, gA_pL, gL_pF, gL_pA, gL_pL, reduceIte, Nat.reduceEqDiff, and_false, false_and, and_true, true_and, and_self]
      · refine a_aload_n (pc := 174) dX9_gather_174 rfl ?_
        refine a_gr (pc := 175) dX9_gather_175 fX9_15 rfl ?_
        refine a_aload_n (pc := 178) dX9_gather_178 rfl ?_
        refine a_gi (pc := 179) dX9_gather_179 fX9_36 rfl ?_
        rw [e8]
        refine a_iload_n (pc := 182) dX9_gather_182 rfl ?_
        refine a_ast (pc := 183) _ dX9_gather_183 rfl rfl (by omega) ?_
        refine a_aload_n (pc := 184) dX9_gather_184 rfl ?_
        refine a_dup (pc := 185) dX9_gather_185 rfl ?_
        refine a_gi (pc := 186) dX9_gather_186 fX9_36 rfl ?_
        rw [show gF (pA g1 10 (upd (gA g1 10) L (nI p))) 8 8 = nI L from e8]
        refine a_iconst (pc := 189) (nI 1) dX9_gather_189 (by decide) ?_
        refine a_iadd (pc := 190) dX9_gather_190 ?_
        try rw [nI_add]
        refine a_pi (pc := 191) dX9_gather_191 fX9_36 rfl ?_
        refine a_aload_n (pc := 194) dX9_gather_194 rfl ?_
        refine a_gr (pc := 195) dX9_gather_195 fX9_18 rfl ?_
        refine a_aload_n (pc := 198) dX9_gather_198 rfl ?_
        refine a_gi (pc := 199) dX9_gather_199 fX9_36 rfl ?_
        simp only [gF_pF, gF_pA, gF_pL, gA_pF, gA_pA, gA_pL, gL_pF, gL_pA, gL_pL, reduceIte, Nat.reduceEqDiff, and_false, false_and, and_true, true_and, and_self]
        refine a_aload_n (pc := 202) dX9_gather_202 rfl ?_
        refine a_gi (pc := 203) dX9_gather_203 fX9_40 rfl ?_
        simp only [gF_pF, gF_pA, gF_pL, gA_pF, gA_pA, gA_pL, gL_pF, gL_pA, gL_pL, reduceIte, Nat.reduceEqDiff, and_false, false_and, and_true, true_and, and_self, h91]
        refine a_ast (pc := 206) _ dX9_gather_206 rfl rfl (by omega) ?_
        refine a_goto (pc := 207) 223 dX9_gather_207 (by decide) ?_
        refine ret _ _ 223 _ dX9_gather_223 rfl ?_
        refine ⟨rfl, ((hfr.sA (by decide) _).sF (by decide) _ _).sA (by decide) _, fun k k8 k9 => ?_, fun j hj => ?_, fun l hl => ⟨?_, ?_⟩, ?_, e, hae, hle, ?_, Or.inr ⟨by omega, ?_, ?_, ?_, ?_⟩⟩
        · rw [gF_pA, gF_pF, if_neg (fun z => k8 z.2)]
          exact hF1 k k9
        · simp only [gF_pF, gF_pA, gF_pL, gA_pF, gA_pA, gA_pL, gL_pF, gL_pA, gL_pL, reduceIte, Nat.reduceEqDiff, and_false, false_and, and_true, true_and, and_self]
          exact hlow j hj
        · simp only [gF_pF, gF_pA, gF_pL, gA_pF, gA_pA, gA_pL, gL_pF, gL_pA, gL_pL, reduceIte, Nat.reduceEqDiff, and_false, false_and, and_true, true_and, and_self, upd]
          rw [if_neg (by omega), e2]
        · simp only [gF_pF, gF_pA, gF_pL, gA_pF, gA_pA, gA_pL, gL_pF, gL_pA, gL_pL, reduceIte, Nat.reduceEqDiff, and_false, false_and, and_true, true_and, and_self, upd]
          rw [if_neg (by omega)]
          exact e3l l hl
        · simp only [gF_pF, gF_pA, gF_pL, gA_pF, gA_pA, gA_pL, gL_pF, gL_pA, gL_pL, reduceIte, Nat.reduceEqDiff, and_false, false_and, and_true, true_and, and_self, upd]
          rw [if_neg (by omega)]
          exact e3
        · exact hseg
        · simp only [gF_pF, gF_pA, gF_pL, gA_pF, gA_pA, gA_pL, gL_pF, gL_pA, gL_pL, reduceIte, Nat.reduceEqDiff, and_false, false_and, and_true, true_and, and_self]
        · simp only [gF_pF, gF_pA, gF_pL, gA_pF, gA_pA, gA_pL, gL_pF, gL_pA, gL_pL, reduceIte, Nat.reduceEqDiff, and_false, false_and, and_true, true_and, and_self, h91]
        · simp only [gF_pF, gF_pA, gF_pL, gA_pF, gA_pA, gA_pL, gL_pF, gL_pA, gL_pL, reduceIte, Nat.reduceEqDiff, and_false, false_and, and_true, true_and, and_self, upd]
        · simp only [gF_pF, gF_pA, gF_pL, gA_pF, gA_pA, gA_pL, gL_pF, gL_pA, gL_pL, reduceIte, Nat.reduceEqDiff, and_false, false_and, and_true, true_and, and_self, upd]
    have loop : ∀ t i, n = i + t → ∀ (g1 : GH) (e ne : Nat) (sd : Int32) (w7 : Option Value), Fr [8, 12, 13] g0 g1 → (∀ k, k ≠ 9 → gF g1 8 k = gF g 8 k) → (∀ j, j < a → gA g1 12 j = gA g 12 j ∧ gA g1 13 j = gA g 13 j) → gF g1 8 9 = nI e → SegD 8 g1 a e (gR P S O T p i ne) → (ne = 0 ∨ ∃ k, k < i ∧ S k = nI (p / 2) ∧ ne = weN S k + 1) → (∀ k, k < i → S k = nI (p / 2) → weN S k < ne) → (∀ ep, ne ≤ ep → bsR P S O T ep p i = sd) → ((e = a ∧ ne = 0 ∧ mtc S (nI (p / 2)) i = 0) ∨ (1 ≤ mtc S (nI (p / 2)) i ∧ e ≤ a + 1 + mtc S (nI (p / 2)) i ∧ ∃ j, a ≤ j ∧ j < e ∧ gA g1 12 j = sd)) → AW mX9_gather X Q ad 0 0 (conc (SS kd kp rp) g1) 45 [some (.ref 8), some (.ref 1), some (.int (nI p)), some (.ref gv), some (.int sd), some (.int (nI ne)), some (.int (nI i)), w7] [] := by
      intro t
      induction t with
      | zero =>
        intro i hi g1 e ne sd w7 hf1 hF1 hlow h91 hseg i6 i7 i8 i9
        obtain rfl : i = n := by omega
        have e3 : gA g1 11 L = nI a := by
          rw [hf1.a (by decide), ← hg0, gA_pA, if_pos rfl, upd, if_pos rfl]
        have hneE' : ne ≤ E := by
          rcases i6 with z | ⟨k, k1, k2, k3⟩
          · omega
          · have := hneE k k1 k2
            omega
        refine a_iload (pc := 45) dX9_gather_45 rfl ?_
        refine a_aload_n (pc := 47) dX9_gather_47 rfl ?_
        refine a_gi (pc := 48) dX9_gather_48 fX9_95 rfl ?_
        rw [show gF g1 1 6 = nI i from (hf1.f (by decide) 6).trans ((f0.f (by decide) 6).trans h6)]
        refine a_icmp_geN (pc := 51) 130 dX9_gather_51 (by decide) (by omega) (by omega) (fun c1 => ?_) (fun c1 => ?_)
        · refine a_iload (pc := 130) dX9_gather_130 rfl ?_
          refine a_aload_n (pc := 132) dX9_gather_132 rfl ?_
          refine a_gi (pc := 133) dX9_gather_133 fX9_43 rfl ?_
          rw [show gF g1 8 10 = nI E from (hF1 10 (by decide)).trans h10]
          refine a_icmp_geN (pc := 136) 156 dX9_gather_136 (by decide) (by omega) (by omega) (fun c2 => ?_) (fun c2 => ?_)
          · obtain rfl : ne = E := by omega
            refine tail g1 e _ _ _ _ hf1 hF1 hlow h91 ?_ hseg
            rcases i9 with ⟨z1, z2, z3⟩ | ⟨z1, z2, -⟩
            · omega
            · exact z2
          · refine a_aload_n (pc := 139) dX9_gather_139 rfl ?_
            refine a_iload (pc := 140) dX9_gather_140 rfl ?_
            refine a_iload (pc := 142) dX9_gather_142 rfl ?_
            refine a_aload_n (pc := 144) dX9_gather_144 rfl ?_
            refine a_gi (pc := 145) dX9_gather_145 fX9_43 rfl ?_
            rw [show gF g1 8 10 = nI E from (hF1 10 (by decide)).trans h10]
            refine a_iconst (pc := 148) (nI 1) dX9_gather_148 (by decide) ?_
            refine a_isub (pc := 149) dX9_gather_149 ?_
            rw [pk_sub (by omega : 1 ≤ E)]
            refine a_S2i (pc := 150) dX9_gather_150 lcX9_span lX9_83 (fit_of hR (by omega) rfl) (c_span (d0 := d0) ne (E - 1) (by omega) (by omega)) rfl rfl (ex_i ?_)
            refine a_V2v (pc := 153) 8 dX9_gather_153 lcX9_allow lX9_104 rfl rfl rfl (fit_of hR (by omega) rfl) (c_allow_8 (d0 := d0) L a e sd (spn ne (E - 1)) hL ((hF1 8 (by decide)).trans h8) e3 h91 hseg (spn_lt _ _ (by omega) (by omega)) (i9.elim (fun z => Or.inl (by omega)) (fun z => Or.inr z.2.2))) rfl rfl (fun S' g' hS hp => ?_)
            obtain ⟨rfl, a1, a2, a3, e', a4, a5, a6, a7, a8⟩ := hp
            refine tail _ e' _ _ _ _ (hf1.tr a1) (fun k hk => (a2 k hk).trans (hF1 k hk)) (fun j hj => ⟨(a3 j hj).1.trans (hlow j hj).1, (a3 j hj).2.trans (hlow j hj).2⟩) a4 ?_ (a8.imp (fun ep hep v => ?_))
            · rcases i9 with ⟨z1, z2, z3⟩ | ⟨z1, z2, z3⟩
              · omega
              · rw [a6 z3]
                exact z2
            · rw [spn_bit (by omega), decide_eq_true_iff]
              have := gR_gap (P := P) (O := O) (T := T) (ep := ep) (v := v) i7 hneE' i8
              rw [← gR_all, ← this]
              constructor
              · rintro (z | ⟨z1, z2, z3⟩)
                · exact Or.inl z
                · exact Or.inr ⟨z1, z2, by omega⟩
              · rintro (z | ⟨z1, z2, z3⟩)
                · exact Or.inl z
                · exact Or.inr ⟨z1, z2, by omega⟩
        · exact absurd c1 (by omega)
      | succ t ih =>
        intro i hi g1 e ne sd w7 hf1 hF1 hlow h91 hseg i6 i7 i8 i9
        have e3 : gA g1 11 L = nI a := by
          rw [hf1.a (by decide), ← hg0, gA_pA, if_pos rfl, upd, if_pos rfl]
        obtain ⟨hen3, hen4, hen5, hen6⟩ := hen i (by omega)
        refine a_iload (pc := 45) dX9_gather_45 rfl ?_
        refine a_aload_n (pc := 47) dX9_gather_47 rfl ?_
        refine a_gi (pc := 48) dX9_gather_48 fX9_95 rfl ?_
        rw [show gF g1 1 6 = nI n from (hf1.f (by decide) 6).trans ((f0.f (by decide) 6).trans h6)]
        refine a_icmp_geN (pc := 51) 130 dX9_gather_51 (by decide) (by omega) (by omega) (fun c1 => ?_) (fun c1 => ?_)
        · exact absurd c1 (by omega)
        · refine a_aload_n (pc := 54) dX9_gather_54 rfl ?_
          refine a_gr (pc := 55) dX9_gather_55 fX9_98 rfl ?_
          refine a_iload (pc := 58) dX9_gather_58 rfl ?_
          refine a_ial (pc := 60) _ dX9_gather_60 rfl rfl (by omega) ?_
          rw [show gA g1 4 i = S i from (congrFun ((hf1.a (by decide)).trans (f0.a (by decide))) i).trans hen3]
          refine a_iload_n (pc := 61) dX9_gather_61 rfl ?_
          refine a_iconst (pc := 62) (nI 1) dX9_gather_62 (by decide) ?_
          refine a_ishr (pc := 63) dX9_gather_63 ?_
          rw [shr_1 hp]
          refine a_icmp_eq (pc := 64) 70 dX9_gather_64 (by decide) (fun c2 => ?_) (fun c2 => ?_)
          · have hmi := hneE i (by omega) c2
            have hmt : mtc S (nI (p / 2)) (i + 1) = mtc S (nI (p / 2)) i + 1 := by rw [mtc, if_pos c2]
            have hmn := mtc_mono S (nI (p / 2)) (j := i + 1) (k := n) (by omega)
            refine a_aload_n (pc := 70) dX9_gather_70 rfl ?_
            refine a_gr (pc := 71) dX9_gather_71 fX9_101 rfl ?_
            refine a_iload (pc := 74) dX9_gather_74 rfl ?_
            refine a_ial (pc := 76) _ dX9_gather_76 rfl rfl (by omega) ?_
            rw [show gA g1 7 i = nI (weN S i) from (congrFun ((hf1.a (by decide)).trans (f0.a (by decide))) i).trans (hen6.trans (if_neg (by rw [c2]; exact nI_m1 (by omega))))]
            refine a_istore (pc := 77) (ls' := [_, _, _, _, _, _, _, _]) dX9_gather_77 (Nat.le_of_ble_eq_true rfl) rfl ?_
            refine a_iload (pc := 79) dX9_gather_79 rfl ?_
            refine a_iload (pc := 81) dX9_gather_81 rfl ?_
            have low : ∀ (g2 : GH) (e2 : Nat) (sdx : Int32), Fr [8, 12, 13] g0 g2 → (∀ k, k ≠ 9 → gF g2 8 k = gF g 8 k) → (∀ j, j < a → gA g2 12 j = gA g 12 j ∧ gA g2 13 j = gA g 13 j) → gF g2 8 9 = nI e2 → SegD 8 g2 a e2 (gR P S O T p i (weN S i + 1)) → e2 ≤ a + 1 + mtc S (nI (p / 2)) i → AW mX9_gather X Q ad 0 0 (conc (SS kd kp rp) g2) 105 [some (.ref 8), some (.ref 1), some (.int (nI p)), some (.ref gv), some (.int sdx), some (.int (nI (weN S i + 1))), some (.int (nI i)), some (.int (nI (weN S i)))] [] := by
              intro g2 e2 sdx hf2 hF2 hlow2 h92 hseg2 hcnt
              have e32 : gA g2 11 L = nI a := by
                rw [hf2.a (by decide), ← hg0, gA_pA, if_pos rfl, upd, if_pos rfl]
              refine a_aload_n (pc := 105) dX9_gather_105 rfl ?_
              refine a_iload (pc := 106) dX9_gather_106 rfl ?_
              refine a_ial (pc := 108) i dX9_gather_108 (m := 60) (by rcases hgv with rfl | rfl <;> rfl) rfl (by omega) ?_
              rw [show gA g2 gv i = vlA O T p i from (congrFun ((hf2.a hgvF).trans (f0.a (by simpa using hgvL))) i).trans (hgiv i (by omega))]
              refine a_istore (pc := 109) (ls' := [_, _, _, _, _, _, _, _]) dX9_gather_109 (Nat.le_of_ble_eq_true rfl) rfl ?_
              refine a_aload_n (pc := 111) dX9_gather_111 rfl ?_
              refine a_iload (pc := 112) dX9_gather_112 rfl ?_
              refine a_iload (pc := 114) dX9_gather_114 rfl ?_
              refine a_iload (pc := 116) dX9_gather_116 rfl ?_
              refine a_S2i (pc := 118) dX9_gather_118 lcX9_span lX9_83 (fit_of hR (by omega) rfl) (c_span (d0 := d0) (weN S i) (weN S i) (Nat.le_refl _) (by omega)) rfl rfl (ex_i ?_)
              refine a_V2v (pc := 121) 8 dX9_gather_121 lcX9_allow lX9_104 rfl rfl rfl (fit_of hR (by omega) rfl) (c_allow_8 (d0 := d0) L a e2 (vlA O T p i) (spn (weN S i) (weN S i)) hL ((hF2 8 (by decide)).trans h8) e32 h92 hseg2 (spn_lt _ _ (Nat.le_refl _) (by omega)) (Or.inl (by omega))) rfl rfl (fun S' g' hS hp => ?_)
              obtain ⟨rfl, a1, a2, a3, e', a4, a5, a6, a7, a8⟩ := hp
              refine a_iinc (pc := 124) (ls' := [_, _, _, _, _, _, _, _]) (nI 1) dX9_gather_124 (by decide) rfl (Nat.le_of_ble_eq_true rfl) rfl ?_
              try rw [nI_add]
              refine a_goto (pc := 127) 45 dX9_gather_127 (by decide) ?_
              refine ih (i + 1) (by omega) _ e' (weN S i + 1) _ _ (hf2.tr a1) (fun k hk => (a2 k hk).trans (hF2 k hk)) (fun j hj => ⟨(a3 j hj).1.trans (hlow2 j hj).1, (a3 j hj).2.trans (hlow2 j hj).2⟩) a4 (a8.imp (fun ep hep v => ?_)) (Or.inr ⟨i, by omega, c2, rfl⟩) (fun k hk hk2 => ?_) (fun ep hep => ?_) (Or.inr ⟨by omega, by omega, a7⟩)
              · rw [spn_bit (Nat.le_refl _), decide_eq_true_iff, ← gR_add c2]
                constructor
                · rintro (z | ⟨z1, z2, z3⟩)
                  · exact Or.inl z
                  · exact Or.inr ⟨z1, by omega⟩
                · rintro (z | ⟨z1, z2⟩)
                  · exact Or.inl z
                  · exact Or.inr ⟨z1, by omega, by omega⟩
              · have := weN_mono S (j := k) (k := i) (by omega)
                omega
              · rw [bsR, if_pos ⟨c2, by omega⟩]
            have hneE' : ne ≤ E := by
              rcases i6 with z | ⟨k, k1, k2, k3⟩
              · omega
              · have := hneE k (by omega) k2
                omega
            refine a_icmp_ltN (pc := 83) 105 dX9_gather_83 (by decide) (by omega) (by omega) (fun c3 => ?_) (fun c3 => ?_)
            · have hne1 : ne = weN S i + 1 := by
                rcases i6 with z | ⟨k, k1, k2, k3⟩
                · omega
                · have := weN_mono S (j := k) (k := i) (by omega)
                  omega
              subst hne1
              refine low g1 e sd hf1 hF1 hlow h91 hseg ?_
              rcases i9 with ⟨z1, z2, z3⟩ | ⟨z1, z2, z3⟩
              · omega
              · exact z2
            · refine a_aload_n (pc := 86) dX9_gather_86 rfl ?_
              refine a_iload (pc := 87) dX9_gather_87 rfl ?_
              refine a_iload (pc := 89) dX9_gather_89 rfl ?_
              refine a_iload (pc := 91) dX9_gather_91 rfl ?_
              refine a_S2i (pc := 93) dX9_gather_93 lcX9_span lX9_83 (fit_of hR (by omega) rfl) (c_span (d0 := d0) ne (weN S i) c3 (by omega)) rfl rfl (ex_i ?_)
              refine a_V2v (pc := 96) 8 dX9_gather_96 lcX9_allow lX9_104 rfl rfl rfl (fit_of hR (by omega) rfl) (c_allow_8 (d0 := d0) L a e sd (spn ne (weN S i)) hL ((hF1 8 (by decide)).trans h8) e3 h91 hseg (spn_lt _ _ c3 (by omega)) (i9.elim (fun z => Or.inl (by omega)) (fun z => Or.inr z.2.2))) rfl rfl (fun S' g' hS hp => ?_)
              obtain ⟨rfl, a1, a2, a3, e', a4, a5, a6, a7, a8⟩ := hp
              refine a_iload (pc := 99) dX9_gather_99 rfl ?_
              refine a_iconst (pc := 101) (nI 1) dX9_gather_101 (by decide) ?_
              refine a_iadd (pc := 102) dX9_gather_102 ?_
              try rw [nI_add]
              refine a_istore (pc := 103) (ls' := [_, _, _, _, _, _, _, _]) dX9_gather_103 (Nat.le_of_ble_eq_true rfl) rfl ?_
              refine low _ e' _ (hf1.tr a1) (fun k hk => (a2 k hk).trans (hF1 k hk)) (fun j hj => ⟨(a3 j hj).1.trans (hlow j hj).1, (a3 j hj).2.trans (hlow j hj).2⟩) a4 (a8.imp (fun ep hep v => ?_)) ?_
              · rw [spn_bit c3, decide_eq_true_iff, ← gR_gap (P := P) (O := O) (T := T) (ne' := weN S i + 1) i7 (by omega) i8]
                constructor
                · rintro (z | ⟨z1, z2, z3⟩)
                  · exact Or.inl z
                  · exact Or.inr ⟨z1, z2, by omega⟩
                · rintro (z | ⟨z1, z2, z3⟩)
                  · exact Or.inl z
                  · exact Or.inr ⟨z1, z2, by omega⟩
              · rcases i9 with ⟨z1, z2, z3⟩ | ⟨z1, z2, z3⟩
                · omega
                · rw [a6 z3]
                  exact z2
          · have hmt : mtc S (nI (p / 2)) (i + 1) = mtc S (nI (p / 2)) i := by rw [mtc, if_neg c2, Nat.add_zero]
            refine a_goto (pc := 67) 124 dX9_gather_67 (by decide) ?_
            refine a_iinc (pc := 124) (ls' := [_, _, _, _, _, _, _, _]) (nI 1) dX9_gather_124 (by decide) rfl (Nat.le_of_ble_eq_true rfl) rfl ?_
            try rw [nI_add]
            refine a_goto (pc := 127) 45 dX9_gather_127 (by decide) ?_
            refine ih (i + 1) (by omega) g1 e ne sd _ hf1 hF1 hlow h91 (hseg.imp (fun ep hep v => gR_skip c2)) (i6.imp id (fun ⟨k, k1, k2⟩ => ⟨k, by omega, k2⟩)) (fun k hk hk2 => ?_) (fun ep hep => ?_) (by rw [hmt]; exact i9)
            · by_cases z : k = i
              · rw [z] at hk2
                exact absurd hk2 c2
              · exact i7 k (by omega) hk2
            · rw [bsR, if_neg (fun z => c2 z.1)]
              exact i8 ep hep
    refine loop n 0 (by omega) g0 a 0 (P p) _ (Fr.rf _ g0) (fun k _ => f0.f (by decide) k) (fun j _ => ⟨congrFun (f0.a (by decide)) j, congrFun (f0.a (by decide)) j⟩) ((f0.f (by decide) 9).trans h9) ?_ (Or.inl rfl) (fun k hk => absurd hk (by omega)) (fun ep _ => rfl) (Or.inl ⟨rfl, rfl, rfl⟩)
    refine ⟨⟨Nat.le_refl _, by omega⟩, fun i j h1 h2 h3 => by omega, fun j h1 h2 => by omega, fun ep hep v => ⟨fun z => absurd z.1 (by omega), fun ⟨j, j1, j2, _⟩ => by omega⟩⟩
  refine a_iload_n (pc := 0) dX9_gather_0 rfl ?_
  refine a_iconst (pc := 1) (nI 1) dX9_gather_1 (by decide) ?_
  refine a_iand (pc := 2) dX9_gather_2 ?_
  rw [and_1]
  refine a_if_neN (pc := 3) 13 dX9_gather_3 (by decide) (by omega) (fun c1 => ?_) (fun c1 => ?_)
  · refine a_aload_n (pc := 13) dX9_gather_13 rfl ?_
    refine a_gr (pc := 14) dX9_gather_14 fX9_92 rfl ?_
    exact main 6 (by omega) (by decide) (fun k hk => by rw [vlA, if_neg c1]; exact (hen k hk).2.2.1)
  · refine a_aload_n (pc := 6) dX9_gather_6 rfl ?_
    refine a_gr (pc := 7) dX9_gather_7 fX9_89 rfl ?_
    refine a_goto (pc := 10) 17 dX9_gather_10 (by decide) ?_
    exact main 5 (by omega) (by decide) (fun k hk => by rw [vlA, if_pos c1]; exact (hen k hk).2.1)
set_option maxHeartbeats 1000000 in
set_option maxRecDepth 100000 in
theorem c_gather_34 {d0 kd kp rp : Nat} {g : GH} (q : Qd) (hq : CD 27 g q) (p L a E : Nat) (hp : p < 32) (hL : L < 32) (h8 : gF g 34 8 = nI L) (h9 : gF g 34 9 = nI a) (h10 : gF g 34 10 = nI E) (hE : E = max (epc (qS q.2) q.2.length) 1) (hE30 : E ≤ 30) (ha : a + 1 + mtc (qS q.2) (nI (p / 2)) q.2.length ≤ 152) : ACv mX9_gather (d0 + 1) (SS kd kp rp) g [.ref 34, .ref 27, .int (nI p)] (fun S' g' => S' = SS kd kp rp ∧ Fr [34, 36, 37, 38, 39] g g' ∧ (∀ k, k ≠ 8 → k ≠ 9 → gF g' 34 k = gF g 34 k) ∧ (∀ j, j < a → gA g' 38 j = gA g 38 j ∧ gA g' 39 j = gA g 39 j) ∧ (∀ l, l < L → gA g' 36 l = gA g 36 l ∧ gA g' 37 l = gA g 37 l) ∧ gA g' 37 L = nI a ∧ ∃ e1, a ≤ e1 ∧ e1 ≤ a + 1 + mtc (qS q.2) (nI (p / 2)) q.2.length ∧ SegD 34 g' a e1 (fun ep v => ep < E ∧ inA q.1 (qS q.2) (qO q.2) (qT q.2) q.2.length ep p v) ∧ ((e1 ≤ a + 1 ∧ gF g' 34 8 = nI L ∧ gF g' 34 9 = nI a) ∨ (a + 1 < e1 ∧ gF g' 34 8 = nI (L + 1) ∧ gF g' 34 9 = nI e1 ∧ gA g' 36 L = nI p ∧ gA g' 37 (L + 1) = nI e1))) := by
  obtain ⟨⟨h6, h60, -⟩, hpl, -, hen, -⟩ := id hq
  have hsec := hq.sec
  generalize hn : q.2.length = n at *
  generalize hS : qS q.2 = S at *
  generalize hO : qO q.2 = O at *
  generalize hT : qT q.2 = T at *
  generalize hP : q.1 = P at *
  have hneE : ∀ k, k < n → S k = nI (p / 2) → weN S k + 1 ≤ E := by
    intro k hk he
    have := ep_lt S hk (by rw [he]; exact nI_m1 (by omega))
    omega
  refine ACv.of lcX9_gather rfl rfl (fun X Q ad hR ret => ?_)
  refine AW_ls (ls' := [_, _, _, _, _, _, _, _]) rfl ?_
  have main : ∀ gv, (gv = 30 + 0 ∨ gv = 31 ∨ gv = 32) → gv ≠ 30 → (∀ k, k < n → gA g gv k = vlA O T p k) → AW mX9_gather X Q ad 0 0 (conc (SS kd kp rp) g) 17 [some (.ref 34), some (.ref 27), some (.int (nI p)), none, none, none, none, none] [.ref gv] := by
    intro gv hgv hgv3 hgiv
    have hgv : gv = 31 ∨ gv = 32 := by omega
    have hgvF : gv ∉ [34, 38, 39] := by rcases hgv with rfl | rfl <;> decide
    have hgvL : gv ≠ 37 := by omega
    refine a_astore_n (pc := 17) (ls' := [_, _, _, _, _, _, _, _]) dX9_gather_17 (Nat.le_of_ble_eq_true rfl) rfl ?_
    refine a_aload_n (pc := 18) dX9_gather_18 rfl ?_
    refine a_gr (pc := 19) dX9_gather_19 fX9_70 rfl ?_
    refine a_iload_n (pc := 22) dX9_gather_22 rfl ?_
    refine a_ial (pc := 23) _ dX9_gather_23 rfl rfl (by omega) ?_
    rw [hpl p hp]
    refine a_istore (pc := 24) (ls' := [_, _, _, _, _, _, _, _]) dX9_gather_24 (Nat.le_of_ble_eq_true rfl) rfl ?_
    refine a_iconst (pc := 26) (nI 0) dX9_gather_26 (by decide) ?_
    refine a_istore (pc := 27) (ls' := [_, _, _, _, _, _, _, _]) dX9_gather_27 (Nat.le_of_ble_eq_true rfl) rfl ?_
    refine a_aload_n (pc := 29) dX9_gather_29 rfl ?_
    refine a_gr (pc := 30) dX9_gather_30 fX9_18 rfl ?_
    refine a_aload_n (pc := 33) dX9_gather_33 rfl ?_
    refine a_gi (pc := 34) dX9_gather_34 fX9_36 rfl ?_
    rw [h8]
    refine a_aload_n (pc := 37) dX9_gather_37 rfl ?_
    refine a_gi (pc := 38) dX9_gather_38 fX9_40 rfl ?_
    rw [h9]
    refine a_ast (pc := 41) _ dX9_gather_41 rfl rfl (by omega) ?_
    refine a_iconst (pc := 42) (nI 0) dX9_gather_42 (by decide) ?_
    refine a_istore (pc := 43) (ls' := [_, _, _, _, _, _, _, _]) dX9_gather_43 (Nat.le_of_ble_eq_true rfl) rfl ?_
    generalize hg0 : pA g 37 (upd (gA g 37) L (nI a)) = g0
    have f0 : Fr [37] g g0 := by
      rw [← hg0]
      exact (Fr.rf _ g).sA (by decide) _
    have tail : ∀ (g1 : GH) (e : Nat) (x4 x5 x6 : Int32) (w7 : Option Value), Fr [34, 38, 39] g0 g1 → (∀ k, k ≠ 9 → gF g1 34 k = gF g 34 k) → (∀ j, j < a → gA g1 38 j = gA g 38 j ∧ gA g1 39 j = gA g 39 j) → gF g1 34 9 = nI e → e ≤ a + 1 + mtc S (nI (p / 2)) n → SegD 34 g1 a e (fun ep v => ep < E ∧ inA P S O T n ep p v) → AW mX9_gather X Q ad 0 0 (conc (SS kd kp rp) g1) 156 [some (.ref 34), some (.ref 27), some (.int (nI p)), some (.ref gv), some (.int x4), some (.int x5), some (.int x6), w7] [] := by
      intro g1 e x4 x5 x6 w7 hf1 hF1 hlow h91 hle hseg
      have hae := hseg.1.1
      have e8 : gF g1 34 8 = nI L := (hF1 8 (by decide)).trans h8
      have e3 : gA g1 37 L = nI a := by
        rw [hf1.a (by decide), ← hg0, gA_pA, if_pos rfl, upd, if_pos rfl]
      have e3l : ∀ l, l < L → gA g1 37 l = gA g 37 l := fun l hl => by
        rw [hf1.a (by decide), ← hg0, gA_pA, if_pos rfl, upd, if_neg (by omega)]
      have e2 : gA g1 36 = gA g 36 := (hf1.a (by decide)).trans (f0.a (by decide))
      have hfr : Fr [34, 36, 37, 38, 39] g g1 := (f0.mono (by decide)).tr (hf1.mono (by decide))
      refine a_aload_n (pc := 156) dX9_gather_156 rfl ?_
      refine a_gi (pc := 157) dX9_gather_157 fX9_40 rfl ?_
      rw [h91]
      refine a_aload_n (pc := 160) dX9_gather_160 rfl ?_
      refine a_gr (pc := 161) dX9_gather_161 fX9_18 rfl ?_
      refine a_aload_n (pc := 164) dX9_gather_164 rfl ?_
      refine a_gi (pc := 165) dX9_gather_165 fX9_36 rfl ?_
      rw [e8]
      refine a_ial (pc := 168) _ dX9_gather_168 rfl rfl (by omega) ?_
      rw [e3]
      refine a_isub (pc := 169) dX9_gather_169 ?_
      rw [pk_sub hae]
      refine a_iconst (pc := 170) (nI 1) dX9_gather_170 (by decide) ?_
      refine a_icmp_leN (pc := 171) 210 dX9_gather_171 (by decide) (by omega) (by omega) (fun c1 => ?_) (fun c1 => ?_)
      · refine a_aload_n (pc := 210) dX9_gather_210 rfl ?_
        refine a_aload_n (pc := 211) dX9_gather_211 rfl ?_
        refine a_gr (pc := 212) dX9_gather_212 fX9_18 rfl ?_
        refine a_aload_n (pc := 215) dX9_gather_215 rfl ?_
        refine a_gi (pc := 216) dX9_gather_216 fX9_36 rfl ?_
        rw [e8]
        refine a_ial (pc := 219) _ dX9_gather_219 rfl rfl (by omega) ?_
        rw [e3]
        refine a_pi (pc := 220) dX9_gather_220 fX9_40 rfl ?_
        refine ret _ _ 223 _ dX9_gather_223 rfl ?_
        refine ⟨rfl, hfr.sF (by decide) _ _, fun k k8 k9 => ?_, hlow, fun l hl => ⟨by rw [gA_pF, e2], e3l l hl⟩, e3, e, hae, hle, hseg, Or.inl ⟨by omega, ?_, ?_⟩⟩
        · rw [gF_pF, if_neg (fun z => k9 z.2)]
          exact hF1 k k9
        · simp only [gF_pF, gF_pA, gF_pL, gA_pF, gA_pA, gA_pL, gL_pF, gL_pA, gL_pL, reduceIte, Nat.reduceEqDiff, and_false, false_and, and_true, true_and, and_self, e8]
        · simp only [gF_pF, gF_pA, gF_pL, gA_pF, gA_pA, gA_pL, gL_pF, gL_pA, gL_pL, reduceIte, Nat.reduceEqDiff, and_false, false_and, and_true, true_and, and_self]
      · refine a_aload_n (pc := 174) dX9_gather_174 rfl ?_
        refine a_gr (pc := 175) dX9_gather_175 fX9_15 rfl ?_
        refine a_aload_n (pc := 178) dX9_gather_178 rfl ?_
        refine a_gi (pc := 179) dX9_gather_179 fX9_36 rfl ?_
        rw [e8]
        refine a_iload_n (pc := 182) dX9_gather_182 rfl ?_
        refine a_ast (pc := 183) _ dX9_gather_183 rfl rfl (by omega) ?_
        refine a_aload_n (pc := 184) dX9_gather_184 rfl ?_
        refine a_dup (pc := 185) dX9_gather_185 rfl ?_
        refine a_gi (pc := 186) dX9_gather_186 fX9_36 rfl ?_
        rw [show gF (pA g1 36 (upd (gA g1 36) L (nI p))) 34 8 = nI L from e8]
        refine a_iconst (pc := 189) (nI 1) dX9_gather_189 (by decide) ?_
        refine a_iadd (pc := 190) dX9_gather_190 ?_
        try rw [nI_add]
        refine a_pi (pc := 191) dX9_gather_191 fX9_36 rfl ?_
        refine a_aload_n (pc := 194) dX9_gather_194 rfl ?_
        refine a_gr (pc := 195) dX9_gather_195 fX9_18 rfl ?_
        refine a_aload_n (pc := 198) dX9_gather_198 rfl ?_
        refine a_gi (pc := 199) dX9_gather_199 fX9_36 rfl ?_
        simp only [gF_pF, gF_pA, gF_pL, gA_pF, gA_pA, gA_pL, gL_pF, gL_pA, gL_pL, reduceIte, Nat.reduceEqDiff, and_false, false_and, and_true, true_and, and_self]
        refine a_aload_n (pc := 202) dX9_gather_202 rfl ?_
        refine a_gi (pc := 203) dX9_gather_203 fX9_40 rfl ?_
        simp only [gF_pF, gF_pA, gF_pL, gA_pF, gA_pA, gA_pL, gL_pF, gL_pA, gL_pL, reduceIte, Nat.reduceEqDiff, and_false, false_and, and_true, true_and, and_self, h91]
        refine a_ast (pc := 206) _ dX9_gather_206 rfl rfl (by omega) ?_
        refine a_goto (pc := 207) 223 dX9_gather_207 (by decide) ?_
        refine ret _ _ 223 _ dX9_gather_223 rfl ?_
        refine ⟨rfl, ((hfr.sA (by decide) _).sF (by decide) _ _).sA (by decide) _, fun k k8 k9 => ?_, fun j hj => ?_, fun l hl => ⟨?_, ?_⟩, ?_, e, hae, hle, ?_, Or.inr ⟨by omega, ?_, ?_, ?_, ?_⟩⟩
        · rw [gF_pA, gF_pF, if_neg (fun z => k8 z.2)]
          exact hF1 k k9
        · simp only [gF_pF, gF_pA, gF_pL, gA_pF, gA_pA, gA_pL, gL_pF, gL_pA, gL_pL, reduceIte, Nat.reduceEqDiff, and_false, false_and, and_true, true_and, and_self]
          exact hlow j hj
        · simp only [gF_pF, gF_pA, gF_pL, gA_pF, gA_pA, gA_pL, gL_pF, gL_pA, gL_pL, reduceIte, Nat.reduceEqDiff, and_false, false_and, and_true, true_and, and_self, upd]
          rw [if_neg (by omega), e2]
        · simp only [gF_pF, gF_pA, gF_pL, gA_pF, gA_pA, gA_pL, gL_pF, gL_pA, gL_pL, reduceIte, Nat.reduceEqDiff, and_false, false_and, and_true, true_and, and_self, upd]
          rw [if_neg (by omega)]
          exact e3l l hl
        · simp only [gF_pF, gF_pA, gF_pL, gA_pF, gA_pA, gA_pL, gL_pF, gL_pA, gL_pL, reduceIte, Nat.reduceEqDiff, and_false, false_and, and_true, true_and, and_self, upd]
          rw [if_neg (by omega)]
          exact e3
        · exact hseg
        · simp only [gF_pF, gF_pA, gF_pL, gA_pF, gA_pA, gA_pL, gL_pF, gL_pA, gL_pL, reduceIte, Nat.reduceEqDiff, and_false, false_and, and_true, true_and, and_self]
        · simp only [gF_pF, gF_pA, gF_pL, gA_pF, gA_pA, gA_pL, gL_pF, gL_pA, gL_pL, reduceIte, Nat.reduceEqDiff, and_false, false_and, and_true, true_and, and_self, h91]
        · simp only [gF_pF, gF_pA, gF_pL, gA_pF, gA_pA, gA_pL, gL_pF, gL_pA, gL_pL, reduceIte, Nat.reduceEqDiff, and_false, false_and, and_true, true_and, and_self, upd]
        · simp only [gF_pF, gF_pA, gF_pL, gA_pF, gA_pA, gA_pL, gL_pF, gL_pA, gL_pL, reduceIte, Nat.reduceEqDiff, and_false, false_and, and_true, true_and, and_self, upd]
    have loop : ∀ t i, n = i + t → ∀ (g1 : GH) (e ne : Nat) (sd : Int32) (w7 : Option Value), Fr [34, 38, 39] g0 g1 → (∀ k, k ≠ 9 → gF g1 34 k = gF g 34 k) → (∀ j, j < a → gA g1 38 j = gA g 38 j ∧ gA g1 39 j = gA g 39 j) → gF g1 34 9 = nI e → SegD 34 g1 a e (gR P S O T p i ne) → (ne = 0 ∨ ∃ k, k < i ∧ S k = nI (p / 2) ∧ ne = weN S k + 1) → (∀ k, k < i → S k = nI (p / 2) → weN S k < ne) → (∀ ep, ne ≤ ep → bsR P S O T ep p i = sd) → ((e = a ∧ ne = 0 ∧ mtc S (nI (p / 2)) i = 0) ∨ (1 ≤ mtc S (nI (p / 2)) i ∧ e ≤ a + 1 + mtc S (nI (p / 2)) i ∧ ∃ j, a ≤ j ∧ j < e ∧ gA g1 38 j = sd)) → AW mX9_gather X Q ad 0 0 (conc (SS kd kp rp) g1) 45 [some (.ref 34), some (.ref 27), some (.int (nI p)), some (.ref gv), some (.int sd), some (.int (nI ne)), some (.int (nI i)), w7] [] := by
      intro t
      induction t with
      | zero =>
        intro i hi g1 e ne sd w7 hf1 hF1 hlow h91 hseg i6 i7 i8 i9
        obtain rfl : i = n := by omega
        have e3 : gA g1 37 L = nI a := by
          rw [hf1.a (by decide), ← hg0, gA_pA, if_pos rfl, upd, if_pos rfl]
        have hneE' : ne ≤ E := by
          rcases i6 with z | ⟨k, k1, k2, k3⟩
          · omega
          · have := hneE k k1 k2
            omega
        refine a_iload (pc := 45) dX9_gather_45 rfl ?_
        refine a_aload_n (pc := 47) dX9_gather_47 rfl ?_
        refine a_gi (pc := 48) dX9_gather_48 fX9_95 rfl ?_
        rw [show gF g1 27 6 = nI i from (hf1.f (by decide) 6).trans ((f0.f (by decide) 6).trans h6)]
        refine a_icmp_geN (pc := 51) 130 dX9_gather_51 (by decide) (by omega) (by omega) (fun c1 => ?_) (fun c1 => ?_)
        · refine a_iload (pc := 130) dX9_gather_130 rfl ?_
          refine a_aload_n (pc := 132) dX9_gather_132 rfl ?_
          refine a_gi (pc := 133) dX9_gather_133 fX9_43 rfl ?_
          rw [show gF g1 34 10 = nI E from (hF1 10 (by decide)).trans h10]
          refine a_icmp_geN (pc := 136) 156 dX9_gather_136 (by decide) (by omega) (by omega) (fun c2 => ?_) (fun c2 => ?_)
          · obtain rfl : ne = E := by omega
            refine tail g1 e _ _ _ _ hf1 hF1 hlow h91 ?_ hseg
            rcases i9 with ⟨z1, z2, z3⟩ | ⟨z1, z2, -⟩
            · omega
            · exact z2
          · refine a_aload_n (pc := 139) dX9_gather_139 rfl ?_
            refine a_iload (pc := 140) dX9_gather_140 rfl ?_
            refine a_iload (pc := 142) dX9_gather_142 rfl ?_
            refine a_aload_n (pc := 144) dX9_gather_144 rfl ?_
            refine a_gi (pc := 145) dX9_gather_145 fX9_43 rfl ?_
            rw [show gF g1 34 10 = nI E from (hF1 10 (by decide)).trans h10]
            refine a_iconst (pc := 148) (nI 1) dX9_gather_148 (by decide) ?_
            refine a_isub (pc := 149) dX9_gather_149 ?_
            rw [pk_sub (by omega : 1 ≤ E)]
            refine a_S2i (pc := 150) dX9_gather_150 lcX9_span lX9_83 (fit_of hR (by omega) rfl) (c_span (d0 := d0) ne (E - 1) (by omega) (by omega)) rfl rfl (ex_i ?_)
            refine a_V2v (pc := 153) 8 dX9_gather_153 lcX9_allow lX9_104 rfl rfl rfl (fit_of hR (by omega) rfl) (c_allow_34 (d0 := d0) L a e sd (spn ne (E - 1)) hL ((hF1 8 (by decide)).trans h8) e3 h91 hseg (spn_lt _ _ (by omega) (by omega)) (i9.elim (fun z => Or.inl (by omega)) (fun z => Or.inr z.2.2))) rfl rfl (fun S' g' hS hp => ?_)
            obtain ⟨rfl, a1, a2, a3, e', a4, a5, a6, a7, a8⟩ := hp
            refine tail _ e' _ _ _ _ (hf1.tr a1) (fun k hk => (a2 k hk).trans (hF1 k hk)) (fun j hj => ⟨(a3 j hj).1.trans (hlow j hj).1, (a3 j hj).2.trans (hlow j hj).2⟩) a4 ?_ (a8.imp (fun ep hep v => ?_))
            · rcases i9 with ⟨z1, z2, z3⟩ | ⟨z1, z2, z3⟩
              · omega
              · rw [a6 z3]
                exact z2
            · rw [spn_bit (by omega), decide_eq_true_iff]
              have := gR_gap (P := P) (O := O) (T := T) (ep := ep) (v := v) i7 hneE' i8
              rw [← gR_all, ← this]
              constructor
              · rintro (z | ⟨z1, z2, z3⟩)
                · exact Or.inl z
                · exact Or.inr ⟨z1, z2, by omega⟩
              · rintro (z | ⟨z1, z2, z3⟩)
                · exact Or.inl z
                · exact Or.inr ⟨z1, z2, by omega⟩
        · exact absurd c1 (by omega)
      | succ t ih =>
        intro i hi g1 e ne sd w7 hf1 hF1 hlow h91 hseg i6 i7 i8 i9
        have e3 : gA g1 37 L = nI a := by
          rw [hf1.a (by decide), ← hg0, gA_pA, if_pos rfl, upd, if_pos rfl]
        obtain ⟨hen3, hen4, hen5, hen6⟩ := hen i (by omega)
        refine a_iload (pc := 45) dX9_gather_45 rfl ?_
        refine a_aload_n (pc := 47) dX9_gather_47 rfl ?_
        refine a_gi (pc := 48) dX9_gather_48 fX9_95 rfl ?_
        rw [show gF g1 27 6 = nI n from (hf1.f (by decide) 6).trans ((f0.f (by decide) 6).trans h6)]
        refine a_icmp_geN (pc := 51) 130 dX9_gather_51 (by decide) (by omega) (by omega) (fun c1 => ?_) (fun c1 => ?_)
        · exact absurd c1 (by omega)
        · refine a_aload_n (pc := 54) dX9_gather_54 rfl ?_
          refine a_gr (pc := 55) dX9_gather_55 fX9_98 rfl ?_
          refine a_iload (pc := 58) dX9_gather_58 rfl ?_
          refine a_ial (pc := 60) _ dX9_gather_60 rfl rfl (by omega) ?_
          rw [show gA g1 30 i = S i from (congrFun ((hf1.a (by decide)).trans (f0.a (by decide))) i).trans hen3]
          refine a_iload_n (pc := 61) dX9_gather_61 rfl ?_
          refine a_iconst (pc := 62) (nI 1) dX9_gather_62 (by decide) ?_
          refine a_ishr (pc := 63) dX9_gather_63 ?_
          rw [shr_1 hp]
          refine a_icmp_eq (pc := 64) 70 dX9_gather_64 (by decide) (fun c2 => ?_) (fun c2 => ?_)
          · have hmi := hneE i (by omega) c2
            have hmt : mtc S (nI (p / 2)) (i + 1) = mtc S (nI (p / 2)) i + 1 := by rw [mtc, if_pos c2]
            have hmn := mtc_mono S (nI (p / 2)) (j := i + 1) (k := n) (by omega)
            refine a_aload_n (pc := 70) dX9_gather_70 rfl ?_
            refine a_gr (pc := 71) dX9_gather_71 fX9_101 rfl ?_
            refine a_iload (pc := 74) dX9_gather_74 rfl ?_
            refine a_ial (pc := 76) _ dX9_gather_76 rfl rfl (by omega) ?_
            rw [show gA g1 33 i = nI (weN S i) from (congrFun ((hf1.a (by decide)).trans (f0.a (by decide))) i).trans (hen6.trans (if_neg (by rw [c2]; exact nI_m1 (by omega))))]
            refine a_istore (pc := 77) (ls' := [_, _, _, _, _, _, _, _]) dX9_gather_77 (Nat.le_of_ble_eq_true rfl) rfl ?_
            refine a_iload (pc := 79) dX9_gather_79 rfl ?_
            refine a_iload (pc := 81) dX9_gather_81 rfl ?_
            have low : ∀ (g2 : GH) (e2 : Nat) (sdx : Int32), Fr [34, 38, 39] g0 g2 → (∀ k, k ≠ 9 → gF g2 34 k = gF g 34 k) → (∀ j, j < a → gA g2 38 j = gA g 38 j ∧ gA g2 39 j = gA g 39 j) → gF g2 34 9 = nI e2 → SegD 34 g2 a e2 (gR P S O T p i (weN S i + 1)) → e2 ≤ a + 1 + mtc S (nI (p / 2)) i → AW mX9_gather X Q ad 0 0 (conc (SS kd kp rp) g2) 105 [some (.ref 34), some (.ref 27), some (.int (nI p)), some (.ref gv), some (.int sdx), some (.int (nI (weN S i + 1))), some (.int (nI i)), some (.int (nI (weN S i)))] [] := by
              intro g2 e2 sdx hf2 hF2 hlow2 h92 hseg2 hcnt
              have e32 : gA g2 37 L = nI a := by
                rw [hf2.a (by decide), ← hg0, gA_pA, if_pos rfl, upd, if_pos rfl]
              refine a_aload_n (pc := 105) dX9_gather_105 rfl ?_
              refine a_iload (pc := 106) dX9_gather_106 rfl ?_
              refine a_ial (pc := 108) i dX9_gather_108 (m := 60) (by rcases hgv with rfl | rfl <;> rfl) rfl (by omega) ?_
              rw [show gA g2 gv i = vlA O T p i from (congrFun ((hf2.a hgvF).trans (f0.a (by simpa using hgvL))) i).trans (hgiv i (by omega))]
              refine a_istore (pc := 109) (ls' := [_, _, _, _, _, _, _, _]) dX9_gather_109 (Nat.le_of_ble_eq_true rfl) rfl ?_
              refine a_aload_n (pc := 111) dX9_gather_111 rfl ?_
              refine a_iload (pc := 112) dX9_gather_112 rfl ?_
              refine a_iload (pc := 114) dX9_gather_114 rfl ?_
              refine a_iload (pc := 116) dX9_gather_116 rfl ?_
              refine a_S2i (pc := 118) dX9_gather_118 lcX9_span lX9_83 (fit_of hR (by omega) rfl) (c_span (d0 := d0) (weN S i) (weN S i) (Nat.le_refl _) (by omega)) rfl rfl (ex_i ?_)
              refine a_V2v (pc := 121) 8 dX9_gather_121 lcX9_allow lX9_104 rfl rfl rfl (fit_of hR (by omega) rfl) (c_allow_34 (d0 := d0) L a e2 (vlA O T p i) (spn (weN S i) (weN S i)) hL ((hF2 8 (by decide)).trans h8) e32 h92 hseg2 (spn_lt _ _ (Nat.le_refl _) (by omega)) (Or.inl (by omega))) rfl rfl (fun S' g' hS hp => ?_)
              obtain ⟨rfl, a1, a2, a3, e', a4, a5, a6, a7, a8⟩ := hp
              refine a_iinc (pc := 124) (ls' := [_, _, _, _, _, _, _, _]) (nI 1) dX9_gather_124 (by decide) rfl (Nat.le_of_ble_eq_true rfl) rfl ?_
              try rw [nI_add]
              refine a_goto (pc := 127) 45 dX9_gather_127 (by decide) ?_
              refine ih (i + 1) (by omega) _ e' (weN S i + 1) _ _ (hf2.tr a1) (fun k hk => (a2 k hk).trans (hF2 k hk)) (fun j hj => ⟨(a3 j hj).1.trans (hlow2 j hj).1, (a3 j hj).2.trans (hlow2 j hj).2⟩) a4 (a8.imp (fun ep hep v => ?_)) (Or.inr ⟨i, by omega, c2, rfl⟩) (fun k hk hk2 => ?_) (fun ep hep => ?_) (Or.inr ⟨by omega, by omega, a7⟩)
              · rw [spn_bit (Nat.le_refl _), decide_eq_true_iff, ← gR_add c2]
                constructor
                · rintro (z | ⟨z1, z2, z3⟩)
                  · exact Or.inl z
                  · exact Or.inr ⟨z1, by omega⟩
                · rintro (z | ⟨z1, z2⟩)
                  · exact Or.inl z
                  · exact Or.inr ⟨z1, by omega, by omega⟩
              · have := weN_mono S (j := k) (k := i) (by omega)
                omega
              · rw [bsR, if_pos ⟨c2, by omega⟩]
            have hneE' : ne ≤ E := by
              rcases i6 with z | ⟨k, k1, k2, k3⟩
              · omega
              · have := hneE k (by omega) k2
                omega
            refine a_icmp_ltN (pc := 83) 105 dX9_gather_83 (by decide) (by omega) (by omega) (fun c3 => ?_) (fun c3 => ?_)
            · have hne1 : ne = weN S i + 1 := by
                rcases i6 with z | ⟨k, k1, k2, k3⟩
                · omega
                · have := weN_mono S (j := k) (k := i) (by omega)
                  omega
              subst hne1
              refine low g1 e sd hf1 hF1 hlow h91 hseg ?_
              rcases i9 with ⟨z1, z2, z3⟩ | ⟨z1, z2, z3⟩
              · omega
              · exact z2
            · refine a_aload_n (pc := 86) dX9_gather_86 rfl ?_
              refine a_iload (pc := 87) dX9_gather_87 rfl ?_
              refine a_iload (pc := 89) dX9_gather_89 rfl ?_
              refine a_iload (pc := 91) dX9_gather_91 rfl ?_
              refine a_S2i (pc := 93) dX9_gather_93 lcX9_span lX9_83 (fit_of hR (by omega) rfl) (c_span (d0 := d0) ne (weN S i) c3 (by omega)) rfl rfl (ex_i ?_)
              refine a_V2v (pc := 96) 8 dX9_gather_96 lcX9_allow lX9_104 rfl rfl rfl (fit_of hR (by omega) rfl) (c_allow_34 (d0 := d0) L a e sd (spn ne (weN S i)) hL ((hF1 8 (by decide)).trans h8) e3 h91 hseg (spn_lt _ _ c3 (by omega)) (i9.elim (fun z => Or.inl (by omega)) (fun z => Or.inr z.2.2))) rfl rfl (fun S' g' hS hp => ?_)
              obtain ⟨rfl, a1, a2, a3, e', a4, a5, a6, a7, a8⟩ := hp
              refine a_iload (pc := 99) dX9_gather_99 rfl ?_
              refine a_iconst (pc := 101) (nI 1) dX9_gather_101 (by decide) ?_
              refine a_iadd (pc := 102) dX9_gather_102 ?_
              try rw [nI_add]
              refine a_istore (pc := 103) (ls' := [_, _, _, _, _, _, _, _]) dX9_gather_103 (Nat.le_of_ble_eq_true rfl) rfl ?_
              refine low _ e' _ (hf1.tr a1) (fun k hk => (a2 k hk).trans (hF1 k hk)) (fun j hj => ⟨(a3 j hj).1.trans (hlow j hj).1, (a3 j hj).2.trans (hlow j hj).2⟩) a4 (a8.imp (fun ep hep v => ?_)) ?_
              · rw [spn_bit c3, decide_eq_true_iff, ← gR_gap (P := P) (O := O) (T := T) (ne' := weN S i + 1) i7 (by omega) i8]
                constructor
                · rintro (z | ⟨z1, z2, z3⟩)
                  · exact Or.inl z
                  · exact Or.inr ⟨z1, z2, by omega⟩
                · rintro (z | ⟨z1, z2, z3⟩)
                  · exact Or.inl z
                  · exact Or.inr ⟨z1, z2, by omega⟩
              · rcases i9 with ⟨z1, z2, z3⟩ | ⟨z1, z2, z3⟩
                · omega
                · rw [a6 z3]
                  exact z2
          · have hmt : mtc S (nI (p / 2)) (i + 1) = mtc S (nI (p / 2)) i := by rw [mtc, if_neg c2, Nat.add_zero]
            refine a_goto (pc := 67) 124 dX9_gather_67 (by decide) ?_
            refine a_iinc (pc := 124) (ls' := [_, _, _, _, _, _, _, _]) (nI 1) dX9_gather_124 (by decide) rfl (Nat.le_of_ble_eq_true rfl) rfl ?_
            try rw [nI_add]
            refine a_goto (pc := 127) 45 dX9_gather_127 (by decide) ?_
            refine ih (i + 1) (by omega) g1 e ne sd _ hf1 hF1 hlow h91 (hseg.imp (fun ep hep v => gR_skip c2)) (i6.imp id (fun ⟨k, k1, k2⟩ => ⟨k, by omega, k2⟩)) (fun k hk hk2 => ?_) (fun ep hep => ?_) (by rw [hmt]; exact i9)
            · by_cases z : k = i
              · rw [z] at hk2
                exact absurd hk2 c2
              · exact i7 k (by omega) hk2
            · rw [bsR, if_neg (fun z => c2 z.1)]
              exact i8 ep hep
    refine loop n 0 (by omega) g0 a 0 (P p) _ (Fr.rf _ g0) (fun k _ => f0.f (by decide) k) (fun j _ => ⟨congrFun (f0.a (by decide)) j, congrFun (f0.a (by decide)) j⟩) ((f0.f (by decide) 9).trans h9) ?_ (Or.inl rfl) (fun k hk => absurd hk (by omega)) (fun ep _ => rfl) (Or.inl ⟨rfl, rfl, rfl⟩)
    refine ⟨⟨Nat.le_refl _, by omega⟩, fun i j h1 h2 h3 => by omega, fun j h1 h2 => by omega, fun ep hep v => ⟨fun z => absurd z.1 (by omega), fun ⟨j, j1, j2, _⟩ => by omega⟩⟩
  refine a_iload_n (pc := 0) dX9_gather_0 rfl ?_
  refine a_iconst (pc := 1) (nI 1) dX9_gather_1 (by decide) ?_
  refine a_iand (pc := 2) dX9_gather_2 ?_
  rw [and_1]
  refine a_if_neN (pc := 3) 13 dX9_gather_3 (by decide) (by omega) (fun c1 => ?_) (fun c1 => ?_)
  · refine a_aload_n (pc := 13) dX9_gather_13 rfl ?_
    refine a_gr (pc := 14) dX9_gather_14 fX9_92 rfl ?_
    exact main 32 (by omega) (by decide) (fun k hk => by rw [vlA, if_neg c1]; exact (hen k hk).2.2.1)
  · refine a_aload_n (pc := 6) dX9_gather_6 rfl ?_
    refine a_gr (pc := 7) dX9_gather_7 fX9_89 rfl ?_
    refine a_goto (pc := 10) 17 dX9_gather_10 (by decide) ?_
    exact main 31 (by omega) (by decide) (fun k hk => by rw [vlA, if_pos c1]; exact (hen k hk).2.1)
