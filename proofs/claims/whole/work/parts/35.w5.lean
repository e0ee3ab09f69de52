/-- a kept row, written place by place -/
theorem RpM.add {g g' : GH} {rp : Rp} {row : List Int32} (h : RpM g rp) (hl : rp.1 2 < 50) (h98 : ∀ j, j < 7 → gA g' 98 j = if j = 2 then nI (rp.1 2 + 1) else gA g 98 j) (hin : ∀ w, w < 10 → gA g' 100 (10 * rp.1 2 + w) = row.getD w 0) (hout : ∀ i, ¬ (10 * rp.1 2 ≤ i ∧ i < 10 * rp.1 2 + 10) → gA g' 100 i = gA g 100 i) : RpM g' (addBad rp row) := by
  obtain ⟨h1, h2, h3⟩ := h
  have hlen : rp.2.length = rp.1 2 := by omega
  refine ⟨fun j hj => ?_, ?_, ?_⟩
  · rw [h98 j hj]
    by_cases q : j = 2
    · subst q
      rw [if_pos rfl, addBad_2]
    · rw [if_neg q, addBad_t _ _ j q]
      exact h1 j hj
  · rw [addBad_2]
    unfold addBad
    rw [if_pos (by omega), List.length_append, List.length_singleton]
    omega
  · intro i r hr w hw
    have e : (addBad rp row).2 = rp.2 ++ [row] := by
      unfold addBad
      rw [if_pos (by omega)]
    rw [e] at hr
    rcases Nat.lt_or_ge i rp.2.length with q | q
    · rw [List.getElem?_append_left q] at hr
      rw [hout _ (by omega)]
      exact h3 i r hr w hw
    · have hi : i < (rp.2 ++ [row]).length := (List.getElem?_eq_some_iff.mp hr).1
      simp only [List.length_append, List.length_singleton] at hi
      obtain rfl : i = rp.2.length := by omega
      rw [List.getElem?_concat_length] at hr
      cases hr
      rw [hlen]
      exact hin w hw
theorem RpM.add0 {g g' : GH} {rp : Rp} {row : List Int32} (h : RpM g rp) (hl : 50 ≤ rp.1 2) (h98 : ∀ j, j < 7 → gA g' 98 j = if j = 2 then nI (rp.1 2 + 1) else gA g 98 j) (h100 : gA g' 100 = gA g 100) : RpM g' (addBad rp row) := by
  obtain ⟨h1, h2, h3⟩ := h
  have e : (addBad rp row).2 = rp.2 := by
    unfold addBad
    rw [if_neg (by omega)]
  refine ⟨fun j hj => ?_, ?_, ?_⟩
  · rw [h98 j hj]
    by_cases q : j = 2
    · subst q
      rw [if_pos rfl, addBad_2]
    · rw [if_neg q, addBad_t _ _ j q]
      exact h1 j hj
  · rw [addBad_2, e]
    omega
  · intro i r hr w hw
    rw [e] at hr
    rw [h100]
    exact h3 i r hr w hw
theorem RpM.keep {g g' : GH} {rp : Rp} (h : RpM g rp) (h98 : gA g' 98 = gA g 98) (h100 : gA g' 100 = gA g 100) : RpM g' rp := by
  unfold RpM at h ⊢
  rw [h98, h100]
  exact h
set_option maxHeartbeats 1000000 in
set_option maxRecDepth 100000 in
/-- a BAD one is kept: from pc 159 to pc 301 -/
theorem c_moment_bad {kd kp rp : Nat} {X : Cx} {Q : State → Prop} {ad : Nat → Nat} {dd : Nat} (hR : xR X = rmD (dd + 1)) {g : GH} (store i su be : Nat) (r0 : Rp) (cm : Nat → Int64) (hr : RpM g r0) (h2 : r0.1 2 < 10000000) (h0 : r0.1 0 ≤ 1000) (hi : i < 4096) (h32 : gF g 76 32 = nI su) (h33 : gF g 76 33 = nI be) (hcm : ∀ k, k < 3 → gL g 102 k = cm k) (x3 : Int32) (w4 w5 : Option Value)
    (kk : ∀ (g' : GH) (w4 w5 : Option Value), KL g g' → RpM g' (addBad r0 (badRow (r0.1 0) i be su cm)) → AW mX11_moment X Q ad 0 0 (conc (SS kd kp rp) g') 301 [some (.ref 76), some (.int (nI store)), some (.int (nI i)), some (.int x3), w4, w5] []) : AW mX11_moment X Q ad 0 0 (conc (SS kd kp rp) g) 159 [some (.ref 76), some (.int (nI store)), some (.int (nI i)), some (.int x3), w4, w5] [] := by
  have e2 : gA g 98 2 = nI (r0.1 2) := hr.1 2 (by decide)
  have e0 : gA g 98 0 = nI (r0.1 0) := hr.1 0 (by decide)
  have last : ∀ (g1 : GH) (w4 w5 : Option Value), KL g g1 → gA g1 98 = gA g 98 → (∀ g2 : GH, gA g2 100 = gA g1 100 → (∀ j, j < 7 → gA g2 98 j = if j = 2 then nI (r0.1 2 + 1) else gA g 98 j) → RpM g2 (addBad r0 (badRow (r0.1 0) i be su cm))) → AW mX11_moment X Q ad 0 0 (conc (SS kd kp rp) g1) 291 [some (.ref 76), some (.int (nI store)), some (.int (nI i)), some (.int x3), w4, w5] [] := by
    intro g1 w4 w5 hk h98 hfin
    refine a_aload_n (pc := 291) dX11_moment_291 rfl ?_
    refine a_gr (pc := 292) dX11_moment_292 fX11_80 rfl ?_
    refine a_iconst (pc := 295) (nI 2) dX11_moment_295 (by decide) ?_
    refine a_dup2 (pc := 296) dX11_moment_296 rfl rfl ?_
    refine a_ial (pc := 297) _ dX11_moment_297 rfl rfl (by omega) ?_
    rw [h98, e2]
    refine a_iconst (pc := 298) (nI 1) dX11_moment_298 (by decide) ?_
    refine a_iadd (pc := 299) dX11_moment_299 ?_
    try rw [nI_add]
    refine a_ast (pc := 300) _ dX11_moment_300 rfl rfl (by omega) ?_
    refine kk _ _ _ (hk.tr (KL.big _ (by decide))) (hfin _ rfl (fun j hj => ?_))
    simp only [gA_pA, reduceIte, upd, h98]
  refine a_bipush (pc := 159) (nI 10) dX11_moment_159 (by decide) ?_
  refine a_aload_n (pc := 161) dX11_moment_161 rfl ?_
  refine a_gr (pc := 162) dX11_moment_162 fX11_80 rfl ?_
  refine a_iconst (pc := 165) (nI 2) dX11_moment_165 (by decide) ?_
  refine a_ial (pc := 166) _ dX11_moment_166 rfl rfl (by omega) ?_
  rw [e2]
  refine a_imul (pc := 167) dX11_moment_167 ?_
  try rw [pk_mul]
  refine a_istore (pc := 168) (ls' := [_, _, _, _, _, _]) dX11_moment_168 (Nat.le_of_ble_eq_true rfl) rfl ?_
  refine a_aload_n (pc := 170) dX11_moment_170 rfl ?_
  refine a_gr (pc := 171) dX11_moment_171 fX11_80 rfl ?_
  refine a_iconst (pc := 174) (nI 2) dX11_moment_174 (by decide) ?_
  refine a_ial (pc := 175) _ dX11_moment_175 rfl rfl (by omega) ?_
  rw [e2]
  refine a_bipush (pc := 176) (nI 50) dX11_moment_176 (by decide) ?_
  refine a_icmp_geN (pc := 178) 291 dX11_moment_178 (by decide) (by omega) (by omega) (fun c1 => ?_) (fun c1 => ?_)
  · exact last g _ _ (KL.rf g) rfl (fun g2 q1 q2 => hr.add0 c1 q2 q1)
  · refine a_aload_n (pc := 181) dX11_moment_181 rfl ?_
    refine a_gr (pc := 182) dX11_moment_182 fX11_86 rfl ?_
    refine a_iload (pc := 185) dX11_moment_185 rfl ?_
    refine a_aload_n (pc := 187) dX11_moment_187 rfl ?_
    refine a_gr (pc := 188) dX11_moment_188 fX11_80 rfl ?_
    refine a_iconst (pc := 191) (nI 0) dX11_moment_191 (by decide) ?_
    refine a_ial (pc := 192) _ dX11_moment_192 rfl rfl (by omega) ?_
    rw [e0]
    refine a_ast (pc := 193) _ dX11_moment_193 rfl rfl (by omega) ?_
    refine a_aload_n (pc := 194) dX11_moment_194 rfl ?_
    refine a_gr (pc := 195) dX11_moment_195 fX11_86 rfl ?_
    refine a_iload (pc := 198) dX11_moment_198 rfl ?_
    refine a_iconst (pc := 200) (nI 1) dX11_moment_200 (by decide) ?_
    refine a_iadd (pc := 201) dX11_moment_201 ?_
    try rw [nI_add]
    refine a_iload_n (pc := 202) dX11_moment_202 rfl ?_
    refine a_ast (pc := 203) _ dX11_moment_203 rfl rfl (by omega) ?_
    refine a_aload_n (pc := 204) dX11_moment_204 rfl ?_
    refine a_gr (pc := 205) dX11_moment_205 fX11_86 rfl ?_
    refine a_iload (pc := 208) dX11_moment_208 rfl ?_
    refine a_iconst (pc := 210) (nI 2) dX11_moment_210 (by decide) ?_
    refine a_iadd (pc := 211) dX11_moment_211 ?_
    try rw [nI_add]
    refine a_aload_n (pc := 212) dX11_moment_212 rfl ?_
    refine a_gi (pc := 213) dX11_moment_213 fX11_235 rfl ?_
    simp only [gF_pF, gF_pA, gF_pL, gA_pF, gA_pA, gA_pL, gL_pF, gL_pA, gL_pL, reduceIte, Nat.reduceEqDiff, and_false, false_and, and_true, true_and, and_self, h33]
    refine a_ast (pc := 216) _ dX11_moment_216 rfl rfl (by omega) ?_
    refine a_aload_n (pc := 217) dX11_moment_217 rfl ?_
    refine a_gr (pc := 218) dX11_moment_218 fX11_86 rfl ?_
    refine a_iload (pc := 221) dX11_moment_221 rfl ?_
    refine a_iconst (pc := 223) (nI 3) dX11_moment_223 (by decide) ?_
    refine a_iadd (pc := 224) dX11_moment_224 ?_
    try rw [nI_add]
    refine a_aload_n (pc := 225) dX11_moment_225 rfl ?_
    refine a_gi (pc := 226) dX11_moment_226 fX11_232 rfl ?_
    simp only [gF_pF, gF_pA, gF_pL, gA_pF, gA_pA, gA_pL, gL_pF, gL_pA, gL_pL, reduceIte, Nat.reduceEqDiff, and_false, false_and, and_true, true_and, and_self, h32]
    refine a_ast (pc := 229) _ dX11_moment_229 rfl rfl (by omega) ?_
    refine a_iconst (pc := 230) (nI 0) dX11_moment_230 (by decide) ?_
    refine a_istore (pc := 231) (ls' := [_, _, _, _, _, _]) dX11_moment_231 (Nat.le_of_ble_eq_true rfl) rfl ?_
    simp only [gF_pF, gF_pA, gF_pL, gA_pF, gA_pA, gA_pL, gL_pF, gL_pA, gL_pL, reduceIte, Nat.reduceEqDiff, and_false, false_and, and_true, true_and, and_self]
    rw [pA_pA, pA_pA, pA_pA]
    have loop : ∀ t k, 3 = k + t → ∀ (f : Nat → Int32) (w5 : Option Value), f (10 * r0.1 2) = nI (r0.1 0) → f (10 * r0.1 2 + 1) = nI i → f (10 * r0.1 2 + 2) = nI be → f (10 * r0.1 2 + 3) = nI su → (∀ k', k' < k → f (10 * r0.1 2 + 4 + 2 * k') = hi32 (cm k') ∧ f (10 * r0.1 2 + 5 + 2 * k') = (cm k').toInt32) → (∀ i, ¬ (10 * r0.1 2 ≤ i ∧ i < 10 * r0.1 2 + 10) → f i = gA g 100 i) → AW mX11_moment X Q ad 0 0 (conc (SS kd kp rp) (pA g 100 f)) 233 [some (.ref 76), some (.int (nI store)), some (.int (nI i)), some (.int x3), some (.int (nI (10 * r0.1 2))), some (.int (nI k))] [] := by
      intro t
      induction t with
      | zero =>
        intro k hk f w5 a0 a1 a2 a3 a4 a5
        obtain rfl : k = 3 := by omega
        refine a_iload (pc := 233) dX11_moment_233 rfl ?_
        refine a_iconst (pc := 235) (nI 3) dX11_moment_235 (by decide) ?_
        refine a_icmp_geN (pc := 236) 291 dX11_moment_236 (by decide) (by omega) (by omega) (fun c2 => ?_) (fun c2 => ?_)
        · refine last _ _ _ (KL.big _ (by decide)) rfl (fun g2 q1 q2 => hr.add c1 q2 (fun w hw => ?_) (fun i hi => ?_))
          · rw [q1]
            show f (10 * r0.1 2 + w) = _
            have b0 := a4 0 (by decide)
            have b1 := a4 1 (by decide)
            have b2 := a4 2 (by decide)
            match w, hw with
            | 0, _ => exact a0
            | 1, _ => exact a1
            | 2, _ => exact a2
            | 3, _ => exact a3
            | 4, _ => exact b0.1
            | 5, _ => exact b0.2
            | 6, _ => exact b1.1
            | 7, _ => exact b1.2
            | 8, _ => exact b2.1
            | 9, _ => exact b2.2
          · rw [q1]
            exact a5 i hi
        · exact absurd c2 (by omega)
      | succ t ih =>
        intro k hk f w5 a0 a1 a2 a3 a4 a5
        refine a_iload (pc := 233) dX11_moment_233 rfl ?_
        refine a_iconst (pc := 235) (nI 3) dX11_moment_235 (by decide) ?_
        refine a_icmp_geN (pc := 236) 291 dX11_moment_236 (by decide) (by omega) (by omega) (fun c2 => ?_) (fun c2 => ?_)
        · exact absurd c2 (by omega)
        · refine a_aload_n (pc := 239) dX11_moment_239 rfl ?_
          refine a_gr (pc := 240) dX11_moment_240 fX11_86 rfl ?_
          refine a_iload (pc := 243) dX11_moment_243 rfl ?_
          refine a_iconst (pc := 245) (nI 4) dX11_moment_245 (by decide) ?_
          refine a_iadd (pc := 246) dX11_moment_246 ?_
          try rw [nI_add]
          refine a_iconst (pc := 247) (nI 2) dX11_moment_247 (by decide) ?_
          refine a_iload (pc := 248) dX11_moment_248 rfl ?_
          refine a_imul (pc := 250) dX11_moment_250 ?_
          try rw [pk_mul]
          refine a_iadd (pc := 251) dX11_moment_251 ?_
          try rw [nI_add]
          refine a_aload_n (pc := 252) dX11_moment_252 rfl ?_
          refine a_gr (pc := 253) dX11_moment_253 fX11_92 rfl ?_
          refine a_iload (pc := 256) dX11_moment_256 rfl ?_
          refine a_lal (pc := 258) _ dX11_moment_258 rfl rfl (by omega) ?_
          rw [show gL (pA g 100 f) 102 k = cm k from hcm k (by omega)]
          refine a_S1i (pc := 259) dX11_moment_259 lcX11_high lX11_198 (fit_of hR (by omega) rfl) (c_high (d0 := dd) _) rfl rfl (ex_i ?_)
          refine a_ast (pc := 262) _ dX11_moment_262 rfl rfl (by omega) ?_
          refine a_aload_n (pc := 263) dX11_moment_263 rfl ?_
          refine a_gr (pc := 264) dX11_moment_264 fX11_86 rfl ?_
          refine a_iload (pc := 267) dX11_moment_267 rfl ?_
          refine a_iconst (pc := 269) (nI 5) dX11_moment_269 (by decide) ?_
          refine a_iadd (pc := 270) dX11_moment_270 ?_
          try rw [nI_add]
          refine a_iconst (pc := 271) (nI 2) dX11_moment_271 (by decide) ?_
          refine a_iload (pc := 272) dX11_moment_272 rfl ?_
          refine a_imul (pc := 274) dX11_moment_274 ?_
          try rw [pk_mul]
          refine a_iadd (pc := 275) dX11_moment_275 ?_
          try rw [nI_add]
          refine a_aload_n (pc := 276) dX11_moment_276 rfl ?_
          refine a_gr (pc := 277) dX11_moment_277 fX11_92 rfl ?_
          refine a_iload (pc := 280) dX11_moment_280 rfl ?_
          refine a_lal (pc := 282) _ dX11_moment_282 rfl rfl (by omega) ?_
          rw [show gL (pA (pA g 100 f) 100 (upd (gA (pA g 100 f) 100) (10 * r0.1 2 + 4 + 2 * k) (hi32 (cm k)))) 102 k = cm k from hcm k (by omega)]
          refine a_l2i (pc := 283) dX11_moment_283 ?_
          refine a_ast (pc := 284) _ dX11_moment_284 rfl rfl (by omega) ?_
          refine a_iinc (pc := 285) (ls' := [_, _, _, _, _, _]) (nI 1) dX11_moment_285 (by decide) rfl (Nat.le_of_ble_eq_true rfl) rfl ?_
          try rw [nI_add]
          refine a_goto (pc := 288) 233 dX11_moment_288 (by decide) ?_
          simp only [gF_pF, gF_pA, gF_pL, gA_pF, gA_pA, gA_pL, gL_pF, gL_pA, gL_pL, reduceIte, Nat.reduceEqDiff, and_false, false_and, and_true, true_and, and_self]
          rw [pA_pA, pA_pA]
          refine ih (k + 1) (by omega) _ none ?_ ?_ ?_ ?_ (fun k' hk' => ?_) (fun i hi => ?_)
          · simp only [upd]
            rw [if_neg (by omega), if_neg (by omega)]
            exact a0
          · simp only [upd]
            rw [if_neg (by omega), if_neg (by omega)]
            exact a1
          · simp only [upd]
            rw [if_neg (by omega), if_neg (by omega)]
            exact a2
          · simp only [upd]
            rw [if_neg (by omega), if_neg (by omega)]
            exact a3
          · simp only [upd]
            by_cases z : k' = k
            · subst z
              rw [if_neg (by omega), if_pos rfl, if_pos rfl]
              exact ⟨rfl, rfl⟩
            · rw [if_neg (by omega), if_neg (by omega), if_neg (by omega), if_neg (by omega)]
              exact a4 k' (by omega)
          · simp only [upd]
            rw [if_neg (by omega), if_neg (by omega)]
            exact a5 i hi
    refine loop 3 0 (by omega) _ none ?_ ?_ ?_ ?_ (fun k' h => absurd h (by omega)) (fun i hi => ?_)
    · simp only [upd]
      rw [if_neg (by omega), if_neg (by omega), if_neg (by omega), if_pos trivial]
    · simp only [upd]
      rw [if_neg (by omega), if_neg (by omega), if_pos trivial]
    · simp only [upd]
      rw [if_neg (by omega), if_pos trivial]
    · simp only [upd]
      rw [if_pos trivial]
    · simp only [upd]
      rw [if_neg (by omega), if_neg (by omega), if_neg (by omega), if_neg (by omega)]
