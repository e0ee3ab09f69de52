set_option maxHeartbeats 4000000 in
set_option maxRecDepth 100000 in
theorem c_planChange2 {d0 kd kp rp : Nat} {g : GH} (d k n : Nat) (v : Int64) (lw : Option Nat) (hd : d < 3) (hk : k < 3) (hl : ∀ l, lw = some l → l < 3) (hn : gA g 81 d = nI n) (hn60 : n ≤ 60) : ACv mX11_planChange (d0 + 4) (SS kd kp rp) g [.ref 76, .int (nI d), .int (nI 2), .int (nI k), .long v, .int (lI9 lw), .long 0] (fun S' g' => S' = SS kd kp rp ∧ g' = plA g (ch2 (gA g 82) ((verA (gA g 77) (gA g 78) (gA g 79) (gA g 80) d n) + nI 1) (fun x => (keyA (gA g 77) (gA g 78) (gA g 79) (gA g 80) d 2 x n)) k v lw)) := by
  have f8 := fnc_len (gA g 82) 8
  have hlI : ∀ x, x < 3 → (nI x = lI9 lw ↔ lw = some x) := by
    intro x hx
    cases lw with
    | none =>
      have : ∀ l, l < 3 → ¬ nI l = -9 := by decide
      simp [lI9, this x hx]
    | some l =>
      have := hl l rfl
      simp only [lI9, Option.some.injEq]
      rw [nI_eq (by omega) (by omega)]
      exact eq_comm
  refine ACv.of lcX11_planChange rfl rfl (fun X Q ad hR ret => ?_)
  refine AW_ls (ls' := [_, _, _, _, _, _, _, _, _, _, _, _, _, _]) rfl ?_
  generalize lI9 lw = li at hlI ⊢
  refine a_aload_n (pc := 0) dX11_planChange_0 rfl ?_
  refine a_iconst (pc := 1) (nI 0) dX11_planChange_1 (by decide) ?_
  refine a_pi (pc := 2) dX11_planChange_2 fX11_188 rfl ?_
  refine a_iload (pc := 5) dX11_planChange_5 rfl ?_
  refine a_bipush (pc := 7) (-9) dX11_planChange_7 (by decide) ?_
  refine AW_val3 17 (bI (decide (¬ li = -9))) (fun hJ => ?_) ?_
  · refine a_icmp_eq (pc := 9) 16 dX11_planChange_9 (by decide) (fun cc => ?_) (fun cc => ?_)
    · refine a_iconst (pc := 16) (nI 0) dX11_planChange_16 (by decide) ?_
      exact AW_top (bI_ndec _ (fun z => z cc)).symm hJ
    · refine a_iconst (pc := 12) (nI 1) dX11_planChange_12 (by decide) ?_
      refine a_goto (pc := 13) 17 dX11_planChange_13 (by decide) ?_
      exact AW_top (bI_dec _ cc).symm hJ
  generalize bI (decide (¬ li = -9)) = bt
  refine a_istore (pc := 17) (ls' := [_, _, _, _, _, _, _, _, _, _, _, _, _, _]) dX11_planChange_17 (Nat.le_of_ble_eq_true rfl) rfl ?_
  refine a_iload_n (pc := 19) dX11_planChange_19 rfl ?_
  refine a_if_neN (pc := 20) 58 dX11_planChange_20 (by decide) (by omega) (fun c1 => ?_) (fun c1 => ?_)
  · refine a_iload_n (pc := 58) dX11_planChange_58 rfl ?_
    refine a_iconst (pc := 59) (nI 1) dX11_planChange_59 (by decide) ?_
    refine a_icmp_neN (pc := 60) 224 dX11_planChange_60 (by decide) (by omega) (by omega) (fun c2 => ?_) (fun c2 => ?_)
    · refine a_aload_n (pc := 224) dX11_planChange_224 rfl ?_
      refine a_iload_n (pc := 225) dX11_planChange_225 rfl ?_
      rw [← plA_nil]
      refine a_V1i (pc := 226) 10 dX11_planChange_226 lcX11_version lX11_178 rfl rfl rfl (fit_of hR (by omega) rfl) (c_version (d0 := d0 + 1) d n hd hn hn60) rfl rfl (ex_i ?_)
      simp only [plA_77, plA_78, plA_79, plA_80]
      generalize hv : (verA (gA g 77) (gA g 78) (gA g 79) (gA g 80) d n) + nI 1 = nv at ret
      refine a_iconst (pc := 229) (nI 1) dX11_planChange_229 (by decide) ?_
      refine a_iadd (pc := 230) dX11_planChange_230 ?_
      try rw [nI_add]
      rw [hv]
      refine a_istore (pc := 231) (ls' := [_, _, _, _, _, _, _, _, _, _, _, _, _, _]) dX11_planChange_231 (Nat.le_of_ble_eq_true rfl) rfl ?_
      refine a_iconst (pc := 233) (nI 0) dX11_planChange_233 (by decide) ?_
      refine a_istore (pc := 234) (ls' := [_, _, _, _, _, _, _, _, _, _, _, _, _, _]) dX11_planChange_234 (Nat.le_of_ble_eq_true rfl) rfl ?_
      have step : ∀ (x : Nat) (hx : x < 3) (L : List En) (hL : L.length < 14) (w w2 : Option Value), (∀ w' : Option Value, AW mX11_planChange X Q ad 0 0 (conc (SS kd kp rp) (plA g (L ++ [shE nv (fun x => (keyA (gA g 77) (gA g 78) (gA g 79) (gA g 80) d 2 x n)) k v lw x]))) 236 [some (.ref 76), some (.int (nI d)), some (.int (nI 2)), some (.int (nI k)), some (.long v), none, some (.int li), some (.long 0), none, some (.int bt), some (.int nv), some (.int (nI (x + 1))), w', none] []) → AW mX11_planChange X Q ad 0 0 (conc (SS kd kp rp) (plA g L)) 236 [some (.ref 76), some (.int (nI d)), some (.int (nI 2)), some (.int (nI k)), some (.long v), none, some (.int li), some (.long 0), none, some (.int bt), some (.int nv), some (.int (nI x)), w, w2] [] := by
        intro x hx L hL w w2 hk2
        refine a_iload (pc := 236) dX11_planChange_236 rfl ?_
        refine a_iconst (pc := 238) (nI 3) dX11_planChange_238 (by decide) ?_
        refine a_icmp_geN (pc := 239) 300 dX11_planChange_239 (by decide) (by omega) (by omega) (fun c3 => ?_) (fun c3 => ?_)
        · exact absurd c3 (by omega)
        · have tail : AW mX11_planChange X Q ad 0 0 (conc (SS kd kp rp) (plA g L)) 273 [some (.ref 76), some (.int (nI d)), some (.int (nI 2)), some (.int (nI k)), some (.long v), none, some (.int li), some (.long 0), none, some (.int bt), some (.int nv), some (.int (nI x)), w, w2] [.long (nowK (fun x => (keyA (gA g 77) (gA g 78) (gA g 79) (gA g 80) d 2 x n)) k v lw x)] := by
            refine a_lstore (pc := 273) (ls' := [_, _, _, _, _, _, _, _, _, _, _, _, _, _]) dX11_planChange_273 (Nat.le_of_ble_eq_true rfl) rfl ?_
            refine a_aload_n (pc := 275) dX11_planChange_275 rfl ?_
            refine a_iload (pc := 276) dX11_planChange_276 rfl ?_
            refine a_iload (pc := 278) dX11_planChange_278 rfl ?_
            refine a_S2i (pc := 280) dX11_planChange_280 lcX11_placeOf lX11_181 (fit_of hR (by omega) rfl) (c_placeOf (d0 := d0) x nv) rfl rfl (ex_i ?_)
            refine a_lload (pc := 283) dX11_planChange_283 rfl ?_
            refine a_S1i (pc := 285) dX11_planChange_285 lcX11_high lX11_198 (fit_of hR (by omega) rfl) (c_high (d0 := d0) _) rfl rfl (ex_i ?_)
            refine a_lload (pc := 288) dX11_planChange_288 rfl ?_
            refine a_l2i (pc := 290) dX11_planChange_290 ?_
            refine a_V3v (pc := 291) 10 dX11_planChange_291 lcX11_plan lX11_191 rfl rfl rfl (fit_of hR (by omega) rfl) (c_plan (d0 := d0) L _ _ _ (by omega)) rfl rfl (ex_v ?_)
            refine a_iinc (pc := 294) (ls' := [_, _, _, _, _, _, _, _, _, _, _, _, _, _]) (nI 1) dX11_planChange_294 (by decide) rfl (Nat.le_of_ble_eq_true rfl) rfl ?_
            try rw [nI_add]
            refine a_goto (pc := 297) 236 dX11_planChange_297 (by decide) ?_
            exact hk2 _
          refine a_iload (pc := 242) dX11_planChange_242 rfl ?_
          refine a_iload_n (pc := 244) dX11_planChange_244 rfl ?_
          refine a_icmp_neN (pc := 245) 253 dX11_planChange_245 (by decide) (by omega) (by omega) (fun c4 => ?_) (fun c4 => ?_)
          · refine a_iload (pc := 253) dX11_planChange_253 rfl ?_
            refine a_iload (pc := 255) dX11_planChange_255 rfl ?_
            refine a_icmp_ne (pc := 257) 265 dX11_planChange_257 (by decide) (fun c5 => ?_) (fun c5 => ?_)
            · refine a_aload_n (pc := 265) dX11_planChange_265 rfl ?_
              refine a_iload_n (pc := 266) dX11_planChange_266 rfl ?_
              refine a_iload_n (pc := 267) dX11_planChange_267 rfl ?_
              refine a_iload (pc := 268) dX11_planChange_268 rfl ?_
              refine a_V3l (pc := 270) 10 dX11_planChange_270 lcX11_keyOf lX11_210 rfl rfl rfl (fit_of hR (by omega) rfl) (c_keyOf (d0 := d0) d 2 x n hd (by decide) hx hn hn60) rfl rfl (ex_l ?_)
              simp only [plA_77, plA_78, plA_79, plA_80]
              exact AW_topl (by rw [nowK, if_neg c4, if_neg (fun z => c5 ((hlI x hx).mpr z))]) tail
            · refine a_lload (pc := 260) dX11_planChange_260 rfl ?_
              refine a_goto (pc := 262) 273 dX11_planChange_262 (by decide) ?_
              exact AW_topl (by rw [nowK, if_neg c4, if_pos ((hlI x hx).mp c5)]) tail
          · refine a_lload (pc := 248) dX11_planChange_248 rfl ?_
            refine a_goto (pc := 250) 273 dX11_planChange_250 (by decide) ?_
            exact AW_topl (by rw [nowK, if_pos c4]) tail
      refine step 0 (by decide) [] (by decide) _ _ (fun w1 => ?_)
      refine step 1 (by decide) _ (by simp) _ _ (fun w2 => ?_)
      refine step 2 (by decide) _ (by simp) _ _ (fun w3 => ?_)
      refine a_iload (pc := 236) dX11_planChange_236 rfl ?_
      refine a_iconst (pc := 238) (nI 3) dX11_planChange_238 (by decide) ?_
      refine a_icmp_geN (pc := 239) 300 dX11_planChange_239 (by decide) (by omega) (by omega) (fun c3 => ?_) (fun c3 => ?_)
      · refine a_aload_n (pc := 300) dX11_planChange_300 rfl ?_
        refine a_iload_n (pc := 301) dX11_planChange_301 rfl ?_
        refine a_iconst (pc := 302) (nI 0) dX11_planChange_302 (by decide) ?_
        refine a_V2v (pc := 303) 10 dX11_planChange_303 lcX11_planFence lX11_195 rfl rfl rfl (fit_of hR (by omega) rfl) (c_planFence (d0 := d0) _ 2 0 (by decide) (by decide) (by simp)) rfl rfl (ex_v ?_)
        refine a_aload_n (pc := 306) dX11_planChange_306 rfl ?_
        refine a_iload (pc := 307) dX11_planChange_307 rfl ?_
        refine a_iconst (pc := 309) (nI 1) dX11_planChange_309 (by decide) ?_
        refine a_iand (pc := 310) dX11_planChange_310 ?_
        refine a_iconst (pc := 311) (nI 1) dX11_planChange_311 (by decide) ?_
        refine AW_val3 321 (if nv &&& nI 1 = nI 1 then nI 3 else nI 7) (fun hJ => ?_) ?_
        · refine a_icmp_ne (pc := 312) 319 dX11_planChange_312 (by decide) (fun cc => ?_) (fun cc => ?_)
          · refine a_bipush (pc := 319) (nI 7) dX11_planChange_319 (by decide) ?_
            exact AW_top (by rw [if_neg cc]) hJ
          · refine a_iconst (pc := 315) (nI 3) dX11_planChange_315 (by decide) ?_
            refine a_goto (pc := 316) 321 dX11_planChange_316 (by decide) ?_
            exact AW_top (by rw [if_pos cc]) hJ
        refine a_iload (pc := 321) dX11_planChange_321 rfl ?_
        refine a_bipush (pc := 323) (nI 31) dX11_planChange_323 (by decide) ?_
        refine a_iload (pc := 325) dX11_planChange_325 rfl ?_
        refine a_imul (pc := 327) dX11_planChange_327 ?_
        try rw [pk_mul]
        refine a_bipush (pc := 328) (nI 7) dX11_planChange_328 (by decide) ?_
        refine a_iadd (pc := 330) dX11_planChange_330 ?_
        try rw [nI_add]
        refine a_V3v (pc := 331) 10 dX11_planChange_331 lcX11_plan lX11_191 rfl rfl rfl (fit_of hR (by omega) rfl) (c_plan (d0 := d0) _ _ _ _ (by simp; omega)) rfl rfl (ex_v ?_)
        refine a_aload_n (pc := 334) dX11_planChange_334 rfl ?_
        refine a_iload_n (pc := 335) dX11_planChange_335 rfl ?_
        refine a_iconst (pc := 336) (nI 1) dX11_planChange_336 (by decide) ?_
        refine a_V2v (pc := 337) 10 dX11_planChange_337 lcX11_planFence lX11_195 rfl rfl rfl (fit_of hR (by omega) rfl) (c_planFence (d0 := d0) _ 2 1 (by decide) (by decide) (by simp; omega)) rfl rfl (ex_v ?_)
        refine ret _ _ 340 _ dX11_planChange_340 rfl ?_
        exact ⟨rfl, by simp [ch2]⟩
      · exact absurd c3 (by decide)
    · exact absurd c2 (by decide)
  · exact absurd c1 (by decide)
def insQ (x lo hi : Int32) : Bool := decide (lo ≤ x) && decide (x ≤ hi)
/-- what RISING writes, by what is read: sector 3 (n, m), 4 (k, kh), 5 (kl, l), 6 (lh, ll) -/
def ris1 (sp : Nat → Int32) (n m k kh kl l lh ll : Int32) : List En :=
  if insQ n (nI 1) (nI 2) = true ∧ m = sum7 n k kh kl l lh ll ∧ insQ k (nI 0) (nI 2) = true ∧ (n = nI 1 ∨ insQ l (nI 0) (nI 2) = true) then
    [(k, kh, kl)] ++ (if n = nI 2 then [(l, lh, ll)] else []) ++ fnc sp 6 ++ [(nI 3, nI 0, nI 0)] ++ fnc sp 7
  else if ¬ n = 0 ∨ ¬ m = 0 then [(nI 3, nI 0, nI 0)] ++ fnc sp 7 else []
set_option maxHeartbeats 4000000 in
set_option maxRecDepth 100000 in
theorem c_planRise0 {d0 kd kp rp : Nat} {g : GH} (d store : Nat) (hst : store = 0 ∨ store = 2) : ACv mX11_planRise (d0 + 3) (SS kd kp rp) g [.ref 76, .int (nI d), .int (nI store)] (fun S' g' => S' = SS kd kp rp ∧ g' = plA g []) := by
  refine ACv.of lcX11_planRise rfl rfl (fun X Q ad hR ret => ?_)
  refine AW_ls (ls' := [_, _, _, _, _, _, _]) rfl ?_
  refine a_aload_n (pc := 0) dX11_planRise_0 rfl ?_
  refine a_iconst (pc := 1) (nI 0) dX11_planRise_1 (by decide) ?_
  refine a_pi (pc := 2) dX11_planRise_2 fX11_188 rfl ?_
  refine a_iload_n (pc := 5) dX11_planRise_5 rfl ?_
  refine a_iconst (pc := 6) (nI 1) dX11_planRise_6 (by decide) ?_
  refine a_icmp_eqN (pc := 7) 11 dX11_planRise_7 (by decide) (by omega) (by omega) (fun cc => ?_) (fun cc => ?_)
  · exact absurd cc (by omega)
  · refine ret _ _ 10 _ dX11_planRise_10 rfl ?_
    exact ⟨rfl, (plA_nil g).symm⟩
set_option maxHeartbeats 4000000 in
set_option maxRecDepth 100000 in
theorem c_planRise1 {d0 kd kp rp : Nat} {g : GH} (d n : Nat) (hd : d < 3) (hn : gA g 81 d = nI n) (hn60 : n ≤ 60) : ACv mX11_planRise (d0 + 3) (SS kd kp rp) g [.ref 76, .int (nI d), .int (nI 1)] (fun S' g' => S' = SS kd kp rp ∧ g' = plA g (ris1 (gA g 82) (rdA (gA g 77) (gA g 78) (gA g 79) (gA g 80) d 3 0 n) (rdA (gA g 77) (gA g 78) (gA g 79) (gA g 80) d 3 1 n) (rdA (gA g 77) (gA g 78) (gA g 79) (gA g 80) d 4 0 n) (rdA (gA g 77) (gA g 78) (gA g 79) (gA g 80) d 4 1 n) (rdA (gA g 77) (gA g 78) (gA g 79) (gA g 80) d 5 0 n) (rdA (gA g 77) (gA g 78) (gA g 79) (gA g 80) d 5 1 n) (rdA (gA g 77) (gA g 78) (gA g 79) (gA g 80) d 6 0 n) (rdA (gA g 77) (gA g 78) (gA g 79) (gA g 80) d 6 1 n))) := by
  have f6 := fnc_len (gA g 82) 6
  have f7 := fnc_len (gA g 82) 7
  have rdr : ∀ (L : List En) (s p : Nat), s < 16 → p < 2 → ACi mX11_readOf (d0 + 2) (SS kd kp rp) (plA g L) [.ref 76, .int (nI d), .int (nI s), .int (nI p)] (fun r S' g' => S' = SS kd kp rp ∧ g' = plA g L ∧ r = (rdA (gA g 77) (gA g 78) (gA g 79) (gA g 80) d s p n)) := fun L s p hs hp => c_readOf (d0 := d0 + 2) (g := plA g L) d s p n hd hs hp hn hn60
  generalize hx30 : (rdA (gA g 77) (gA g 78) (gA g 79) (gA g 80) d 3 0 n) = x30
  generalize hx31 : (rdA (gA g 77) (gA g 78) (gA g 79) (gA g 80) d 3 1 n) = x31
  generalize hx40 : (rdA (gA g 77) (gA g 78) (gA g 79) (gA g 80) d 4 0 n) = x40
  generalize hx41 : (rdA (gA g 77) (gA g 78) (gA g 79) (gA g 80) d 4 1 n) = x41
  generalize hx50 : (rdA (gA g 77) (gA g 78) (gA g 79) (gA g 80) d 5 0 n) = x50
  generalize hx51 : (rdA (gA g 77) (gA g 78) (gA g 79) (gA g 80) d 5 1 n) = x51
  generalize hx60 : (rdA (gA g 77) (gA g 78) (gA g 79) (gA g 80) d 6 0 n) = x60
  generalize hx61 : (rdA (gA g 77) (gA g 78) (gA g 79) (gA g 80) d 6 1 n) = x61
  have q30 := fun L => hx30 ▸ rdr L 3 0 (by decide) (by decide)
  have q31 := fun L => hx31 ▸ rdr L 3 1 (by decide) (by decide)
  have q40 := fun L => hx40 ▸ rdr L 4 0 (by decide) (by decide)
  have q41 := fun L => hx41 ▸ rdr L 4 1 (by decide) (by decide)
  have q50 := fun L => hx50 ▸ rdr L 5 0 (by decide) (by decide)
  have q51 := fun L => hx51 ▸ rdr L 5 1 (by decide) (by decide)
  have q60 := fun L => hx60 ▸ rdr L 6 0 (by decide) (by decide)
  have q61 := fun L => hx61 ▸ rdr L 6 1 (by decide) (by decide)
  refine ACv.of lcX11_planRise rfl rfl (fun X Q ad hR ret => ?_)
  refine AW_ls (ls' := [_, _, _, _, _, _, _]) rfl ?_
  refine a_aload_n (pc := 0) dX11_planRise_0 rfl ?_
  refine a_iconst (pc := 1) (nI 0) dX11_planRise_1 (by decide) ?_
  refine a_pi (pc := 2) dX11_planRise_2 fX11_188 rfl ?_
  refine a_iload_n (pc := 5) dX11_planRise_5 rfl ?_
  refine a_iconst (pc := 6) (nI 1) dX11_planRise_6 (by decide) ?_
  rw [← plA_nil]
  refine a_icmp_eqN (pc := 7) 11 dX11_planRise_7 (by decide) (by omega) (by omega) (fun cc => ?_) (fun cc => ?_)
  · refine a_aload_n (pc := 11) dX11_planRise_11 rfl ?_
    refine a_iload_n (pc := 12) dX11_planRise_12 rfl ?_
    refine a_iconst (pc := 13) (nI 3) dX11_planRise_13 (by decide) ?_
    refine a_iconst (pc := 14) (nI 0) dX11_planRise_14 (by decide) ?_
    refine a_V3i (pc := 15) 10 dX11_planRise_15 lcX11_readOf lX11_129 rfl rfl rfl (fit_of hR (by omega) rfl) (q30 []) rfl rfl (ex_i ?_)
    refine a_istore_n (pc := 18) (ls' := [_, _, _, _, _, _, _]) dX11_planRise_18 (Nat.le_of_ble_eq_true rfl) rfl ?_
    refine a_aload_n (pc := 19) dX11_planRise_19 rfl ?_
    refine a_iload_n (pc := 20) dX11_planRise_20 rfl ?_
    refine a_iconst (pc := 21) (nI 4) dX11_planRise_21 (by decide) ?_
    refine a_iconst (pc := 22) (nI 0) dX11_planRise_22 (by decide) ?_
    refine a_V3i (pc := 23) 10 dX11_planRise_23 lcX11_readOf lX11_129 rfl rfl rfl (fit_of hR (by omega) rfl) (q40 []) rfl rfl (ex_i ?_)
    refine a_istore (pc := 26) (ls' := [_, _, _, _, _, _, _]) dX11_planRise_26 (Nat.le_of_ble_eq_true rfl) rfl ?_
    refine a_aload_n (pc := 28) dX11_planRise_28 rfl ?_
    refine a_iload_n (pc := 29) dX11_planRise_29 rfl ?_
    refine a_iconst (pc := 30) (nI 5) dX11_planRise_30 (by decide) ?_
    refine a_iconst (pc := 31) (nI 1) dX11_planRise_31 (by decide) ?_
    refine a_V3i (pc := 32) 10 dX11_planRise_32 lcX11_readOf lX11_129 rfl rfl rfl (fit_of hR (by omega) rfl) (q51 []) rfl rfl (ex_i ?_)
    refine a_istore (pc := 35) (ls' := [_, _, _, _, _, _, _]) dX11_planRise_35 (Nat.le_of_ble_eq_true rfl) rfl ?_
    refine a_iload_n (pc := 37) dX11_planRise_37 rfl ?_
    refine a_iload (pc := 38) dX11_planRise_38 rfl ?_
    refine a_aload_n (pc := 40) dX11_planRise_40 rfl ?_
    refine a_iload_n (pc := 41) dX11_planRise_41 rfl ?_
    refine a_iconst (pc := 42) (nI 4) dX11_planRise_42 (by decide) ?_
    refine a_iconst (pc := 43) (nI 1) dX11_planRise_43 (by decide) ?_
    refine a_V3i (pc := 44) 10 dX11_planRise_44 lcX11_readOf lX11_129 rfl rfl rfl (fit_of hR (by omega) rfl) (q41 []) rfl rfl (ex_i ?_)
    refine a_aload_n (pc := 47) dX11_planRise_47 rfl ?_
    refine a_iload_n (pc := 48) dX11_planRise_48 rfl ?_
    refine a_iconst (pc := 49) (nI 5) dX11_planRise_49 (by decide) ?_
    refine a_iconst (pc := 50) (nI 0) dX11_planRise_50 (by decide) ?_
    refine a_V3i (pc := 51) 10 dX11_planRise_51 lcX11_readOf lX11_129 rfl rfl rfl (fit_of hR (by omega) rfl) (q50 []) rfl rfl (ex_i ?_)
    refine a_iload (pc := 54) dX11_planRise_54 rfl ?_
    refine a_aload_n (pc := 56) dX11_planRise_56 rfl ?_
    refine a_iload_n (pc := 57) dX11_planRise_57 rfl ?_
    refine a_bipush (pc := 58) (nI 6) dX11_planRise_58 (by decide) ?_
    refine a_iconst (pc := 60) (nI 0) dX11_planRise_60 (by decide) ?_
    refine a_V3i (pc := 61) 10 dX11_planRise_61 lcX11_readOf lX11_129 rfl rfl rfl (fit_of hR (by omega) rfl) (q60 []) rfl rfl (ex_i ?_)
    refine a_aload_n (pc := 64) dX11_planRise_64 rfl ?_
    refine a_iload_n (pc := 65) dX11_planRise_65 rfl ?_
    refine a_bipush (pc := 66) (nI 6) dX11_planRise_66 (by decide) ?_
    refine a_iconst (pc := 68) (nI 1) dX11_planRise_68 (by decide) ?_
    refine a_V3i (pc := 69) 10 dX11_planRise_69 lcX11_readOf lX11_129 rfl rfl rfl (fit_of hR (by omega) rfl) (q61 []) rfl rfl (ex_i ?_)
    refine a_S7i (pc := 72) dX11_planRise_72 lcX11_sum lX11_202 (fit_of hR (by omega) rfl) (c_sum (d0 := d0) _ _ _ _ _ _ _) rfl rfl (ex_i ?_)
    refine a_istore (pc := 75) (ls' := [_, _, _, _, _, _, _]) dX11_planRise_75 (Nat.le_of_ble_eq_true rfl) rfl ?_
    refine a_iload_n (pc := 77) dX11_planRise_77 rfl ?_
    refine a_iconst (pc := 78) (nI 1) dX11_planRise_78 (by decide) ?_
    refine a_iconst (pc := 79) (nI 2) dX11_planRise_79 (by decide) ?_
    have no : ∀ (hno : ¬ (insQ x30 (nI 1) (nI 2) = true ∧ x31 = sum7 x30 x40 x41 x50 x51 x60 x61 ∧ insQ x40 (nI 0) (nI 2) = true ∧ (x30 = nI 1 ∨ insQ x51 (nI 0) (nI 2) = true))), AW mX11_planRise X Q ad 0 0 (conc (SS kd kp rp) (plA g [])) 178 [some (.ref 76), some (.int (nI d)), some (.int (nI 1)), some (.int x30), some (.int x40), some (.int x51), some (.int (sum7 x30 x40 x41 x50 x51 x60 x61))] [] := by
      intro hno
      have wr : (¬ x30 = 0 ∨ ¬ x31 = 0) → AW mX11_planRise X Q ad 0 0 (conc (SS kd kp rp) (plA g [])) 192 [some (.ref 76), some (.int (nI d)), some (.int (nI 1)), some (.int x30), some (.int x40), some (.int x51), some (.int (sum7 x30 x40 x41 x50 x51 x60 x61))] [] := by
        intro hw
        refine a_aload_n (pc := 192) dX11_planRise_192 rfl ?_
        refine a_iconst (pc := 193) (nI 3) dX11_planRise_193 (by decide) ?_
        refine a_iconst (pc := 194) (nI 0) dX11_planRise_194 (by decide) ?_
        refine a_iconst (pc := 195) (nI 0) dX11_planRise_195 (by decide) ?_
        refine a_V3v (pc := 196) 10 dX11_planRise_196 lcX11_plan lX11_191 rfl rfl rfl (fit_of hR (by omega) rfl) (c_plan (d0 := d0) [] _ _ _ (by decide)) rfl rfl (ex_v ?_)
        refine a_aload_n (pc := 199) dX11_planRise_199 rfl ?_
        refine a_iload_n (pc := 200) dX11_planRise_200 rfl ?_
        refine a_iconst (pc := 201) (nI 3) dX11_planRise_201 (by decide) ?_
        refine a_V2v (pc := 202) 10 dX11_planRise_202 lcX11_planFence lX11_195 rfl rfl rfl (fit_of hR (by omega) rfl) (c_planFence (d0 := d0) _ 1 3 (by decide) (by decide) (by simp)) rfl rfl (ex_v ?_)
        refine ret _ _ 205 _ dX11_planRise_205 rfl ?_
        exact ⟨rfl, by rw [ris1, if_neg hno, if_pos hw]; rfl⟩
      refine a_iload_n (pc := 178) dX11_planRise_178 rfl ?_
      refine a_if_ne (pc := 179) 192 dX11_planRise_179 (by decide) (fun c8 => ?_) (fun c8 => ?_)
      · exact wr (Or.inl c8)
      · refine a_aload_n (pc := 182) dX11_planRise_182 rfl ?_
        refine a_iload_n (pc := 183) dX11_planRise_183 rfl ?_
        refine a_iconst (pc := 184) (nI 3) dX11_planRise_184 (by decide) ?_
        refine a_iconst (pc := 185) (nI 1) dX11_planRise_185 (by decide) ?_
        refine a_V3i (pc := 186) 10 dX11_planRise_186 lcX11_readOf lX11_129 rfl rfl rfl (fit_of hR (by omega) rfl) (q31 []) rfl rfl (ex_i ?_)
        refine a_if_eq (pc := 189) 205 dX11_planRise_189 (by decide) (fun c9 => ?_) (fun c9 => ?_)
        · refine ret _ _ 205 _ dX11_planRise_205 rfl ?_
          exact ⟨rfl, by rw [ris1, if_neg hno, if_neg (by simp [c8, c9])]⟩
        · exact wr (Or.inr c9)
    refine a_S3i (pc := 80) dX11_planRise_80 lcX11_in lX11_110 (fit_of hR (by omega) rfl) (c_in (d := d0) x30 (nI 1) (nI 2)) rfl rfl (ex_i ?_)
    refine a_if_eqB (pc := 83) 178 dX11_planRise_83 (by decide) (fun c1 => ?_) (fun c1 => ?_)
    · exact no (fun z => absurd (z.1.symm.trans c1) (by decide))
    · refine a_aload_n (pc := 86) dX11_planRise_86 rfl ?_
      refine a_iload_n (pc := 87) dX11_planRise_87 rfl ?_
      refine a_iconst (pc := 88) (nI 3) dX11_planRise_88 (by decide) ?_
      refine a_iconst (pc := 89) (nI 1) dX11_planRise_89 (by decide) ?_
      refine a_V3i (pc := 90) 10 dX11_planRise_90 lcX11_readOf lX11_129 rfl rfl rfl (fit_of hR (by omega) rfl) (q31 []) rfl rfl (ex_i ?_)
      refine a_iload (pc := 93) dX11_planRise_93 rfl ?_
      refine a_icmp_ne (pc := 95) 178 dX11_planRise_95 (by decide) (fun c2 => ?_) (fun c2 => ?_)
      · exact no (fun z => c2 z.2.1)
      · refine a_iload (pc := 98) dX11_planRise_98 rfl ?_
        refine a_iconst (pc := 100) (nI 0) dX11_planRise_100 (by decide) ?_
        refine a_iconst (pc := 101) (nI 2) dX11_planRise_101 (by decide) ?_
        refine a_S3i (pc := 102) dX11_planRise_102 lcX11_in lX11_110 (fit_of hR (by omega) rfl) (c_in (d := d0) x40 (nI 0) (nI 2)) rfl rfl (ex_i ?_)
        refine a_if_eqB (pc := 105) 178 dX11_planRise_105 (by decide) (fun c3 => ?_) (fun c3 => ?_)
        · exact no (fun z => absurd (z.2.2.1.symm.trans c3) (by decide))
        · have yes : (x30 = nI 1 ∨ insQ x51 (nI 0) (nI 2) = true) → AW mX11_planRise X Q ad 0 0 (conc (SS kd kp rp) (plA g [])) 123 [some (.ref 76), some (.int (nI d)), some (.int (nI 1)), some (.int x30), some (.int x40), some (.int x51), some (.int (sum7 x30 x40 x41 x50 x51 x60 x61))] [] := by
            intro hy
            refine a_aload_n (pc := 123) dX11_planRise_123 rfl ?_
            refine a_iload (pc := 124) dX11_planRise_124 rfl ?_
            refine a_aload_n (pc := 126) dX11_planRise_126 rfl ?_
            refine a_iload_n (pc := 127) dX11_planRise_127 rfl ?_
            refine a_iconst (pc := 128) (nI 4) dX11_planRise_128 (by decide) ?_
            refine a_iconst (pc := 129) (nI 1) dX11_planRise_129 (by decide) ?_
            refine a_V3i (pc := 130) 10 dX11_planRise_130 lcX11_readOf lX11_129 rfl rfl rfl (fit_of hR (by omega) rfl) (q41 []) rfl rfl (ex_i ?_)
            refine a_aload_n (pc := 133) dX11_planRise_133 rfl ?_
            refine a_iload_n (pc := 134) dX11_planRise_134 rfl ?_
            refine a_iconst (pc := 135) (nI 5) dX11_planRise_135 (by decide) ?_
            refine a_iconst (pc := 136) (nI 0) dX11_planRise_136 (by decide) ?_
            refine a_V3i (pc := 137) 10 dX11_planRise_137 lcX11_readOf lX11_129 rfl rfl rfl (fit_of hR (by omega) rfl) (q50 []) rfl rfl (ex_i ?_)
            refine a_V3v (pc := 140) 10 dX11_planRise_140 lcX11_plan lX11_191 rfl rfl rfl (fit_of hR (by omega) rfl) (c_plan (d0 := d0) [] _ _ _ (by decide)) rfl rfl (ex_v ?_)
            refine a_iload_n (pc := 143) dX11_planRise_143 rfl ?_
            refine a_iconst (pc := 144) (nI 2) dX11_planRise_144 (by decide) ?_
            refine a_icmp_ne (pc := 145) 170 dX11_planRise_145 (by decide) (fun c4 => ?_) (fun c4 => ?_)
            · refine a_aload_n (pc := 170) dX11_planRise_170 rfl ?_
              refine a_iload_n (pc := 171) dX11_planRise_171 rfl ?_
              refine a_V1v (pc := 172) 10 dX11_planRise_172 lcX11_planEnd lX11_206 rfl rfl rfl (fit_of hR (by omega) rfl) (c_planEnd (d0 := d0) _ 1 (by decide) (by simp)) rfl rfl (ex_v ?_)
              refine a_goto (pc := 175) 205 dX11_planRise_175 (by decide) ?_
              refine ret _ _ 205 _ dX11_planRise_205 rfl ?_
              exact ⟨rfl, by rw [ris1, if_pos ⟨c1, c2, c3, hy⟩, if_neg c4]; simp⟩
            · refine a_aload_n (pc := 148) dX11_planRise_148 rfl ?_
              refine a_iload (pc := 149) dX11_planRise_149 rfl ?_
              refine a_aload_n (pc := 151) dX11_planRise_151 rfl ?_
              refine a_iload_n (pc := 152) dX11_planRise_152 rfl ?_
              refine a_bipush (pc := 153) (nI 6) dX11_planRise_153 (by decide) ?_
              refine a_iconst (pc := 155) (nI 0) dX11_planRise_155 (by decide) ?_
              refine a_V3i (pc := 156) 10 dX11_planRise_156 lcX11_readOf lX11_129 rfl rfl rfl (fit_of hR (by omega) rfl) (q60 _) rfl rfl (ex_i ?_)
              refine a_aload_n (pc := 159) dX11_planRise_159 rfl ?_
              refine a_iload_n (pc := 160) dX11_planRise_160 rfl ?_
              refine a_bipush (pc := 161) (nI 6) dX11_planRise_161 (by decide) ?_
              refine a_iconst (pc := 163) (nI 1) dX11_planRise_163 (by decide) ?_
              refine a_V3i (pc := 164) 10 dX11_planRise_164 lcX11_readOf lX11_129 rfl rfl rfl (fit_of hR (by omega) rfl) (q61 _) rfl rfl (ex_i ?_)
              refine a_V3v (pc := 167) 10 dX11_planRise_167 lcX11_plan lX11_191 rfl rfl rfl (fit_of hR (by omega) rfl) (c_plan (d0 := d0) _ _ _ _ (by simp)) rfl rfl (ex_v ?_)
              refine a_aload_n (pc := 170) dX11_planRise_170 rfl ?_
              refine a_iload_n (pc := 171) dX11_planRise_171 rfl ?_
              refine a_V1v (pc := 172) 10 dX11_planRise_172 lcX11_planEnd lX11_206 rfl rfl rfl (fit_of hR (by omega) rfl) (c_planEnd (d0 := d0) _ 1 (by decide) (by simp)) rfl rfl (ex_v ?_)
              refine a_goto (pc := 175) 205 dX11_planRise_175 (by decide) ?_
              refine ret _ _ 205 _ dX11_planRise_205 rfl ?_
              exact ⟨rfl, by rw [ris1, if_pos ⟨c1, c2, c3, hy⟩, if_pos c4]; rfl⟩
          refine a_iload_n (pc := 108) dX11_planRise_108 rfl ?_
          refine a_iconst (pc := 109) (nI 1) dX11_planRise_109 (by decide) ?_
          refine a_icmp_eq (pc := 110) 123 dX11_planRise_110 (by decide) (fun c5 => ?_) (fun c5 => ?_)
          · exact yes (Or.inl c5)
          · refine a_iload (pc := 113) dX11_planRise_113 rfl ?_
            refine a_iconst (pc := 115) (nI 0) dX11_planRise_115 (by decide) ?_
            refine a_iconst (pc := 116) (nI 2) dX11_planRise_116 (by decide) ?_
            refine a_S3i (pc := 117) dX11_planRise_117 lcX11_in lX11_110 (fit_of hR (by omega) rfl) (c_in (d := d0) x51 (nI 0) (nI 2)) rfl rfl (ex_i ?_)
            refine a_if_eqB (pc := 120) 178 dX11_planRise_120 (by decide) (fun c6 => ?_) (fun c6 => ?_)
            · exact no (fun z => z.2.2.2.elim c5 (fun q => absurd (q.symm.trans c6) (by decide)))
            · exact yes (Or.inr c6)
  · exact absurd rfl cc
