section L89
variable {X : Cx} {Q : State → Prop} {ad : Nat → Nat} {k n : Nat} {S : sH} {g : GH} {y : Sy} {b L c i : Nat} {zs : Nat → Int32}
theorem w_bool {h : sH} {ls : List (Option Value)} {st : List Value} {z : Int32} {p : Nat} (d1 : decode (mcc mL_law) p = .ok (.ifCond .eq 7, 3)) (t1 : (p : Int) + 7 = ((p + 7 : Nat) : Int)) (d2 : decode (mcc mL_law) (p + 3) = .ok (.iconst 1, 1)) (d3 : decode (mcc mL_law) (p + 4) = .ok (.goto 4, 3)) (t2 : ((p + 4 : Nat) : Int) + 4 = ((p + 8 : Nat) : Int)) (d4 : decode (mcc mL_law) (p + 7) = .ok (.iconst 0, 1)) (kk : AW mL_law X Q ad k n h (p + 8) ls (.int (bI (decide (z ≠ 0))) :: st)) : AW mL_law X Q ad k n h p ls (.int z :: st) := by
  refine a_if_eq (p + 7) d1 t1 (fun e => ?_) (fun e => ?_)
  · refine a_iconst (nI 0) d4 (by decide) ?_
    refine AW_top ?_ kk
    exact (bI_ndec _ (fun q => q e)).symm
  · refine a_iconst (nI 1) d2 (by decide) ?_
    refine a_goto (p + 8) d3 t2 ?_
    refine AW_top ?_ kk
    exact (bI_dec _ e).symm
theorem w_two {g1 g2 : GH} {r1 r2 : Int32} {o : Option Int32} (h1 : hOk g1 r1 o) (h2 : tOk g2 r2 o) (hl : gL g2 106 = gL g1 106) : gF g2 76 0 = r1 ∧ (r1 = 0 → gL g2 106 0 = r2.toInt64) := by
  cases o with
  | none => exact ⟨h2.trans h1.symm, fun z => absurd (h1.symm.trans z) (by decide)⟩
  | some v => exact ⟨h2.1.trans h1.1.symm, fun z => by rw [hl, h1.2, h2.2]⟩
theorem oGet_lt (y : Sy) (x : Int32) : (oGet y x).1 < 2147483648 := by
  unfold oGet
  split
  · decide
  · split
    · exact (by decide : 0 < 2147483648)
    · exact (by decide : 2 < 2147483648)
set_option maxHeartbeats 1000000 in
set_option maxRecDepth 100000 in
theorem w_write (hL : Lw b L zs X ad) (hc : CI S g y c) (hm : MI g y) (hy : Yok y) (hn : c < 512) (hi : i + 4 ≤ L) (hk : k ≤ 700) (hn2 : n ≤ 190000) (kk : LwK X Q ad k n c i) : AW mL_law X Q ad k n (conc S g) 156 (lls i) [] := by
  have hc0 := hc
  obtain ⟨kd, kp, rp, hkp, rfl, hb⟩ := hc
  refine a_aload_n (pc := 156) dL_law_156 rfl ?_
  refine a_aload_n (pc := 157) dL_law_157 rfl ?_
  refine a_iload (pc := 158) dL_law_158 rfl ?_
  refine a_iconst (pc := 160) (nI 1) dL_law_160 (by decide) ?_
  refine a_iadd (pc := 161) dL_law_161 ?_
  try rw [nI_add]
  refine s_ial (pc := 162) (i + 1) hL dL_law_162 rfl (by omega) ?_
  refine a_aload_n (pc := 163) dL_law_163 rfl ?_
  refine a_iload (pc := 164) dL_law_164 rfl ?_
  refine a_iconst (pc := 166) (nI 2) dL_law_166 (by decide) ?_
  refine a_iadd (pc := 167) dL_law_167 ?_
  try rw [nI_add]
  refine s_ial (pc := 168) (i + 2) hL dL_law_168 rfl (by omega) ?_
  refine a_aload_n (pc := 169) dL_law_169 rfl ?_
  refine a_iload (pc := 170) dL_law_170 rfl ?_
  refine a_iconst (pc := 172) (nI 3) dL_law_172 (by decide) ?_
  refine a_iadd (pc := 173) dL_law_173 ?_
  try rw [nI_add]
  refine s_ial (pc := 174) (i + 3) hL dL_law_174 rfl (by omega) ?_
  refine a_V3i (pc := 175) 9 dL_law_175 lcX10_write lL_32 rfl rfl rfl (fit_law hL (by decide) rfl (by omega) (by omega)) (k_write (d0 := 0) hc0 hn (zs (i + 1)) (zs (i + 2)) (zs (i + 3))) rfl rfl (fun r1 S1 g1 hS1 hp1 => ?_)
  obtain ⟨e1, hC1, hf1⟩ := hp1
  have hC2 := hC1
  obtain ⟨kd1, kp1, rp1, hkp1, rfl, hb1⟩ := hC1
  refine a_aload_n (pc := 178) dL_law_178 rfl ?_
  refine a_aload_n (pc := 179) dL_law_179 rfl ?_
  refine a_iload (pc := 180) dL_law_180 rfl ?_
  refine a_iconst (pc := 182) (nI 1) dL_law_182 (by decide) ?_
  refine a_iadd (pc := 183) dL_law_183 ?_
  try rw [nI_add]
  refine s_ial (pc := 184) (i + 1) hL dL_law_184 rfl (by omega) ?_
  refine a_aload_n (pc := 185) dL_law_185 rfl ?_
  refine a_iload (pc := 186) dL_law_186 rfl ?_
  refine a_iconst (pc := 188) (nI 2) dL_law_188 (by decide) ?_
  refine a_iadd (pc := 189) dL_law_189 ?_
  try rw [nI_add]
  refine s_ial (pc := 190) (i + 2) hL dL_law_190 rfl (by omega) ?_
  refine a_aload_n (pc := 191) dL_law_191 rfl ?_
  refine a_iload (pc := 192) dL_law_192 rfl ?_
  refine a_iconst (pc := 194) (nI 3) dL_law_194 (by decide) ?_
  refine a_iadd (pc := 195) dL_law_195 ?_
  try rw [nI_add]
  refine s_ial (pc := 196) (i + 3) hL dL_law_196 rfl (by omega) ?_
  refine a_V3i (pc := 197) 10 dL_law_197 lcX11_write lL_35 rfl rfl rfl (fit_law hL (by decide) rfl (by omega) (by omega)) (m_write (d0 := 0) (hm.cl hf1) (zs (i + 1)) (zs (i + 2)) (zs (i + 3))) rfl rfl (fun r2 S2 g2 hS2 hp2 => ?_)
  obtain ⟨e2, rfl, hM2, hf2⟩ := hp2
  refine a_icmp_eq (pc := 200) 1093 dL_law_200 (by decide) (fun _ => ?_) (fun z => absurd (e1.trans e2.symm) z)
  exact AW_wid (Nat.le_add_right _ _) (Nat.le_add_right _ _) (kk _ _ _ (hC2.md hf2) hM2 (y_write hy _ _ _))
set_option maxHeartbeats 1000000 in
set_option maxRecDepth 100000 in
theorem w_fence (hL : Lw b L zs X ad) (hc : CI S g y c) (hm : MI g y) (hy : Yok y) (hn : c < 512) (hi : i + 4 ≤ L) (hk : k ≤ 700) (hn2 : n ≤ 190000) (kk : LwK X Q ad k n c i) : AW mL_law X Q ad k n (conc S g) 205 (lls i) [] := by
  have hc0 := hc
  obtain ⟨kd, kp, rp, hkp, rfl, hb⟩ := hc
  refine a_aload_n (pc := 205) dL_law_205 rfl ?_
  refine a_V0i (pc := 206) 9 dL_law_206 lcX10_fence lL_36 rfl rfl rfl (fit_law hL (by decide) rfl (by omega) (by omega)) (k_fence (d0 := 0) hc0 hn ) rfl rfl (fun r1 S1 g1 hS1 hp1 => ?_)
  obtain ⟨e1, hC1, hf1⟩ := hp1
  have hC2 := hC1
  obtain ⟨kd1, kp1, rp1, hkp1, rfl, hb1⟩ := hC1
  refine a_aload_n (pc := 209) dL_law_209 rfl ?_
  refine a_V0i (pc := 210) 10 dL_law_210 lcX11_fence lL_40 rfl rfl rfl (fit_law hL (by decide) rfl (by omega) (by omega)) (m_fence (d0 := 0) (hm.cl hf1) ) rfl rfl (fun r2 S2 g2 hS2 hp2 => ?_)
  obtain ⟨e2, rfl, hM2, hf2⟩ := hp2
  refine a_icmp_eq (pc := 213) 1093 dL_law_213 (by decide) (fun _ => ?_) (fun z => absurd (e1.trans e2.symm) z)
  exact AW_wid (Nat.le_add_right _ _) (Nat.le_add_right _ _) (kk _ _ _ (hC2.md hf2) hM2 (y_fence hy))
set_option maxHeartbeats 1000000 in
set_option maxRecDepth 100000 in
theorem w_flush (hL : Lw b L zs X ad) (hc : CI S g y c) (hm : MI g y) (hy : Yok y) (hn : c < 512) (hi : i + 4 ≤ L) (hk : k ≤ 700) (hn2 : n ≤ 190000) (kk : LwK X Q ad k n c i) : AW mL_law X Q ad k n (conc S g) 218 (lls i) [] := by
  have hc0 := hc
  obtain ⟨kd, kp, rp, hkp, rfl, hb⟩ := hc
  refine a_aload_n (pc := 218) dL_law_218 rfl ?_
  refine a_V0i (pc := 219) 9 dL_law_219 lcX10_flush lL_41 rfl rfl rfl (fit_law hL (by decide) rfl (by omega) (by omega)) (k_flush (d0 := 0) hc0 hn ) rfl rfl (fun r1 S1 g1 hS1 hp1 => ?_)
  obtain ⟨e1, hC1, hf1⟩ := hp1
  have hC2 := hC1
  obtain ⟨kd1, kp1, rp1, hkp1, rfl, hb1⟩ := hC1
  refine a_aload_n (pc := 222) dL_law_222 rfl ?_
  refine a_V0i (pc := 223) 10 dL_law_223 lcX11_flush lL_44 rfl rfl rfl (fit_law hL (by decide) rfl (by omega) (by omega)) (m_flush (d0 := 0) (hm.cl hf1) ) rfl rfl (fun r2 S2 g2 hS2 hp2 => ?_)
  obtain ⟨e2, rfl, hM2, hf2⟩ := hp2
  refine a_icmp_eq (pc := 226) 1093 dL_law_226 (by decide) (fun _ => ?_) (fun z => absurd (e1.trans e2.symm) z)
  exact AW_wid (Nat.le_add_right _ _) (Nat.le_add_right _ _) (kk _ _ _ (hC2.md hf2) hM2 (y_flush hy))
set_option maxHeartbeats 1000000 in
set_option maxRecDepth 100000 in
theorem w_entry (hL : Lw b L zs X ad) (hc : CI S g y c) (hm : MI g y) (hy : Yok y) (hn : c < 512) (hi : i + 4 ≤ L) (hk : k ≤ 700) (hn2 : n ≤ 190000) (kk : LwK X Q ad k n c i) : AW mL_law X Q ad k n (conc S g) 367 (lls i) [] := by
  have hc0 := hc
  obtain ⟨kd, kp, rp, hkp, rfl, hb⟩ := hc
  refine a_aload_n (pc := 367) dL_law_367 rfl ?_
  refine a_aload_n (pc := 368) dL_law_368 rfl ?_
  refine a_iload (pc := 369) dL_law_369 rfl ?_
  refine a_iconst (pc := 371) (nI 1) dL_law_371 (by decide) ?_
  refine a_iadd (pc := 372) dL_law_372 ?_
  try rw [nI_add]
  refine s_ial (pc := 373) (i + 1) hL dL_law_373 rfl (by omega) ?_
  refine a_aload_n (pc := 374) dL_law_374 rfl ?_
  refine a_iload (pc := 375) dL_law_375 rfl ?_
  refine a_iconst (pc := 377) (nI 2) dL_law_377 (by decide) ?_
  refine a_iadd (pc := 378) dL_law_378 ?_
  try rw [nI_add]
  refine s_ial (pc := 379) (i + 2) hL dL_law_379 rfl (by omega) ?_
  refine a_V2i (pc := 380) 9 dL_law_380 lcX10_entry lL_57 rfl rfl rfl (fit_law hL (by decide) rfl (by omega) (by omega)) (k_entry (d0 := 0) hc0 hn (zs (i + 1)) (zs (i + 2))) rfl rfl (fun r1 S1 g1 hS1 hp1 => ?_)
  obtain ⟨e1, hC1, hf1⟩ := hp1
  have hC2 := hC1
  obtain ⟨kd1, kp1, rp1, hkp1, rfl, hb1⟩ := hC1
  refine a_aload_n (pc := 383) dL_law_383 rfl ?_
  refine a_aload_n (pc := 384) dL_law_384 rfl ?_
  refine a_iload (pc := 385) dL_law_385 rfl ?_
  refine a_iconst (pc := 387) (nI 1) dL_law_387 (by decide) ?_
  refine a_iadd (pc := 388) dL_law_388 ?_
  try rw [nI_add]
  refine s_ial (pc := 389) (i + 1) hL dL_law_389 rfl (by omega) ?_
  refine a_aload_n (pc := 390) dL_law_390 rfl ?_
  refine a_iload (pc := 391) dL_law_391 rfl ?_
  refine a_iconst (pc := 393) (nI 2) dL_law_393 (by decide) ?_
  refine a_iadd (pc := 394) dL_law_394 ?_
  try rw [nI_add]
  refine s_ial (pc := 395) (i + 2) hL dL_law_395 rfl (by omega) ?_
  refine a_V2i (pc := 396) 10 dL_law_396 lcX11_entry lL_60 rfl rfl rfl (fit_law hL (by decide) rfl (by omega) (by omega)) (m_entry (d0 := 0) (hm.cl hf1) (zs (i + 1)) (zs (i + 2))) rfl rfl (fun r2 S2 g2 hS2 hp2 => ?_)
  obtain ⟨e2, rfl, hM2, hf2⟩ := hp2
  refine a_icmp_eq (pc := 399) 1093 dL_law_399 (by decide) (fun _ => ?_) (fun z => absurd (e1.trans e2.symm) z)
  exact AW_wid (Nat.le_add_right _ _) (Nat.le_add_right _ _) (kk _ _ _ (hC2.md hf2) hM2 (y_entry hy _ _))
set_option maxHeartbeats 1000000 in
set_option maxRecDepth 100000 in
theorem w_states (hL : Lw b L zs X ad) (hc : CI S g y c) (hm : MI g y) (hy : Yok y) (hn : c < 512) (hi : i + 4 ≤ L) (hk : k ≤ 700) (hn2 : n ≤ 190000) (kk : LwK X Q ad k n c i) : AW mL_law X Q ad k n (conc S g) 404 (lls i) [] := by
  have hc0 := hc
  obtain ⟨kd, kp, rp, hkp, rfl, hb⟩ := hc
  refine a_aload_n (pc := 404) dL_law_404 rfl ?_
  refine a_V0i (pc := 405) 9 dL_law_405 lcX10_states lL_61 rfl rfl rfl (fit_law hL (by decide) rfl (by omega) (by omega)) (k_states (d0 := 0) hc0 hn ) rfl rfl (fun r1 S1 g1 hS1 hp1 => ?_)
  obtain ⟨e1, hC1, hf1⟩ := hp1
  have hC2 := hC1
  obtain ⟨kd1, kp1, rp1, hkp1, rfl, hb1⟩ := hC1
  refine a_aload_n (pc := 408) dL_law_408 rfl ?_
  refine a_V0i (pc := 409) 10 dL_law_409 lcX11_states lL_64 rfl rfl rfl (fit_law hL (by decide) rfl (by omega) (by omega)) (m_states (d0 := 0) (hm.cl hf1) ) rfl rfl (fun r2 S2 g2 hS2 hp2 => ?_)
  obtain ⟨e2, rfl, hM2, hf2⟩ := hp2
  refine a_icmp_eq (pc := 412) 1093 dL_law_412 (by decide) (fun _ => ?_) (fun z => absurd (e1.trans e2.symm) z)
  exact AW_wid (Nat.le_add_right _ _) (Nat.le_add_right _ _) (kk _ _ _ (hC2.md hf2) hM2 (y_states hy))
set_option maxHeartbeats 1000000 in
set_option maxRecDepth 100000 in
theorem w_fall (hL : Lw b L zs X ad) (hc : CI S g y c) (hm : MI g y) (hy : Yok y) (hn : c < 512) (hi : i + 4 ≤ L) (hk : k ≤ 700) (hn2 : n ≤ 190000) (kk : LwK X Q ad k n c i) : AW mL_law X Q ad k n (conc S g) 497 (lls i) [] := by
  have hc0 := hc
  obtain ⟨kd, kp, rp, hkp, rfl, hb⟩ := hc
  refine a_aload_n (pc := 497) dL_law_497 rfl ?_
  refine a_aload_n (pc := 498) dL_law_498 rfl ?_
  refine a_iload (pc := 499) dL_law_499 rfl ?_
  refine a_iconst (pc := 501) (nI 1) dL_law_501 (by decide) ?_
  refine a_iadd (pc := 502) dL_law_502 ?_
  try rw [nI_add]
  refine s_ial (pc := 503) (i + 1) hL dL_law_503 rfl (by omega) ?_
  refine a_V1i (pc := 504) 9 dL_law_504 lcX10_fall lL_69 rfl rfl rfl (fit_law hL (by decide) rfl (by omega) (by omega)) (k_fall (d0 := 0) hc0 hn (zs (i + 1))) rfl rfl (fun r1 S1 g1 hS1 hp1 => ?_)
  obtain ⟨e1, hC1, hf1⟩ := hp1
  have hC2 := hC1
  obtain ⟨kd1, kp1, rp1, hkp1, rfl, hb1⟩ := hC1
  refine a_aload_n (pc := 507) dL_law_507 rfl ?_
  refine a_aload_n (pc := 508) dL_law_508 rfl ?_
  refine a_iload (pc := 509) dL_law_509 rfl ?_
  refine a_iconst (pc := 511) (nI 1) dL_law_511 (by decide) ?_
  refine a_iadd (pc := 512) dL_law_512 ?_
  try rw [nI_add]
  refine s_ial (pc := 513) (i + 1) hL dL_law_513 rfl (by omega) ?_
  refine a_V1i (pc := 514) 10 dL_law_514 lcX11_fall lL_73 rfl rfl rfl (fit_law hL (by decide) rfl (by omega) (by omega)) (m_fall (d0 := 0) (hm.cl hf1) (zs (i + 1))) rfl rfl (fun r2 S2 g2 hS2 hp2 => ?_)
  obtain ⟨e2, rfl, hM2, hf2⟩ := hp2
  refine a_icmp_eq (pc := 517) 1093 dL_law_517 (by decide) (fun _ => ?_) (fun z => absurd (e1.trans e2.symm) z)
  exact AW_wid (Nat.le_add_right _ _) (Nat.le_add_right _ _) (kk _ _ _ (hC2.md hf2) hM2 (y_fall hy _))
set_option maxHeartbeats 1000000 in
set_option maxRecDepth 100000 in
theorem w_store (hL : Lw b L zs X ad) (hc : CI S g y c) (hm : MI g y) (hy : Yok y) (hn : c < 512) (hi : i + 4 ≤ L) (hk : k ≤ 700) (hn2 : n ≤ 190000) (kk : LwK X Q ad k n c i) : AW mL_law X Q ad k n (conc S g) 522 (lls i) [] := by
  have hc0 := hc
  obtain ⟨kd, kp, rp, hkp, rfl, hb⟩ := hc
  refine a_aload_n (pc := 522) dL_law_522 rfl ?_
  refine a_aload_n (pc := 523) dL_law_523 rfl ?_
  refine a_iload (pc := 524) dL_law_524 rfl ?_
  refine a_iconst (pc := 526) (nI 1) dL_law_526 (by decide) ?_
  refine a_iadd (pc := 527) dL_law_527 ?_
  try rw [nI_add]
  refine s_ial (pc := 528) (i + 1) hL dL_law_528 rfl (by omega) ?_
  refine a_V1i (pc := 529) 9 dL_law_529 lcX10_store lL_74 rfl rfl rfl (fit_law hL (by decide) rfl (by omega) (by omega)) (k_store (d0 := 0) hc0 hn (zs (i + 1))) rfl rfl (fun r1 S1 g1 hS1 hp1 => ?_)
  obtain ⟨e1, hC1, hf1⟩ := hp1
  have hC2 := hC1
  obtain ⟨kd1, kp1, rp1, hkp1, rfl, hb1⟩ := hC1
  refine a_aload_n (pc := 532) dL_law_532 rfl ?_
  refine a_aload_n (pc := 533) dL_law_533 rfl ?_
  refine a_iload (pc := 534) dL_law_534 rfl ?_
  refine a_iconst (pc := 536) (nI 1) dL_law_536 (by decide) ?_
  refine a_iadd (pc := 537) dL_law_537 ?_
  try rw [nI_add]
  refine s_ial (pc := 538) (i + 1) hL dL_law_538 rfl (by omega) ?_
  refine a_V1i (pc := 539) 10 dL_law_539 lcX11_store lL_77 rfl rfl rfl (fit_law hL (by decide) rfl (by omega) (by omega)) (m_store (d0 := 0) (hm.cl hf1) (zs (i + 1))) rfl rfl (fun r2 S2 g2 hS2 hp2 => ?_)
  obtain ⟨e2, rfl, hM2, hf2⟩ := hp2
  refine a_icmp_eq (pc := 542) 1093 dL_law_542 (by decide) (fun _ => ?_) (fun z => absurd (e1.trans e2.symm) z)
  exact AW_wid (Nat.le_add_right _ _) (Nat.le_add_right _ _) (kk _ _ _ (hC2.md hf2) hM2 (y_store hy _))
set_option maxHeartbeats 1000000 in
set_option maxRecDepth 100000 in
theorem w_put (hL : Lw b L zs X ad) (hc : CI S g y c) (hm : MI g y) (hy : Yok y) (hn : c < 512) (hi : i + 4 ≤ L) (hk : k ≤ 700) (hn2 : n ≤ 190000) (kk : LwK X Q ad k n c i) : AW mL_law X Q ad k n (conc S g) 547 (lls i) [] := by
  have hc0 := hc
  obtain ⟨kd, kp, rp, hkp, rfl, hb⟩ := hc
  refine a_aload_n (pc := 547) dL_law_547 rfl ?_
  refine a_aload_n (pc := 548) dL_law_548 rfl ?_
  refine a_iload (pc := 549) dL_law_549 rfl ?_
  refine a_iconst (pc := 551) (nI 1) dL_law_551 (by decide) ?_
  refine a_iadd (pc := 552) dL_law_552 ?_
  try rw [nI_add]
  refine s_ial (pc := 553) (i + 1) hL dL_law_553 rfl (by omega) ?_
  refine a_aload_n (pc := 554) dL_law_554 rfl ?_
  refine a_iload (pc := 555) dL_law_555 rfl ?_
  refine a_iconst (pc := 557) (nI 2) dL_law_557 (by decide) ?_
  refine a_iadd (pc := 558) dL_law_558 ?_
  try rw [nI_add]
  refine s_ial (pc := 559) (i + 2) hL dL_law_559 rfl (by omega) ?_
  refine a_i2l (pc := 560) dL_law_560 ?_
  refine a_bipush (pc := 561) (nI 32) dL_law_561 (by decide) ?_
  refine a_lshl (pc := 563) dL_law_563 ?_
  refine a_aload_n (pc := 564) dL_law_564 rfl ?_
  refine a_iload (pc := 565) dL_law_565 rfl ?_
  refine a_iconst (pc := 567) (nI 3) dL_law_567 (by decide) ?_
  refine a_iadd (pc := 568) dL_law_568 ?_
  try rw [nI_add]
  refine s_ial (pc := 569) (i + 3) hL dL_law_569 rfl (by omega) ?_
  refine a_i2l (pc := 570) dL_law_570 ?_
  refine a_ldc2 (pc := 571) 4294967295 dL_law_571 (gW_in 1317 (by decide +kernel) rfl) ?_
  refine a_land (pc := 574) dL_law_574 ?_
  refine a_lor (pc := 575) dL_law_575 ?_
  refine a_V2i (pc := 576) 9 dL_law_576 lcX10_put lL_80 rfl rfl rfl (fit_law hL (by decide) rfl (by omega) (by omega)) (k_put (d0 := 0) hc0 hy hn (zs (i + 1)) _) rfl rfl (fun r1 S1 g1 hS1 hp1 => ?_)
  obtain ⟨e1, hC1, hf1⟩ := hp1
  have hC2 := hC1
  obtain ⟨kd1, kp1, rp1, hkp1, rfl, hb1⟩ := hC1
  refine a_aload_n (pc := 579) dL_law_579 rfl ?_
  refine a_aload_n (pc := 580) dL_law_580 rfl ?_
  refine a_iload (pc := 581) dL_law_581 rfl ?_
  refine a_iconst (pc := 583) (nI 1) dL_law_583 (by decide) ?_
  refine a_iadd (pc := 584) dL_law_584 ?_
  try rw [nI_add]
  refine s_ial (pc := 585) (i + 1) hL dL_law_585 rfl (by omega) ?_
  refine a_aload_n (pc := 586) dL_law_586 rfl ?_
  refine a_iload (pc := 587) dL_law_587 rfl ?_
  refine a_iconst (pc := 589) (nI 2) dL_law_589 (by decide) ?_
  refine a_iadd (pc := 590) dL_law_590 ?_
  try rw [nI_add]
  refine s_ial (pc := 591) (i + 2) hL dL_law_591 rfl (by omega) ?_
  refine a_i2l (pc := 592) dL_law_592 ?_
  refine a_bipush (pc := 593) (nI 32) dL_law_593 (by decide) ?_
  refine a_lshl (pc := 595) dL_law_595 ?_
  refine a_aload_n (pc := 596) dL_law_596 rfl ?_
  refine a_iload (pc := 597) dL_law_597 rfl ?_
  refine a_iconst (pc := 599) (nI 3) dL_law_599 (by decide) ?_
  refine a_iadd (pc := 600) dL_law_600 ?_
  try rw [nI_add]
  refine s_ial (pc := 601) (i + 3) hL dL_law_601 rfl (by omega) ?_
  refine a_i2l (pc := 602) dL_law_602 ?_
  refine a_ldc2 (pc := 603) 4294967295 dL_law_603 (gW_in 1317 (by decide +kernel) rfl) ?_
  refine a_land (pc := 606) dL_law_606 ?_
  refine a_lor (pc := 607) dL_law_607 ?_
  refine a_V2i (pc := 608) 10 dL_law_608 lcX11_put lL_84 rfl rfl rfl (fit_law hL (by decide) rfl (by omega) (by omega)) (m_put (d0 := 0) (hm.cl hf1) hy (zs (i + 1)) _) rfl rfl (fun r2 S2 g2 hS2 hp2 => ?_)
  obtain ⟨e2, rfl, hM2, hf2⟩ := hp2
  refine a_icmp_eq (pc := 611) 1093 dL_law_611 (by decide) (fun _ => ?_) (fun z => absurd (e1.trans e2.symm) z)
  exact AW_wid (Nat.le_add_right _ _) (Nat.le_add_right _ _) (kk _ _ _ (hC2.md hf2) hM2 (y_put hy _ _))
set_option maxHeartbeats 1000000 in
set_option maxRecDepth 100000 in
theorem w_move (hL : Lw b L zs X ad) (hc : CI S g y c) (hm : MI g y) (hy : Yok y) (hn : c < 512) (hi : i + 4 ≤ L) (hk : k ≤ 700) (hn2 : n ≤ 190000) (kk : LwK X Q ad k n c i) : AW mL_law X Q ad k n (conc S g) 616 (lls i) [] := by
  have hc0 := hc
  obtain ⟨kd, kp, rp, hkp, rfl, hb⟩ := hc
  refine a_aload_n (pc := 616) dL_law_616 rfl ?_
  refine a_aload_n (pc := 617) dL_law_617 rfl ?_
  refine a_iload (pc := 618) dL_law_618 rfl ?_
  refine a_iconst (pc := 620) (nI 1) dL_law_620 (by decide) ?_
  refine a_iadd (pc := 621) dL_law_621 ?_
  try rw [nI_add]
  refine s_ial (pc := 622) (i + 1) hL dL_law_622 rfl (by omega) ?_
  refine a_aload_n (pc := 623) dL_law_623 rfl ?_
  refine a_iload (pc := 624) dL_law_624 rfl ?_
  refine a_iconst (pc := 626) (nI 2) dL_law_626 (by decide) ?_
  refine a_iadd (pc := 627) dL_law_627 ?_
  try rw [nI_add]
  refine s_ial (pc := 628) (i + 2) hL dL_law_628 rfl (by omega) ?_
  refine a_V2i (pc := 629) 9 dL_law_629 lcX10_move lL_85 rfl rfl rfl (fit_law hL (by decide) rfl (by omega) (by omega)) (k_move (d0 := 0) hc0 hy hn (zs (i + 1)) (zs (i + 2))) rfl rfl (fun r1 S1 g1 hS1 hp1 => ?_)
  obtain ⟨e1, hC1, hf1⟩ := hp1
  have hC2 := hC1
  obtain ⟨kd1, kp1, rp1, hkp1, rfl, hb1⟩ := hC1
  refine a_aload_n (pc := 632) dL_law_632 rfl ?_
  refine a_aload_n (pc := 633) dL_law_633 rfl ?_
  refine a_iload (pc := 634) dL_law_634 rfl ?_
  refine a_iconst (pc := 636) (nI 1) dL_law_636 (by decide) ?_
  refine a_iadd (pc := 637) dL_law_637 ?_
  try rw [nI_add]
  refine s_ial (pc := 638) (i + 1) hL dL_law_638 rfl (by omega) ?_
  refine a_aload_n (pc := 639) dL_law_639 rfl ?_
  refine a_iload (pc := 640) dL_law_640 rfl ?_
  refine a_iconst (pc := 642) (nI 2) dL_law_642 (by decide) ?_
  refine a_iadd (pc := 643) dL_law_643 ?_
  try rw [nI_add]
  refine s_ial (pc := 644) (i + 2) hL dL_law_644 rfl (by omega) ?_
  refine a_V2i (pc := 645) 10 dL_law_645 lcX11_move lL_88 rfl rfl rfl (fit_law hL (by decide) rfl (by omega) (by omega)) (m_move (d0 := 0) (hm.cl hf1) hy (zs (i + 1)) (zs (i + 2))) rfl rfl (fun r2 S2 g2 hS2 hp2 => ?_)
  obtain ⟨e2, rfl, hM2, hf2⟩ := hp2
  refine a_icmp_eq (pc := 648) 1093 dL_law_648 (by decide) (fun _ => ?_) (fun z => absurd (e1.trans e2.symm) z)
  exact AW_wid (Nat.le_add_right _ _) (Nat.le_add_right _ _) (kk _ _ _ (hC2.md hf2) hM2 (y_move hy _ _))
set_option maxHeartbeats 1000000 in
set_option maxRecDepth 100000 in
theorem w_rise (hL : Lw b L zs X ad) (hc : CI S g y c) (hm : MI g y) (hy : Yok y) (hn : c < 512) (hi : i + 4 ≤ L) (hk : k ≤ 700) (hn2 : n ≤ 190000) (kk : LwK X Q ad k n c i) : AW mL_law X Q ad k n (conc S g) 708 (lls i) [] := by
  have hc0 := hc
  obtain ⟨kd, kp, rp, hkp, rfl, hb⟩ := hc
  refine a_aload_n (pc := 708) dL_law_708 rfl ?_
  refine a_V0i (pc := 709) 9 dL_law_709 lcX10_rise lL_93 rfl rfl rfl (fit_law hL (by decide) rfl (by omega) (by omega)) (k_rise (d0 := 0) hc0 hy hn ) rfl rfl (fun r1 S1 g1 hS1 hp1 => ?_)
  obtain ⟨e1, hC1, hf1⟩ := hp1
  have hC2 := hC1
  obtain ⟨kd1, kp1, rp1, hkp1, rfl, hb1⟩ := hC1
  refine a_aload_n (pc := 712) dL_law_712 rfl ?_
  refine a_V0i (pc := 713) 10 dL_law_713 lcX11_rise lL_96 rfl rfl rfl (fit_law hL (by decide) rfl (by omega) (by omega)) (m_rise (d0 := 0) (hm.cl hf1) hy ) rfl rfl (fun r2 S2 g2 hS2 hp2 => ?_)
  obtain ⟨e2, rfl, hM2, hf2⟩ := hp2
  refine a_icmp_eq (pc := 716) 1093 dL_law_716 (by decide) (fun _ => ?_) (fun z => absurd (e1.trans e2.symm) z)
  exact AW_wid (Nat.le_add_right _ _) (Nat.le_add_right _ _) (kk _ _ _ (hC2.md hf2) hM2 (y_rise hy))
set_option maxHeartbeats 1000000 in
set_option maxRecDepth 100000 in
theorem w_isSound (hL : Lw b L zs X ad) (hc : CI S g y c) (hm : MI g y) (hy : Yok y) (hn : c < 512) (hi : i + 4 ≤ L) (hk : k ≤ 700) (hn2 : n ≤ 190000) (kk : LwK X Q ad k n c i) : AW mL_law X Q ad k n (conc S g) 721 (lls i) [] := by
  have hc0 := hc
  obtain ⟨kd, kp, rp, hkp, rfl, hb⟩ := hc
  refine a_aload_n (pc := 721) dL_law_721 rfl ?_
  refine a_V0i (pc := 722) 9 dL_law_722 lcX10_isSound lL_97 rfl rfl rfl (fit_law hL (by decide) rfl (by omega) (by omega)) (k_isSound (d0 := 0) hc0 hy hn ) rfl rfl (fun r1 S1 g1 hS1 hp1 => ?_)
  obtain ⟨e1, hC1, hf1⟩ := hp1
  have hC2 := hC1
  obtain ⟨kd1, kp1, rp1, hkp1, rfl, hb1⟩ := hC1
  refine a_aload_n (pc := 725) dL_law_725 rfl ?_
  refine a_V0i (pc := 726) 10 dL_law_726 lcX11_isSound lL_101 rfl rfl rfl (fit_law hL (by decide) rfl (by omega) (by omega)) (m_isSound (d0 := 0) (hm.cl hf1) hy ) rfl rfl (fun r2 S2 g2 hS2 hp2 => ?_)
  obtain ⟨e2, rfl, hM2, hf2⟩ := hp2
  refine a_icmp_eq (pc := 729) 1093 dL_law_729 (by decide) (fun _ => ?_) (fun z => absurd (e1.trans e2.symm) z)
  exact AW_wid (Nat.le_add_right _ _) (Nat.le_add_right _ _) (kk _ _ _ (hC2.md hf2) hM2 (hy))
set_option maxHeartbeats 1000000 in
set_option maxRecDepth 100000 in
theorem w_addPut (hL : Lw b L zs X ad) (hc : CI S g y c) (hm : MI g y) (hy : Yok y) (hn : c < 512) (hi : i + 4 ≤ L) (hk : k ≤ 700) (hn2 : n ≤ 190000) (kk : LwK X Q ad k n c i) : AW mL_law X Q ad k n (conc S g) 734 (lls i) [] := by
  have hc0 := hc
  obtain ⟨kd, kp, rp, hkp, rfl, hb⟩ := hc
  refine a_aload_n (pc := 734) dL_law_734 rfl ?_
  refine a_aload_n (pc := 735) dL_law_735 rfl ?_
  refine a_iload (pc := 736) dL_law_736 rfl ?_
  refine a_iconst (pc := 738) (nI 1) dL_law_738 (by decide) ?_
  refine a_iadd (pc := 739) dL_law_739 ?_
  try rw [nI_add]
  refine s_ial (pc := 740) (i + 1) hL dL_law_740 rfl (by omega) ?_
  refine a_aload_n (pc := 741) dL_law_741 rfl ?_
  refine a_iload (pc := 742) dL_law_742 rfl ?_
  refine a_iconst (pc := 744) (nI 2) dL_law_744 (by decide) ?_
  refine a_iadd (pc := 745) dL_law_745 ?_
  try rw [nI_add]
  refine s_ial (pc := 746) (i + 2) hL dL_law_746 rfl (by omega) ?_
  refine a_i2l (pc := 747) dL_law_747 ?_
  refine a_bipush (pc := 748) (nI 32) dL_law_748 (by decide) ?_
  refine a_lshl (pc := 750) dL_law_750 ?_
  refine a_aload_n (pc := 751) dL_law_751 rfl ?_
  refine a_iload (pc := 752) dL_law_752 rfl ?_
  refine a_iconst (pc := 754) (nI 3) dL_law_754 (by decide) ?_
  refine a_iadd (pc := 755) dL_law_755 ?_
  try rw [nI_add]
  refine s_ial (pc := 756) (i + 3) hL dL_law_756 rfl (by omega) ?_
  refine a_i2l (pc := 757) dL_law_757 ?_
  refine a_ldc2 (pc := 758) 4294967295 dL_law_758 (gW_in 1317 (by decide +kernel) rfl) ?_
  refine a_land (pc := 761) dL_law_761 ?_
  refine a_lor (pc := 762) dL_law_762 ?_
  refine a_V2i (pc := 763) 9 dL_law_763 lcX10_addPut lL_102 rfl rfl rfl (fit_law hL (by decide) rfl (by omega) (by omega)) (k_addPut (d0 := 0) hc0 hn (zs (i + 1)) _) rfl rfl (fun r1 S1 g1 hS1 hp1 => ?_)
  obtain ⟨e1, hC1, hf1⟩ := hp1
  have hC2 := hC1
  obtain ⟨kd1, kp1, rp1, hkp1, rfl, hb1⟩ := hC1
  refine a_aload_n (pc := 766) dL_law_766 rfl ?_
  refine a_aload_n (pc := 767) dL_law_767 rfl ?_
  refine a_iload (pc := 768) dL_law_768 rfl ?_
  refine a_iconst (pc := 770) (nI 1) dL_law_770 (by decide) ?_
  refine a_iadd (pc := 771) dL_law_771 ?_
  try rw [nI_add]
  refine s_ial (pc := 772) (i + 1) hL dL_law_772 rfl (by omega) ?_
  refine a_aload_n (pc := 773) dL_law_773 rfl ?_
  refine a_iload (pc := 774) dL_law_774 rfl ?_
  refine a_iconst (pc := 776) (nI 2) dL_law_776 (by decide) ?_
  refine a_iadd (pc := 777) dL_law_777 ?_
  try rw [nI_add]
  refine s_ial (pc := 778) (i + 2) hL dL_law_778 rfl (by omega) ?_
  refine a_i2l (pc := 779) dL_law_779 ?_
  refine a_bipush (pc := 780) (nI 32) dL_law_780 (by decide) ?_
  refine a_lshl (pc := 782) dL_law_782 ?_
  refine a_aload_n (pc := 783) dL_law_783 rfl ?_
  refine a_iload (pc := 784) dL_law_784 rfl ?_
  refine a_iconst (pc := 786) (nI 3) dL_law_786 (by decide) ?_
  refine a_iadd (pc := 787) dL_law_787 ?_
  try rw [nI_add]
  refine s_ial (pc := 788) (i + 3) hL dL_law_788 rfl (by omega) ?_
  refine a_i2l (pc := 789) dL_law_789 ?_
  refine a_ldc2 (pc := 790) 4294967295 dL_law_790 (gW_in 1317 (by decide +kernel) rfl) ?_
  refine a_land (pc := 793) dL_law_793 ?_
  refine a_lor (pc := 794) dL_law_794 ?_
  refine a_V2i (pc := 795) 10 dL_law_795 lcX11_addPut lL_105 rfl rfl rfl (fit_law hL (by decide) rfl (by omega) (by omega)) (m_addPut (d0 := 0) (hm.cl hf1) (zs (i + 1)) _) rfl rfl (fun r2 S2 g2 hS2 hp2 => ?_)
  obtain ⟨e2, rfl, hM2, hf2⟩ := hp2
  refine a_icmp_eq (pc := 798) 1093 dL_law_798 (by decide) (fun _ => ?_) (fun z => absurd (e1.trans e2.symm) z)
  exact AW_wid (Nat.le_add_right _ _) (Nat.le_add_right _ _) (kk _ _ _ (hC2.md hf2) hM2 (y_addPut hy _ _))
set_option maxHeartbeats 1000000 in
set_option maxRecDepth 100000 in
theorem w_addMove (hL : Lw b L zs X ad) (hc : CI S g y c) (hm : MI g y) (hy : Yok y) (hn : c < 512) (hi : i + 4 ≤ L) (hk : k ≤ 700) (hn2 : n ≤ 190000) (kk : LwK X Q ad k n c i) : AW mL_law X Q ad k n (conc S g) 803 (lls i) [] := by
  have hc0 := hc
  obtain ⟨kd, kp, rp, hkp, rfl, hb⟩ := hc
  refine a_aload_n (pc := 803) dL_law_803 rfl ?_
  refine a_aload_n (pc := 804) dL_law_804 rfl ?_
  refine a_iload (pc := 805) dL_law_805 rfl ?_
  refine a_iconst (pc := 807) (nI 1) dL_law_807 (by decide) ?_
  refine a_iadd (pc := 808) dL_law_808 ?_
  try rw [nI_add]
  refine s_ial (pc := 809) (i + 1) hL dL_law_809 rfl (by omega) ?_
  refine a_aload_n (pc := 810) dL_law_810 rfl ?_
  refine a_iload (pc := 811) dL_law_811 rfl ?_
  refine a_iconst (pc := 813) (nI 2) dL_law_813 (by decide) ?_
  refine a_iadd (pc := 814) dL_law_814 ?_
  try rw [nI_add]
  refine s_ial (pc := 815) (i + 2) hL dL_law_815 rfl (by omega) ?_
  refine a_V2i (pc := 816) 9 dL_law_816 lcX10_addMove lL_106 rfl rfl rfl (fit_law hL (by decide) rfl (by omega) (by omega)) (k_addMove (d0 := 0) hc0 hn (zs (i + 1)) (zs (i + 2))) rfl rfl (fun r1 S1 g1 hS1 hp1 => ?_)
  obtain ⟨e1, hC1, hf1⟩ := hp1
  have hC2 := hC1
  obtain ⟨kd1, kp1, rp1, hkp1, rfl, hb1⟩ := hC1
  refine a_aload_n (pc := 819) dL_law_819 rfl ?_
  refine a_aload_n (pc := 820) dL_law_820 rfl ?_
  refine a_iload (pc := 821) dL_law_821 rfl ?_
  refine a_iconst (pc := 823) (nI 1) dL_law_823 (by decide) ?_
  refine a_iadd (pc := 824) dL_law_824 ?_
  try rw [nI_add]
  refine s_ial (pc := 825) (i + 1) hL dL_law_825 rfl (by omega) ?_
  refine a_aload_n (pc := 826) dL_law_826 rfl ?_
  refine a_iload (pc := 827) dL_law_827 rfl ?_
  refine a_iconst (pc := 829) (nI 2) dL_law_829 (by decide) ?_
  refine a_iadd (pc := 830) dL_law_830 ?_
  try rw [nI_add]
  refine s_ial (pc := 831) (i + 2) hL dL_law_831 rfl (by omega) ?_
  refine a_V2i (pc := 832) 10 dL_law_832 lcX11_addMove lL_109 rfl rfl rfl (fit_law hL (by decide) rfl (by omega) (by omega)) (m_addMove (d0 := 0) (hm.cl hf1) (zs (i + 1)) (zs (i + 2))) rfl rfl (fun r2 S2 g2 hS2 hp2 => ?_)
  obtain ⟨e2, rfl, hM2, hf2⟩ := hp2
  refine a_icmp_eq (pc := 835) 1093 dL_law_835 (by decide) (fun _ => ?_) (fun z => absurd (e1.trans e2.symm) z)
  exact AW_wid (Nat.le_add_right _ _) (Nat.le_add_right _ _) (kk _ _ _ (hC2.md hf2) hM2 (y_addMove hy _ _))
set_option maxHeartbeats 1000000 in
set_option maxRecDepth 100000 in
theorem w_addSure (hL : Lw b L zs X ad) (hc : CI S g y c) (hm : MI g y) (hy : Yok y) (hn : c < 512) (hi : i + 4 ≤ L) (hk : k ≤ 700) (hn2 : n ≤ 190000) (kk : LwK X Q ad k n c i) : AW mL_law X Q ad k n (conc S g) 840 (lls i) [] := by
  have hc0 := hc
  obtain ⟨kd, kp, rp, hkp, rfl, hb⟩ := hc
  refine a_aload_n (pc := 840) dL_law_840 rfl ?_
  refine a_V0i (pc := 841) 9 dL_law_841 lcX10_addSure lL_110 rfl rfl rfl (fit_law hL (by decide) rfl (by omega) (by omega)) (k_addSure (d0 := 0) hc0 hn ) rfl rfl (fun r1 S1 g1 hS1 hp1 => ?_)
  obtain ⟨e1, hC1, hf1⟩ := hp1
  have hC2 := hC1
  obtain ⟨kd1, kp1, rp1, hkp1, rfl, hb1⟩ := hC1
  refine a_aload_n (pc := 844) dL_law_844 rfl ?_
  refine a_V0i (pc := 845) 10 dL_law_845 lcX11_addSure lL_113 rfl rfl rfl (fit_law hL (by decide) rfl (by omega) (by omega)) (m_addSure (d0 := 0) (hm.cl hf1) ) rfl rfl (fun r2 S2 g2 hS2 hp2 => ?_)
  obtain ⟨e2, rfl, hM2, hf2⟩ := hp2
  refine a_icmp_eq (pc := 848) 1093 dL_law_848 (by decide) (fun _ => ?_) (fun z => absurd (e1.trans e2.symm) z)
  exact AW_wid (Nat.le_add_right _ _) (Nat.le_add_right _ _) (kk _ _ _ (hC2.md hf2) hM2 (y_addSure hy))
set_option maxHeartbeats 1000000 in
set_option maxRecDepth 100000 in
theorem w_clear (hL : Lw b L zs X ad) (hc : CI S g y c) (hm : MI g y) (hy : Yok y) (hn : c < 512) (hi : i + 4 ≤ L) (hk : k ≤ 700) (hn2 : n ≤ 190000) (kk : LwK X Q ad k n c i) : AW mL_law X Q ad k n (conc S g) 853 (lls i) [] := by
  have hc0 := hc
  obtain ⟨kd, kp, rp, hkp, rfl, hb⟩ := hc
  refine a_aload_n (pc := 853) dL_law_853 rfl ?_
  refine a_V0i (pc := 854) 9 dL_law_854 lcX10_clear lL_114 rfl rfl rfl (fit_law hL (by decide) rfl (by omega) (by omega)) (k_clear (d0 := 0) hc0 hn ) rfl rfl (fun r1 S1 g1 hS1 hp1 => ?_)
  obtain ⟨e1, hC1, hf1⟩ := hp1
  have hC2 := hC1
  obtain ⟨kd1, kp1, rp1, hkp1, rfl, hb1⟩ := hC1
  refine a_aload_n (pc := 857) dL_law_857 rfl ?_
  refine a_V0i (pc := 858) 10 dL_law_858 lcX11_clear lL_117 rfl rfl rfl (fit_law hL (by decide) rfl (by omega) (by omega)) (m_clear (d0 := 0) (hm.cl hf1) ) rfl rfl (fun r2 S2 g2 hS2 hp2 => ?_)
  obtain ⟨e2, rfl, hM2, hf2⟩ := hp2
  refine a_icmp_eq (pc := 861) 1093 dL_law_861 (by decide) (fun _ => ?_) (fun z => absurd (e1.trans e2.symm) z)
  exact AW_wid (Nat.le_add_right _ _) (Nat.le_add_right _ _) (kk _ _ _ (hC2.md hf2) hM2 (y_clear hy))
set_option maxHeartbeats 1000000 in
set_option maxRecDepth 100000 in
theorem w_through (hL : Lw b L zs X ad) (hc : CI S g y c) (hm : MI g y) (hy : Yok y) (hn : c < 512) (hi : i + 4 ≤ L) (hk : k ≤ 700) (hn2 : n ≤ 190000) (kk : LwK X Q ad k n c i) : AW mL_law X Q ad k n (conc S g) 866 (lls i) [] := by
  have hc0 := hc
  obtain ⟨kd, kp, rp, hkp, rfl, hb⟩ := hc
  refine a_aload_n (pc := 866) dL_law_866 rfl ?_
  refine a_aload_n (pc := 867) dL_law_867 rfl ?_
  refine a_iload (pc := 868) dL_law_868 rfl ?_
  refine a_iconst (pc := 870) (nI 1) dL_law_870 (by decide) ?_
  refine a_iadd (pc := 871) dL_law_871 ?_
  try rw [nI_add]
  refine s_ial (pc := 872) (i + 1) hL dL_law_872 rfl (by omega) ?_
  refine a_V1i (pc := 873) 9 dL_law_873 lcX10_through lL_118 rfl rfl rfl (fit_law hL (by decide) rfl (by omega) (by omega)) (k_through (d0 := 0) hc0 hy hn (zs (i + 1))) rfl rfl (fun r1 S1 g1 hS1 hp1 => ?_)
  obtain ⟨e1, hC1, hf1⟩ := hp1
  have hC2 := hC1
  obtain ⟨kd1, kp1, rp1, hkp1, rfl, hb1⟩ := hC1
  refine a_aload_n (pc := 876) dL_law_876 rfl ?_
  refine a_aload_n (pc := 877) dL_law_877 rfl ?_
  refine a_iload (pc := 878) dL_law_878 rfl ?_
  refine a_iconst (pc := 880) (nI 1) dL_law_880 (by decide) ?_
  refine a_iadd (pc := 881) dL_law_881 ?_
  try rw [nI_add]
  refine s_ial (pc := 882) (i + 1) hL dL_law_882 rfl (by omega) ?_
  refine a_V1i (pc := 883) 10 dL_law_883 lcX11_through lL_121 rfl rfl rfl (fit_law hL (by decide) rfl (by omega) (by omega)) (m_through (d0 := 0) (hm.cl hf1) (zs (i + 1))) rfl rfl (fun r2 S2 g2 hS2 hp2 => ?_)
  obtain ⟨e2, rfl, hM2, hf2⟩ := hp2
  refine a_icmp_eq (pc := 886) 1093 dL_law_886 (by decide) (fun _ => ?_) (fun z => absurd (e1.trans e2.symm) z)
  exact AW_wid (Nat.le_add_right _ _) (Nat.le_add_right _ _) (kk _ _ _ (hC2.md hf2) hM2 (y_through hy hm.2.2.2.2.1.2.1 _))
set_option maxHeartbeats 1000000 in
set_option maxRecDepth 100000 in
theorem w_gone (hL : Lw b L zs X ad) (hc : CI S g y c) (hm : MI g y) (hy : Yok y) (hn : c < 512) (hi : i + 4 ≤ L) (hk : k ≤ 700) (hn2 : n ≤ 190000) (kk : LwK X Q ad k n c i) : AW mL_law X Q ad k n (conc S g) 891 (lls i) [] := by
  have hc0 := hc
  obtain ⟨kd, kp, rp, hkp, rfl, hb⟩ := hc
  refine a_aload_n (pc := 891) dL_law_891 rfl ?_
  refine a_aload_n (pc := 892) dL_law_892 rfl ?_
  refine a_iload (pc := 893) dL_law_893 rfl ?_
  refine a_iconst (pc := 895) (nI 1) dL_law_895 (by decide) ?_
  refine a_iadd (pc := 896) dL_law_896 ?_
  try rw [nI_add]
  refine s_ial (pc := 897) (i + 1) hL dL_law_897 rfl (by omega) ?_
  refine a_V1i (pc := 898) 9 dL_law_898 lcX10_gone lL_122 rfl rfl rfl (fit_law hL (by decide) rfl (by omega) (by omega)) (k_gone (d0 := 0) hc0 hn (zs (i + 1))) rfl rfl (fun r1 S1 g1 hS1 hp1 => ?_)
  obtain ⟨e1, hC1, hf1⟩ := hp1
  have hC2 := hC1
  obtain ⟨kd1, kp1, rp1, hkp1, rfl, hb1⟩ := hC1
  refine a_aload_n (pc := 901) dL_law_901 rfl ?_
  refine a_aload_n (pc := 902) dL_law_902 rfl ?_
  refine a_iload (pc := 903) dL_law_903 rfl ?_
  refine a_iconst (pc := 905) (nI 1) dL_law_905 (by decide) ?_
  refine a_iadd (pc := 906) dL_law_906 ?_
  try rw [nI_add]
  refine s_ial (pc := 907) (i + 1) hL dL_law_907 rfl (by omega) ?_
  refine a_V1i (pc := 908) 10 dL_law_908 lcX11_gone lL_125 rfl rfl rfl (fit_law hL (by decide) rfl (by omega) (by omega)) (m_gone (d0 := 0) (hm.cl hf1) (zs (i + 1))) rfl rfl (fun r2 S2 g2 hS2 hp2 => ?_)
  obtain ⟨e2, rfl, hM2, hf2⟩ := hp2
  refine a_icmp_eq (pc := 911) 1093 dL_law_911 (by decide) (fun _ => ?_) (fun z => absurd (e1.trans e2.symm) z)
  exact AW_wid (Nat.le_add_right _ _) (Nat.le_add_right _ _) (kk _ _ _ (hC2.md hf2) hM2 (hy))
set_option maxHeartbeats 1000000 in
set_option maxRecDepth 100000 in
theorem w_bad (hL : Lw b L zs X ad) (hc : CI S g y c) (hm : MI g y) (hy : Yok y) (hn : c < 512) (hi : i + 4 ≤ L) (hk : k ≤ 700) (hn2 : n ≤ 190000) (kk : LwK X Q ad k n c i) : AW mL_law X Q ad k n (conc S g) 916 (lls i) [] := by
  have hc0 := hc
  obtain ⟨kd, kp, rp, hkp, rfl, hb⟩ := hc
  refine a_aload_n (pc := 916) dL_law_916 rfl ?_
  refine a_aload_n (pc := 917) dL_law_917 rfl ?_
  refine a_iload (pc := 918) dL_law_918 rfl ?_
  refine a_iconst (pc := 920) (nI 1) dL_law_920 (by decide) ?_
  refine a_iadd (pc := 921) dL_law_921 ?_
  try rw [nI_add]
  refine s_ial (pc := 922) (i + 1) hL dL_law_922 rfl (by omega) ?_
  refine a_aload_n (pc := 923) dL_law_923 rfl ?_
  refine a_iload (pc := 924) dL_law_924 rfl ?_
  refine a_iconst (pc := 926) (nI 2) dL_law_926 (by decide) ?_
  refine a_iadd (pc := 927) dL_law_927 ?_
  try rw [nI_add]
  refine s_ial (pc := 928) (i + 2) hL dL_law_928 rfl (by omega) ?_
  refine a_V2i (pc := 929) 9 dL_law_929 lcX10_bad lL_126 rfl rfl rfl (fit_law hL (by decide) rfl (by omega) (by omega)) (k_bad (d0 := 0) hc0 hn (zs (i + 1)) (zs (i + 2))) rfl rfl (fun r1 S1 g1 hS1 hp1 => ?_)
  obtain ⟨e1, hC1, hf1⟩ := hp1
  have hC2 := hC1
  obtain ⟨kd1, kp1, rp1, hkp1, rfl, hb1⟩ := hC1
  refine a_aload_n (pc := 932) dL_law_932 rfl ?_
  refine a_aload_n (pc := 933) dL_law_933 rfl ?_
  refine a_iload (pc := 934) dL_law_934 rfl ?_
  refine a_iconst (pc := 936) (nI 1) dL_law_936 (by decide) ?_
  refine a_iadd (pc := 937) dL_law_937 ?_
  try rw [nI_add]
  refine s_ial (pc := 938) (i + 1) hL dL_law_938 rfl (by omega) ?_
  refine a_aload_n (pc := 939) dL_law_939 rfl ?_
  refine a_iload (pc := 940) dL_law_940 rfl ?_
  refine a_iconst (pc := 942) (nI 2) dL_law_942 (by decide) ?_
  refine a_iadd (pc := 943) dL_law_943 ?_
  try rw [nI_add]
  refine s_ial (pc := 944) (i + 2) hL dL_law_944 rfl (by omega) ?_
  refine a_V2i (pc := 945) 10 dL_law_945 lcX11_bad lL_129 rfl rfl rfl (fit_law hL (by decide) rfl (by omega) (by omega)) (m_bad (d0 := 0) (hm.cl hf1) hy (zs (i + 1)) (zs (i + 2))) rfl rfl (fun r2 S2 g2 hS2 hp2 => ?_)
  obtain ⟨e2, rfl, hM2, hf2⟩ := hp2
  refine a_icmp_eq (pc := 948) 1093 dL_law_948 (by decide) (fun _ => ?_) (fun z => absurd (e1.trans e2.symm) z)
  exact AW_wid (Nat.le_add_right _ _) (Nat.le_add_right _ _) (kk _ _ _ (hC2.md hf2) hM2 (y_bad hy _ _))
set_option maxHeartbeats 1000000 in
set_option maxRecDepth 100000 in
theorem w_spare (hL : Lw b L zs X ad) (hc : CI S g y c) (hm : MI g y) (hy : Yok y) (hn : c < 512) (hi : i + 4 ≤ L) (hk : k ≤ 700) (hn2 : n ≤ 190000) (kk : LwK X Q ad k n c i) : AW mL_law X Q ad k n (conc S g) 953 (lls i) [] := by
  have hc0 := hc
  obtain ⟨kd, kp, rp, hkp, rfl, hb⟩ := hc
  refine a_aload_n (pc := 953) dL_law_953 rfl ?_
  refine a_aload_n (pc := 954) dL_law_954 rfl ?_
  refine a_iload (pc := 955) dL_law_955 rfl ?_
  refine a_iconst (pc := 957) (nI 1) dL_law_957 (by decide) ?_
  refine a_iadd (pc := 958) dL_law_958 ?_
  try rw [nI_add]
  refine s_ial (pc := 959) (i + 1) hL dL_law_959 rfl (by omega) ?_
  refine a_aload_n (pc := 960) dL_law_960 rfl ?_
  refine a_iload (pc := 961) dL_law_961 rfl ?_
  refine a_iconst (pc := 963) (nI 2) dL_law_963 (by decide) ?_
  refine a_iadd (pc := 964) dL_law_964 ?_
  try rw [nI_add]
  refine s_ial (pc := 965) (i + 2) hL dL_law_965 rfl (by omega) ?_
  refine a_aload_n (pc := 966) dL_law_966 rfl ?_
  refine a_iload (pc := 967) dL_law_967 rfl ?_
  refine a_iconst (pc := 969) (nI 3) dL_law_969 (by decide) ?_
  refine a_iadd (pc := 970) dL_law_970 ?_
  try rw [nI_add]
  refine s_ial (pc := 971) (i + 3) hL dL_law_971 rfl (by omega) ?_
  refine w_bool (p := 972) dL_law_972 (by decide) dL_law_975 dL_law_976 (by decide) dL_law_979 ?_
  refine a_V3i (pc := 980) 9 dL_law_980 lcX10_spare lL_130 rfl rfl rfl (fit_law hL (by decide) rfl (by omega) (by omega)) (k_spare (d0 := 0) hc0 hy hn (zs (i + 1)) (zs (i + 2)) _) rfl rfl (fun r1 S1 g1 hS1 hp1 => ?_)
  obtain ⟨e1, hC1, hf1⟩ := hp1
  have hC2 := hC1
  obtain ⟨kd1, kp1, rp1, hkp1, rfl, hb1⟩ := hC1
  refine a_aload_n (pc := 983) dL_law_983 rfl ?_
  refine a_aload_n (pc := 984) dL_law_984 rfl ?_
  refine a_iload (pc := 985) dL_law_985 rfl ?_
  refine a_iconst (pc := 987) (nI 1) dL_law_987 (by decide) ?_
  refine a_iadd (pc := 988) dL_law_988 ?_
  try rw [nI_add]
  refine s_ial (pc := 989) (i + 1) hL dL_law_989 rfl (by omega) ?_
  refine a_aload_n (pc := 990) dL_law_990 rfl ?_
  refine a_iload (pc := 991) dL_law_991 rfl ?_
  refine a_iconst (pc := 993) (nI 2) dL_law_993 (by decide) ?_
  refine a_iadd (pc := 994) dL_law_994 ?_
  try rw [nI_add]
  refine s_ial (pc := 995) (i + 2) hL dL_law_995 rfl (by omega) ?_
  refine a_aload_n (pc := 996) dL_law_996 rfl ?_
  refine a_iload (pc := 997) dL_law_997 rfl ?_
  refine a_iconst (pc := 999) (nI 3) dL_law_999 (by decide) ?_
  refine a_iadd (pc := 1000) dL_law_1000 ?_
  try rw [nI_add]
  refine s_ial (pc := 1001) (i + 3) hL dL_law_1001 rfl (by omega) ?_
  refine w_bool (p := 1002) dL_law_1002 (by decide) dL_law_1005 dL_law_1006 (by decide) dL_law_1009 ?_
  refine a_V3i (pc := 1010) 10 dL_law_1010 lcX11_spare lL_134 rfl rfl rfl (fit_law hL (by decide) rfl (by omega) (by omega)) (m_spare (d0 := 0) (hm.cl hf1) hy (zs (i + 1)) (zs (i + 2)) _) rfl rfl (fun r2 S2 g2 hS2 hp2 => ?_)
  obtain ⟨e2, rfl, hM2, hf2⟩ := hp2
  refine a_icmp_eq (pc := 1013) 1093 dL_law_1013 (by decide) (fun _ => ?_) (fun z => absurd (e1.trans e2.symm) z)
  exact AW_wid (Nat.le_add_right _ _) (Nat.le_add_right _ _) (kk _ _ _ (hC2.md hf2) hM2 (y_spare hy _ _ _))
set_option maxHeartbeats 1000000 in
set_option maxRecDepth 100000 in
theorem w_least (hL : Lw b L zs X ad) (hc : CI S g y c) (hm : MI g y) (hy : Yok y) (hn : c < 512) (hi : i + 4 ≤ L) (hk : k ≤ 700) (hn2 : n ≤ 190000) (kk : LwK X Q ad k n c i) : AW mL_law X Q ad k n (conc S g) 1018 (lls i) [] := by
  have hc0 := hc
  obtain ⟨kd, kp, rp, hkp, rfl, hb⟩ := hc
  refine a_aload_n (pc := 1018) dL_law_1018 rfl ?_
  refine a_aload_n (pc := 1019) dL_law_1019 rfl ?_
  refine a_iload (pc := 1020) dL_law_1020 rfl ?_
  refine a_iconst (pc := 1022) (nI 1) dL_law_1022 (by decide) ?_
  refine a_iadd (pc := 1023) dL_law_1023 ?_
  try rw [nI_add]
  refine s_ial (pc := 1024) (i + 1) hL dL_law_1024 rfl (by omega) ?_
  refine a_V1i (pc := 1025) 9 dL_law_1025 lcX10_least lL_135 rfl rfl rfl (fit_law hL (by decide) rfl (by omega) (by omega)) (k_least (d0 := 0) hc0 hy hn (zs (i + 1))) rfl rfl (fun r1 S1 g1 hS1 hp1 => ?_)
  obtain ⟨e1, hC1, hf1⟩ := hp1
  have hC2 := hC1
  obtain ⟨kd1, kp1, rp1, hkp1, rfl, hb1⟩ := hC1
  refine a_aload_n (pc := 1028) dL_law_1028 rfl ?_
  refine a_aload_n (pc := 1029) dL_law_1029 rfl ?_
  refine a_iload (pc := 1030) dL_law_1030 rfl ?_
  refine a_iconst (pc := 1032) (nI 1) dL_law_1032 (by decide) ?_
  refine a_iadd (pc := 1033) dL_law_1033 ?_
  try rw [nI_add]
  refine s_ial (pc := 1034) (i + 1) hL dL_law_1034 rfl (by omega) ?_
  refine a_V1i (pc := 1035) 10 dL_law_1035 lcX11_least lL_138 rfl rfl rfl (fit_law hL (by decide) rfl (by omega) (by omega)) (m_least (d0 := 0) (hm.cl hf1) hy (zs (i + 1))) rfl rfl (fun r2 S2 g2 hS2 hp2 => ?_)
  obtain ⟨e2, rfl, hM2, hf2⟩ := hp2
  refine a_icmp_eq (pc := 1038) 1093 dL_law_1038 (by decide) (fun _ => ?_) (fun z => absurd (e1.trans e2.symm) z)
  exact AW_wid (Nat.le_add_right _ _) (Nat.le_add_right _ _) (kk _ _ _ (hC2.md hf2) hM2 (y_least hy _))
set_option maxHeartbeats 1000000 in
set_option maxRecDepth 100000 in
theorem w_digest (hL : Lw b L zs X ad) (hc : CI S g y c) (hm : MI g y) (hy : Yok y) (hn : c < 512) (hi : i + 4 ≤ L) (hk : k ≤ 700) (hn2 : n ≤ 190000) (kk : LwK X Q ad k n c i) : AW mL_law X Q ad k n (conc S g) 1043 (lls i) [] := by
  have hc0 := hc
  obtain ⟨kd, kp, rp, hkp, rfl, hb⟩ := hc
  refine a_aload_n (pc := 1043) dL_law_1043 rfl ?_
  refine a_aload_n (pc := 1044) dL_law_1044 rfl ?_
  refine a_iload (pc := 1045) dL_law_1045 rfl ?_
  refine a_iconst (pc := 1047) (nI 1) dL_law_1047 (by decide) ?_
  refine a_iadd (pc := 1048) dL_law_1048 ?_
  try rw [nI_add]
  refine s_ial (pc := 1049) (i + 1) hL dL_law_1049 rfl (by omega) ?_
  refine a_V1i (pc := 1050) 9 dL_law_1050 lcX10_digest lL_139 rfl rfl rfl (fit_law hL (by decide) rfl (by omega) (by omega)) (k_digest (d0 := 0) hc0 hn (zs (i + 1))) rfl rfl (fun r1 S1 g1 hS1 hp1 => ?_)
  obtain ⟨e1, hC1, hf1⟩ := hp1
  have hC2 := hC1
  obtain ⟨kd1, kp1, rp1, hkp1, rfl, hb1⟩ := hC1
  refine a_aload_n (pc := 1053) dL_law_1053 rfl ?_
  refine a_aload_n (pc := 1054) dL_law_1054 rfl ?_
  refine a_iload (pc := 1055) dL_law_1055 rfl ?_
  refine a_iconst (pc := 1057) (nI 1) dL_law_1057 (by decide) ?_
  refine a_iadd (pc := 1058) dL_law_1058 ?_
  try rw [nI_add]
  refine s_ial (pc := 1059) (i + 1) hL dL_law_1059 rfl (by omega) ?_
  refine a_V1i (pc := 1060) 10 dL_law_1060 lcX11_digest lL_142 rfl rfl rfl (fit_law hL (by decide) rfl (by omega) (by omega)) (m_digest (d0 := 0) (hm.cl hf1) (zs (i + 1))) rfl rfl (fun r2 S2 g2 hS2 hp2 => ?_)
  obtain ⟨e2, rfl, hM2, hf2⟩ := hp2
  refine a_icmp_eq (pc := 1063) 1093 dL_law_1063 (by decide) (fun _ => ?_) (fun z => absurd (e1.trans e2.symm) z)
  exact AW_wid (Nat.le_add_right _ _) (Nat.le_add_right _ _) (kk _ _ _ (hC2.md hf2) hM2 (hy))
set_option maxHeartbeats 1000000 in
set_option maxRecDepth 100000 in
theorem w_status (hL : Lw b L zs X ad) (hc : CI S g y c) (hm : MI g y) (hy : Yok y) (hn : c < 512) (hi : i + 4 ≤ L) (hk : k ≤ 700) (hn2 : n ≤ 190000) (kk : LwK X Q ad k n c i) : AW mL_law X Q ad k n (conc S g) 1068 (lls i) [] := by
  have hc0 := hc
  obtain ⟨kd, kp, rp, hkp, rfl, hb⟩ := hc
  refine a_aload_n (pc := 1068) dL_law_1068 rfl ?_
  refine a_aload_n (pc := 1069) dL_law_1069 rfl ?_
  refine a_iload (pc := 1070) dL_law_1070 rfl ?_
  refine a_iconst (pc := 1072) (nI 1) dL_law_1072 (by decide) ?_
  refine a_iadd (pc := 1073) dL_law_1073 ?_
  try rw [nI_add]
  refine s_ial (pc := 1074) (i + 1) hL dL_law_1074 rfl (by omega) ?_
  refine a_V1i (pc := 1075) 9 dL_law_1075 lcX10_status lL_143 rfl rfl rfl (fit_law hL (by decide) rfl (by omega) (by omega)) (k_status (d0 := 0) hc0 hy hn (zs (i + 1))) rfl rfl (fun r1 S1 g1 hS1 hp1 => ?_)
  obtain ⟨e1, hC1, hf1⟩ := hp1
  have hC2 := hC1
  obtain ⟨kd1, kp1, rp1, hkp1, rfl, hb1⟩ := hC1
  refine a_aload_n (pc := 1078) dL_law_1078 rfl ?_
  refine a_aload_n (pc := 1079) dL_law_1079 rfl ?_
  refine a_iload (pc := 1080) dL_law_1080 rfl ?_
  refine a_iconst (pc := 1082) (nI 1) dL_law_1082 (by decide) ?_
  refine a_iadd (pc := 1083) dL_law_1083 ?_
  try rw [nI_add]
  refine s_ial (pc := 1084) (i + 1) hL dL_law_1084 rfl (by omega) ?_
  refine a_V1i (pc := 1085) 10 dL_law_1085 lcX11_status lL_146 rfl rfl rfl (fit_law hL (by decide) rfl (by omega) (by omega)) (m_status (d0 := 0) (hm.cl hf1) (zs (i + 1))) rfl rfl (fun r2 S2 g2 hS2 hp2 => ?_)
  obtain ⟨e2, rfl, hM2, hf2⟩ := hp2
  refine a_icmp_eq (pc := 1088) 1093 dL_law_1088 (by decide) (fun _ => ?_) (fun z => absurd (e1.trans e2.symm) z)
  exact AW_wid (Nat.le_add_right _ _) (Nat.le_add_right _ _) (kk _ _ _ (hC2.md hf2) hM2 (hy))
set_option maxHeartbeats 1000000 in
set_option maxRecDepth 100000 in
theorem w_read (hL : Lw b L zs X ad) (hc : CI S g y c) (hm : MI g y) (hy : Yok y) (hn : c < 512) (hi : i + 4 ≤ L) (hk : k ≤ 700) (hn2 : n ≤ 190000) (kk : LwK X Q ad k n c i) : AW mL_law X Q ad k n (conc S g) 231 (lls i) [] := by
  have hc0 := hc
  obtain ⟨kd, kp, rp, hkp, rfl, hb⟩ := hc
  refine a_aload_n (pc := 231) dL_law_231 rfl ?_
  refine a_aload_n (pc := 232) dL_law_232 rfl ?_
  refine a_iload (pc := 233) dL_law_233 rfl ?_
  refine a_iconst (pc := 235) (nI 1) dL_law_235 (by decide) ?_
  refine a_iadd (pc := 236) dL_law_236 ?_
  try rw [nI_add]
  refine s_ial (pc := 237) (i + 1) hL dL_law_237 rfl (by omega) ?_
  refine a_aload_n (pc := 238) dL_law_238 rfl ?_
  refine a_iload (pc := 239) dL_law_239 rfl ?_
  refine a_iconst (pc := 241) (nI 2) dL_law_241 (by decide) ?_
  refine a_iadd (pc := 242) dL_law_242 ?_
  try rw [nI_add]
  refine s_ial (pc := 243) (i + 2) hL dL_law_243 rfl (by omega) ?_
  refine a_aload_n (pc := 244) dL_law_244 rfl ?_
  refine call_SHi (pc := 245) (nn := 4) (vs := [.ref 0, .int (zs (i + 1)), .int (zs (i + 2)), .ref 106]) (st := []) dL_law_245 (gW_in 833 (by decide +kernel) rfl) (gW_in 834 (by decide +kernel) rfl) (gW_in 49 (by decide +kernel) rfl) (gW_in 835 (by decide +kernel) rfl) ⟨by decide, by decide, by decide +kernel⟩ (fitX_law hL (by decide) rfl (by omega) (by omega)) hL.1.2.1 hL.1.2.2 (l_read (d0 := 0) hc0 (zs (i + 1)) (zs (i + 2))) rfl rfl (fun r1 S1 g1 hS1 hp1 => ?_)
  obtain ⟨e1, hC1, hf1⟩ := hp1
  have hC2 := hC1
  obtain ⟨kd1, kp1, rp1, hkp1, rfl, hb1⟩ := hC1
  refine a_istore (pc := 248) (ls' := [_, _, _, _, _, _, _, _]) dL_law_248 (Nat.le_of_ble_eq_true rfl) rfl ?_
  refine a_aload_n (pc := 250) dL_law_250 rfl ?_
  refine a_aload_n (pc := 251) dL_law_251 rfl ?_
  refine a_iload (pc := 252) dL_law_252 rfl ?_
  refine a_iconst (pc := 254) (nI 1) dL_law_254 (by decide) ?_
  refine a_iadd (pc := 255) dL_law_255 ?_
  try rw [nI_add]
  refine s_ial (pc := 256) (i + 1) hL dL_law_256 rfl (by omega) ?_
  refine a_aload_n (pc := 257) dL_law_257 rfl ?_
  refine a_iload (pc := 258) dL_law_258 rfl ?_
  refine a_iconst (pc := 260) (nI 2) dL_law_260 (by decide) ?_
  refine a_iadd (pc := 261) dL_law_261 ?_
  try rw [nI_add]
  refine s_ial (pc := 262) (i + 2) hL dL_law_262 rfl (by omega) ?_
  refine a_V2i (pc := 263) 10 dL_law_263 lcX11_read lL_50 rfl rfl rfl (fit_law hL (by decide) rfl (by omega) (by omega)) (m_read (d0 := 0) (hm.cx hf1) (zs (i + 1)) (zs (i + 2))) rfl rfl (fun r2 S2 g2 hS2 hp2 => ?_)
  obtain ⟨e2, rfl, hM2, hf2⟩ := hp2
  refine a_istore (pc := 266) (ls' := [_, _, _, _, _, _, _, _]) dL_law_266 (Nat.le_of_ble_eq_true rfl) rfl ?_
  refine a_aload_n (pc := 268) dL_law_268 rfl ?_
  refine a_V0i (pc := 269) 10 dL_law_269 lcX11_thrown lL_51 rfl rfl rfl (fit_law hL (by decide) rfl (by omega) (by omega)) (c_thrown (d := 0)) rfl rfl (fun r3 S3 g3 hS3 hp3 => ?_)
  obtain ⟨rfl, rfl, rfl⟩ := hp3
  refine a_iload (pc := 272) dL_law_272 rfl ?_
  have e5 := w_two e1 e2 (hf2.l (a := 106) (by decide))
  have e3 := e5.1
  have e4 := e5.2
  refine a_icmp_eq (pc := 274) 279 dL_law_274 (by decide) (fun _ => ?_) (fun z => absurd e3 z)
  refine a_iload (pc := 279) dL_law_279 rfl ?_
  have fin : AW mL_law X Q ad (k + 1) (n + 6) (conc (SS kd1 kp1 rp1) g3) 296 [some (.ref 107), some (.ref 0), some (.ref 76), some (.ref 106), some (.int (nI i)), some (.int r1), some (.int r2), none] [] := by
    refine a_goto (pc := 296) 1093 dL_law_296 (by decide) ?_
    exact AW_five _ _ _ (kk _ _ _ (hC2.md hf2) hM2 hy)
  refine a_if_ne (pc := 281) 296 dL_law_281 (by decide) (fun _ => fin) (fun z => ?_)
  refine a_aload_n (pc := 284) dL_law_284 rfl ?_
  refine a_iconst (pc := 285) (nI 0) dL_law_285 (by decide) ?_
  refine a_lal (pc := 286) (0) dL_law_286 rfl rfl (by decide) ?_
  refine a_iload (pc := 287) dL_law_287 rfl ?_
  refine a_i2l (pc := 289) dL_law_289 ?_
  refine a_lcmp (pc := 290) dL_law_290 ?_
  exact a_if_eq (pc := 291) 296 dL_law_291 (by decide) (fun _ => fin) (fun z2 => absurd ((lg_cmp_eq _ _).mpr (e4 z)) z2)
set_option maxHeartbeats 1000000 in
set_option maxRecDepth 100000 in
theorem w_plate (hL : Lw b L zs X ad) (hc : CI S g y c) (hm : MI g y) (hy : Yok y) (hn : c < 512) (hi : i + 4 ≤ L) (hk : k ≤ 700) (hn2 : n ≤ 190000) (kk : LwK X Q ad k n c i) : AW mL_law X Q ad k n (conc S g) 299 (lls i) [] := by
  have hc0 := hc
  obtain ⟨kd, kp, rp, hkp, rfl, hb⟩ := hc
  refine a_aload_n (pc := 299) dL_law_299 rfl ?_
  refine a_aload_n (pc := 300) dL_law_300 rfl ?_
  refine a_iload (pc := 301) dL_law_301 rfl ?_
  refine a_iconst (pc := 303) (nI 1) dL_law_303 (by decide) ?_
  refine a_iadd (pc := 304) dL_law_304 ?_
  try rw [nI_add]
  refine s_ial (pc := 305) (i + 1) hL dL_law_305 rfl (by omega) ?_
  refine a_aload_n (pc := 306) dL_law_306 rfl ?_
  refine a_iload (pc := 307) dL_law_307 rfl ?_
  refine a_iconst (pc := 309) (nI 2) dL_law_309 (by decide) ?_
  refine a_iadd (pc := 310) dL_law_310 ?_
  try rw [nI_add]
  refine s_ial (pc := 311) (i + 2) hL dL_law_311 rfl (by omega) ?_
  refine a_aload_n (pc := 312) dL_law_312 rfl ?_
  refine call_SHi (pc := 313) (nn := 4) (vs := [.ref 0, .int (zs (i + 1)), .int (zs (i + 2)), .ref 106]) (st := []) dL_law_313 (gW_in 911 (by decide +kernel) rfl) (gW_in 912 (by decide +kernel) rfl) (gW_in 49 (by decide +kernel) rfl) (gW_in 913 (by decide +kernel) rfl) ⟨by decide, by decide, by decide +kernel⟩ (fitX_law hL (by decide) rfl (by omega) (by omega)) hL.1.2.1 hL.1.2.2 (l_plate (d0 := 0) hc0 (zs (i + 1)) (zs (i + 2))) rfl rfl (fun r1 S1 g1 hS1 hp1 => ?_)
  obtain ⟨e1, hC1, hf1⟩ := hp1
  have hC2 := hC1
  obtain ⟨kd1, kp1, rp1, hkp1, rfl, hb1⟩ := hC1
  refine a_istore (pc := 316) (ls' := [_, _, _, _, _, _, _, _]) dL_law_316 (Nat.le_of_ble_eq_true rfl) rfl ?_
  refine a_aload_n (pc := 318) dL_law_318 rfl ?_
  refine a_aload_n (pc := 319) dL_law_319 rfl ?_
  refine a_iload (pc := 320) dL_law_320 rfl ?_
  refine a_iconst (pc := 322) (nI 1) dL_law_322 (by decide) ?_
  refine a_iadd (pc := 323) dL_law_323 ?_
  try rw [nI_add]
  refine s_ial (pc := 324) (i + 1) hL dL_law_324 rfl (by omega) ?_
  refine a_aload_n (pc := 325) dL_law_325 rfl ?_
  refine a_iload (pc := 326) dL_law_326 rfl ?_
  refine a_iconst (pc := 328) (nI 2) dL_law_328 (by decide) ?_
  refine a_iadd (pc := 329) dL_law_329 ?_
  try rw [nI_add]
  refine s_ial (pc := 330) (i + 2) hL dL_law_330 rfl (by omega) ?_
  refine a_V2i (pc := 331) 10 dL_law_331 lcX11_plate lL_56 rfl rfl rfl (fit_law hL (by decide) rfl (by omega) (by omega)) (m_plate (d0 := 0) (hm.cx hf1) (zs (i + 1)) (zs (i + 2))) rfl rfl (fun r2 S2 g2 hS2 hp2 => ?_)
  obtain ⟨e2, rfl, hM2, hf2⟩ := hp2
  refine a_istore (pc := 334) (ls' := [_, _, _, _, _, _, _, _]) dL_law_334 (Nat.le_of_ble_eq_true rfl) rfl ?_
  refine a_aload_n (pc := 336) dL_law_336 rfl ?_
  refine a_V0i (pc := 337) 10 dL_law_337 lcX11_thrown lL_51 rfl rfl rfl (fit_law hL (by decide) rfl (by omega) (by omega)) (c_thrown (d := 0)) rfl rfl (fun r3 S3 g3 hS3 hp3 => ?_)
  obtain ⟨rfl, rfl, rfl⟩ := hp3
  refine a_iload (pc := 340) dL_law_340 rfl ?_
  have e5 := w_two e1 e2 (hf2.l (a := 106) (by decide))
  have e3 := e5.1
  have e4 := e5.2
  refine a_icmp_eq (pc := 342) 347 dL_law_342 (by decide) (fun _ => ?_) (fun z => absurd e3 z)
  refine a_iload (pc := 347) dL_law_347 rfl ?_
  have fin : AW mL_law X Q ad (k + 1) (n + 6) (conc (SS kd1 kp1 rp1) g3) 364 [some (.ref 107), some (.ref 0), some (.ref 76), some (.ref 106), some (.int (nI i)), some (.int r1), some (.int r2), none] [] := by
    refine a_goto (pc := 364) 1093 dL_law_364 (by decide) ?_
    exact AW_five _ _ _ (kk _ _ _ (hC2.md hf2) hM2 hy)
  refine a_if_ne (pc := 349) 364 dL_law_349 (by decide) (fun _ => fin) (fun z => ?_)
  refine a_aload_n (pc := 352) dL_law_352 rfl ?_
  refine a_iconst (pc := 353) (nI 0) dL_law_353 (by decide) ?_
  refine a_lal (pc := 354) (0) dL_law_354 rfl rfl (by decide) ?_
  refine a_iload (pc := 355) dL_law_355 rfl ?_
  refine a_i2l (pc := 357) dL_law_357 ?_
  refine a_lcmp (pc := 358) dL_law_358 ?_
  exact a_if_eq (pc := 359) 364 dL_law_359 (by decide) (fun _ => fin) (fun z2 => absurd ((lg_cmp_eq _ _).mpr (e4 z)) z2)
set_option maxHeartbeats 1000000 in
set_option maxRecDepth 100000 in
theorem w_state (hL : Lw b L zs X ad) (hc : CI S g y c) (hm : MI g y) (hy : Yok y) (hn : c < 512) (hi : i + 4 ≤ L) (hk : k ≤ 700) (hn2 : n ≤ 190000) (kk : LwK X Q ad k n c i) : AW mL_law X Q ad k n (conc S g) 417 (lls i) [] := by
  have hc0 := hc
  obtain ⟨kd, kp, rp, hkp, rfl, hb⟩ := hc
  refine a_aload_n (pc := 417) dL_law_417 rfl ?_
  refine a_aload_n (pc := 418) dL_law_418 rfl ?_
  refine a_iload (pc := 419) dL_law_419 rfl ?_
  refine a_iconst (pc := 421) (nI 1) dL_law_421 (by decide) ?_
  refine a_iadd (pc := 422) dL_law_422 ?_
  try rw [nI_add]
  refine s_ial (pc := 423) (i + 1) hL dL_law_423 rfl (by omega) ?_
  refine a_aload_n (pc := 424) dL_law_424 rfl ?_
  refine a_iload (pc := 425) dL_law_425 rfl ?_
  refine a_iconst (pc := 427) (nI 2) dL_law_427 (by decide) ?_
  refine a_iadd (pc := 428) dL_law_428 ?_
  try rw [nI_add]
  refine s_ial (pc := 429) (i + 2) hL dL_law_429 rfl (by omega) ?_
  refine a_aload_n (pc := 430) dL_law_430 rfl ?_
  refine a_iload (pc := 431) dL_law_431 rfl ?_
  refine a_iconst (pc := 433) (nI 3) dL_law_433 (by decide) ?_
  refine a_iadd (pc := 434) dL_law_434 ?_
  try rw [nI_add]
  refine s_ial (pc := 435) (i + 3) hL dL_law_435 rfl (by omega) ?_
  refine a_aload_n (pc := 436) dL_law_436 rfl ?_
  refine call_SHi (pc := 437) (nn := 5) (vs := [.ref 0, .int (zs (i + 1)), .int (zs (i + 2)), .int (zs (i + 3)), .ref 106]) (st := []) dL_law_437 (gW_in 918 (by decide +kernel) rfl) (gW_in 919 (by decide +kernel) rfl) (gW_in 49 (by decide +kernel) rfl) (gW_in 920 (by decide +kernel) rfl) ⟨by decide, by decide, by decide +kernel⟩ (fitX_law hL (by decide) rfl (by omega) (by omega)) hL.1.2.1 hL.1.2.2 (l_state (d0 := 0) hc0 hn (zs (i + 1)) (zs (i + 2)) (zs (i + 3))) rfl rfl (fun r1 S1 g1 hS1 hp1 => ?_)
  obtain ⟨e1, hC1, hf1⟩ := hp1
  have hC2 := hC1
  obtain ⟨kd1, kp1, rp1, hkp1, rfl, hb1⟩ := hC1
  refine a_istore (pc := 440) (ls' := [_, _, _, _, _, _, _, _]) dL_law_440 (Nat.le_of_ble_eq_true rfl) rfl ?_
  refine a_aload_n (pc := 442) dL_law_442 rfl ?_
  refine a_aload_n (pc := 443) dL_law_443 rfl ?_
  refine a_iload (pc := 444) dL_law_444 rfl ?_
  refine a_iconst (pc := 446) (nI 1) dL_law_446 (by decide) ?_
  refine a_iadd (pc := 447) dL_law_447 ?_
  try rw [nI_add]
  refine s_ial (pc := 448) (i + 1) hL dL_law_448 rfl (by omega) ?_
  refine a_aload_n (pc := 449) dL_law_449 rfl ?_
  refine a_iload (pc := 450) dL_law_450 rfl ?_
  refine a_iconst (pc := 452) (nI 2) dL_law_452 (by decide) ?_
  refine a_iadd (pc := 453) dL_law_453 ?_
  try rw [nI_add]
  refine s_ial (pc := 454) (i + 2) hL dL_law_454 rfl (by omega) ?_
  refine a_aload_n (pc := 455) dL_law_455 rfl ?_
  refine a_iload (pc := 456) dL_law_456 rfl ?_
  refine a_iconst (pc := 458) (nI 3) dL_law_458 (by decide) ?_
  refine a_iadd (pc := 459) dL_law_459 ?_
  try rw [nI_add]
  refine s_ial (pc := 460) (i + 3) hL dL_law_460 rfl (by omega) ?_
  refine a_V3i (pc := 461) 10 dL_law_461 lcX11_state lL_68 rfl rfl rfl (fit_law hL (by decide) rfl (by omega) (by omega)) (m_state (d0 := 0) (hm.cx hf1) (zs (i + 1)) (zs (i + 2)) (zs (i + 3))) rfl rfl (fun r2 S2 g2 hS2 hp2 => ?_)
  obtain ⟨e2, rfl, hM2, hf2⟩ := hp2
  refine a_istore (pc := 464) (ls' := [_, _, _, _, _, _, _, _]) dL_law_464 (Nat.le_of_ble_eq_true rfl) rfl ?_
  refine a_aload_n (pc := 466) dL_law_466 rfl ?_
  refine a_V0i (pc := 467) 10 dL_law_467 lcX11_thrown lL_51 rfl rfl rfl (fit_law hL (by decide) rfl (by omega) (by omega)) (c_thrown (d := 0)) rfl rfl (fun r3 S3 g3 hS3 hp3 => ?_)
  obtain ⟨rfl, rfl, rfl⟩ := hp3
  refine a_iload (pc := 470) dL_law_470 rfl ?_
  have e5 := w_two e1 e2 (hf2.l (a := 106) (by decide))
  have e3 := e5.1
  have e4 := e5.2
  refine a_icmp_eq (pc := 472) 477 dL_law_472 (by decide) (fun _ => ?_) (fun z => absurd e3 z)
  refine a_iload (pc := 477) dL_law_477 rfl ?_
  have fin : AW mL_law X Q ad (k + 1) (n + 6) (conc (SS kd1 kp1 rp1) g3) 494 [some (.ref 107), some (.ref 0), some (.ref 76), some (.ref 106), some (.int (nI i)), some (.int r1), some (.int r2), none] [] := by
    refine a_goto (pc := 494) 1093 dL_law_494 (by decide) ?_
    exact AW_five _ _ _ (kk _ _ _ (hC2.md hf2) hM2 hy)
  refine a_if_ne (pc := 479) 494 dL_law_479 (by decide) (fun _ => fin) (fun z => ?_)
  refine a_aload_n (pc := 482) dL_law_482 rfl ?_
  refine a_iconst (pc := 483) (nI 0) dL_law_483 (by decide) ?_
  refine a_lal (pc := 484) (0) dL_law_484 rfl rfl (by decide) ?_
  refine a_iload (pc := 485) dL_law_485 rfl ?_
  refine a_i2l (pc := 487) dL_law_487 ?_
  refine a_lcmp (pc := 488) dL_law_488 ?_
  exact a_if_eq (pc := 489) 494 dL_law_489 (by decide) (fun _ => fin) (fun z2 => absurd ((lg_cmp_eq _ _).mpr (e4 z)) z2)
set_option maxHeartbeats 1000000 in
set_option maxRecDepth 100000 in
theorem w_get (hL : Lw b L zs X ad) (hc : CI S g y c) (hm : MI g y) (hy : Yok y) (hn : c < 512) (hi : i + 4 ≤ L) (hk : k ≤ 700) (hn2 : n ≤ 190000) (kk : LwK X Q ad k n c i) : AW mL_law X Q ad k n (conc S g) 653 (lls i) [] := by
  have hc0 := hc
  obtain ⟨kd, kp, rp, hkp, rfl, hb⟩ := hc
  refine a_aload_n (pc := 653) dL_law_653 rfl ?_
  refine a_aload_n (pc := 654) dL_law_654 rfl ?_
  refine a_iload (pc := 655) dL_law_655 rfl ?_
  refine a_iconst (pc := 657) (nI 1) dL_law_657 (by decide) ?_
  refine a_iadd (pc := 658) dL_law_658 ?_
  try rw [nI_add]
  refine s_ial (pc := 659) (i + 1) hL dL_law_659 rfl (by omega) ?_
  refine a_aload_n (pc := 660) dL_law_660 rfl ?_
  refine call_SHi (pc := 661) (nn := 3) (vs := [.ref 0, .int (zs (i + 1)), .ref 106]) (st := []) dL_law_661 (gW_in 926 (by decide +kernel) rfl) (gW_in 927 (by decide +kernel) rfl) (gW_in 49 (by decide +kernel) rfl) (gW_in 928 (by decide +kernel) rfl) ⟨by decide, by decide, by decide +kernel⟩ (fitX_law hL (by decide) rfl (by omega) (by omega)) hL.1.2.1 hL.1.2.2 (l_get (d0 := 0) hc0 hy (zs (i + 1))) rfl rfl (fun r1 S1 g1 hS1 hp1 => ?_)
  obtain ⟨e1, hC1, hf1⟩ := hp1
  have hC2 := hC1
  obtain ⟨kd1, kp1, rp1, hkp1, rfl, hb1⟩ := hC1
  refine a_istore (pc := 664) (ls' := [_, _, _, _, _, _, _, _]) dL_law_664 (Nat.le_of_ble_eq_true rfl) rfl ?_
  refine a_aload_n (pc := 666) dL_law_666 rfl ?_
  refine a_aload_n (pc := 667) dL_law_667 rfl ?_
  refine a_iload (pc := 668) dL_law_668 rfl ?_
  refine a_iconst (pc := 670) (nI 1) dL_law_670 (by decide) ?_
  refine a_iadd (pc := 671) dL_law_671 ?_
  try rw [nI_add]
  refine s_ial (pc := 672) (i + 1) hL dL_law_672 rfl (by omega) ?_
  refine a_V1l (pc := 673) 10 dL_law_673 lcX11_get lL_92 rfl rfl rfl (fit_law hL (by decide) rfl (by omega) (by omega)) (m_get (d0 := 0) (hm.cx hf1) hy (zs (i + 1))) rfl rfl (fun r2 S2 g2 hS2 hp2 => ?_)
  obtain ⟨e2, rfl, hM2, hf2⟩ := hp2
  refine a_lstore (pc := 676) (ls' := [_, _, _, _, _, _, _, _]) dL_law_676 (Nat.le_of_ble_eq_true rfl) rfl ?_
  refine a_aload_n (pc := 678) dL_law_678 rfl ?_
  refine a_V0i (pc := 679) 10 dL_law_679 lcX11_thrown lL_51 rfl rfl rfl (fit_law hL (by decide) rfl (by omega) (by omega)) (c_thrown (d := 0)) rfl rfl (fun r3 S3 g3 hS3 hp3 => ?_)
  obtain ⟨rfl, rfl, rfl⟩ := hp3
  refine a_iload (pc := 682) dL_law_682 rfl ?_
  have e3 : gF g3 76 0 = r1 := e2.1.trans e1.1.symm
  have e4 : r1 = 0 → gL g3 106 0 = r2 := fun z => by
    rw [hf2.l (by decide), e2.2]
    refine e1.2 ?_
    rw [e1.1] at z
    exact (nI_eq (oGet_lt _ _) (by decide)).mp z
  refine a_icmp_eq (pc := 684) 689 dL_law_684 (by decide) (fun _ => ?_) (fun z => absurd e3 z)
  refine a_iload (pc := 689) dL_law_689 rfl ?_
  have fin : AW mL_law X Q ad (k + 1) (n + 6) (conc (SS kd1 kp1 rp1) g3) 705 [some (.ref 107), some (.ref 0), some (.ref 76), some (.ref 106), some (.int (nI i)), some (.int r1), some (.long r2), none] [] := by
    refine a_goto (pc := 705) 1093 dL_law_705 (by decide) ?_
    exact AW_five _ _ _ (kk _ _ _ (hC2.md hf2) hM2 hy)
  refine a_if_ne (pc := 691) 705 dL_law_691 (by decide) (fun _ => fin) (fun z => ?_)
  refine a_aload_n (pc := 694) dL_law_694 rfl ?_
  refine a_iconst (pc := 695) (nI 0) dL_law_695 (by decide) ?_
  refine a_lal (pc := 696) (0) dL_law_696 rfl rfl (by decide) ?_
  refine a_lload (pc := 697) dL_law_697 rfl ?_
  refine a_lcmp (pc := 699) dL_law_699 ?_
  exact a_if_eq (pc := 700) 705 dL_law_700 (by decide) (fun _ => fin) (fun z2 => absurd ((lg_cmp_eq _ _).mpr (e4 z)) z2)
end L89
