set_option maxRecDepth 100000 in
theorem c_mleast1 {d0 kd kp rp : Nat} {g : GH} (s : Int32) (hs : insQ s (nI 0) (nI 2) = false) : ACi mX11_least (d0 + 1) (SS kd kp rp) g [.ref 76, .int s] (fun r S' g' => S' = SS kd kp rp ∧ g' = rfu (th0 g) 2 ∧ r = -nI 2) := by
  refine ACi.of lcX11_least rfl rfl (fun X Q ad hR ret => ?_)
  refine AW_ls (ls' := [_, _, _, _, _, _, _, _]) rfl ?_
  refine a_aload_n (pc := 0) dX11_least_0 rfl ?_
  refine a_iconst (pc := 1) (nI 0) dX11_least_1 (by decide) ?_
  refine a_pi (pc := 2) dX11_least_2 fX11_104 rfl ?_
  refine a_iload_n (pc := 5) dX11_least_5 rfl ?_
  refine a_iconst (pc := 6) (nI 0) dX11_least_6 (by decide) ?_
  refine a_iconst (pc := 7) (nI 2) dX11_least_7 (by decide) ?_
  refine a_S3i (pc := 8) dX11_least_8 lcX11_in lX11_110 (fit_of hR (by omega) rfl) (c_in (d := d0) s (nI 0) (nI 2)) rfl rfl (ex_i ?_)
  refine a_if_neB (pc := 11) 21 dX11_least_11 (by decide) (fun cc => ?_) (fun cc => ?_)
  · exact absurd (cc.symm.trans hs) (by decide)
  · refine a_aload_n (pc := 14) dX11_least_14 rfl ?_
    refine a_bipush (pc := 15) (-2) dX11_least_15 (by decide) ?_
    refine a_V1i (pc := 17) 10 dX11_least_17 lcX11_refuse lX11_114 rfl rfl rfl (fit_of hR (by omega) rfl) (c_refuse (d := d0) 2 (by decide)) rfl rfl (ex_i ?_)
    refine ret _ _ 20 _ _ dX11_least_20 rfl ?_
    exact ⟨rfl, rfl, rfl⟩
set_option maxHeartbeats 1000000 in
set_option maxRecDepth 100000 in
theorem c_mleast2 {d0 kd kp rp : Nat} {g : GH} (store m : Nat) (A : List Ac) (hst : store < 3) (hA : MSc g A) (hm : m < 2 ^ fnN store) (hsp : SpM (gA g 82) store m) : ACi mX11_least (d0 + 8) (SS kd kp rp) g [.ref 76, .int (nI store)] (fun r S' g' => S' = SS kd kp rp ∧ ∃ g1, KG (th0 g) g1 ∧ (walkM A store 0 = none → g' = rfu g1 6 ∧ r = -nI 6) ∧ (∀ rp', walkM A store 0 = some rp' → rp'.1 2 ≠ 0 → g' = rfu g1 5 ∧ r = -nI 5) ∧ (goodM A store 0 → g' = g1 ∧ r = nI (lstW A store (fnN store)).2)) := by
  have hs : insQ (nI store) (nI 0) (nI 2) = true := (insQ_ok (by decide)).mpr ⟨store, by omega, rfl⟩
  have hA' : MSc (th0 g) A := hA
  have hn4 := fnN_le store
  have hn12 : 4 * store + fnN store ≤ 12 := by unfold fnN; split <;> (try split) <;> omega
  have hm16 : m < 16 := by
    have : 2 ^ fnN store ≤ 2 ^ 4 := Nat.pow_le_pow_right (by decide) hn4
    omega
  have hhi : ∀ f, fnN store ≤ f → m.testBit f = false := fun f hf => Nat.testBit_lt_two_pow (Nat.lt_of_lt_of_le hm (Nat.pow_le_pow_right (by decide) hf))
  have hfn : nI (if store = 1 then 4 else if store = 2 then 2 else 0) = nI (fnN store) := rfl
  refine ACi.of lcX11_least rfl rfl (fun X Q ad hR ret => ?_)
  refine AW_ls (ls' := [_, _, _, _, _, _, _, _]) rfl ?_
  refine a_aload_n (pc := 0) dX11_least_0 rfl ?_
  refine a_iconst (pc := 1) (nI 0) dX11_least_1 (by decide) ?_
  refine a_pi (pc := 2) dX11_least_2 fX11_104 rfl ?_
  refine a_iload_n (pc := 5) dX11_least_5 rfl ?_
  refine a_iconst (pc := 6) (nI 0) dX11_least_6 (by decide) ?_
  refine a_iconst (pc := 7) (nI 2) dX11_least_7 (by decide) ?_
  refine a_S3i (pc := 8) dX11_least_8 lcX11_in lX11_110 (fit_of hR (by omega) rfl) (c_in (d := d0) (nI store) (nI 0) (nI 2)) rfl rfl (ex_i ?_)
  refine a_if_neB (pc := 11) 21 dX11_least_11 (by decide) (fun c1 => ?_) (fun c1 => ?_)
  rotate_left
  · exact absurd (c1.symm.trans hs) (by decide)
  refine a_iconst (pc := 21) (nI 0) dX11_least_21 (by decide) ?_
  refine a_istore_n (pc := 22) (ls' := [_, _, _, _, _, _, _, _]) dX11_least_22 (Nat.le_of_ble_eq_true rfl) rfl ?_
  refine a_iload_n (pc := 23) dX11_least_23 rfl ?_
  refine a_S1i (pc := 24) dX11_least_24 lcX11_fencesOf lX11_170 (fit_of hR (by omega) rfl) (c_fencesOf (d0 := d0) store hst) rfl rfl (ex_i ?_)
  rw [hfn]
  generalize hN : fnN store = N at hm hn4 hn12 hhi
  refine a_istore_n (pc := 27) (ls' := [_, _, _, _, _, _, _, _]) dX11_least_27 (Nat.le_of_ble_eq_true rfl) rfl ?_
  refine a_iconst (pc := 28) (nI 0) dX11_least_28 (by decide) ?_
  refine a_istore (pc := 29) (ls' := [_, _, _, _, _, _, _, _]) dX11_least_29 (Nat.le_of_ble_eq_true rfl) rfl ?_
  rw [show pF g 76 0 (nI 0) = th0 g from rfl]
  -- the end: what was spared is put back
  have back : ∀ (could good : Bool) (bits : Int32) (g1 : GH), K8 (th0 g) g1 → (∀ i, ¬ (4 * store ≤ i ∧ i < 4 * store + N) → gA g1 82 i = gA g 82 i) → (walkM A store 0 = none ↔ could = false) → (good = true ↔ goodM A store 0) → (good = true → bits = nI (lstW A store N).2) → ∀ w7 : Option Value, AW mX11_least X Q ad 0 0 (conc (SS kd kp rp) g1) 181 [some (.ref 76), some (.int (nI store)), some (.int (nI m)), some (.int (nI N)), some (.int (bI could)), some (.int (bI good)), some (.int bits), w7] [] := by
    intro could good bits g1 hk hout hc hgd hbits w7
    refine a_iconst (pc := 181) (nI 0) dX11_least_181 (by decide) ?_
    refine a_istore (pc := 182) (ls' := [_, _, _, _, _, _, _, _]) dX11_least_182 (Nat.le_of_ble_eq_true rfl) rfl ?_
    have loop : ∀ t f, N = f + t → ∀ (g2 : GH), K8 (th0 g) g2 → (∀ i, ¬ (4 * store + f ≤ i ∧ i < 4 * store + N) → gA g2 82 i = gA g 82 i) → AW mX11_least X Q ad 0 0 (conc (SS kd kp rp) g2) 184 [some (.ref 76), some (.int (nI store)), some (.int (nI m)), some (.int (nI N)), some (.int (bI could)), some (.int (bI good)), some (.int bits), some (.int (nI f))] [] := by
      intro t
      induction t with
      | zero =>
        intro f hf g2 hk2 ho
        obtain rfl : N = f := by omega
        have k9 : KG (th0 g) g2 := hk2.of (funext fun i => (ho i (by omega)).trans rfl)
        refine a_iload (pc := 184) dX11_least_184 rfl ?_
        refine a_iload_n (pc := 186) dX11_least_186 rfl ?_
        refine a_icmp_geN (pc := 187) 222 dX11_least_187 (by decide) (by omega) (by omega) (fun c2 => ?_) (fun c2 => ?_)
        · refine a_iload (pc := 222) dX11_least_222 rfl ?_
          refine a_if_neB (pc := 224) 236 dX11_least_224 (by decide) (fun c3 => ?_) (fun c3 => ?_)
          · refine a_iload (pc := 236) dX11_least_236 rfl ?_
            refine a_if_eqB (pc := 238) 246 dX11_least_238 (by decide) (fun c4 => ?_) (fun c4 => ?_)
            · refine a_aload_n (pc := 246) dX11_least_246 rfl ?_
              refine a_bipush (pc := 247) (-5) dX11_least_247 (by decide) ?_
              refine a_V1i (pc := 249) 10 dX11_least_249 lcX11_refuse lX11_114 rfl rfl rfl (fit_of hR (by omega) rfl) (c_refuse (d := d0) 5 (by decide)) rfl rfl (ex_i ?_)
              refine ret _ _ 252 _ _ dX11_least_252 rfl ?_
              refine ⟨rfl, g2, k9, fun z => absurd ((hc.mp z).symm.trans c3) (by decide), fun rp' z1 z2 => ⟨rfl, rfl⟩, fun z => absurd ((hgd.mpr z).symm.trans c4) (by decide)⟩
            · refine a_iload (pc := 241) dX11_least_241 rfl ?_
              refine a_goto (pc := 243) 252 dX11_least_243 (by decide) ?_
              refine ret _ _ 252 _ _ dX11_least_252 rfl ?_
              refine ⟨rfl, g2, k9, fun z => absurd ((hc.mp z).symm.trans c3) (by decide), fun rp' z1 z2 => ?_, fun z => ⟨rfl, by rw [hN]; exact hbits c4⟩⟩
              obtain ⟨rp2, y1, y2⟩ := hgd.mp c4
              rw [y1] at z1
              cases z1
              exact absurd y2 z2
          · refine a_aload_n (pc := 227) dX11_least_227 rfl ?_
            refine a_bipush (pc := 228) (-6) dX11_least_228 (by decide) ?_
            refine a_V1i (pc := 230) 10 dX11_least_230 lcX11_refuse lX11_114 rfl rfl rfl (fit_of hR (by omega) rfl) (c_refuse (d := d0) 6 (by decide)) rfl rfl (ex_i ?_)
            refine a_goto (pc := 233) 252 dX11_least_233 (by decide) ?_
            refine ret _ _ 252 _ _ dX11_least_252 rfl ?_
            have hnone := hc.mpr c3
            refine ⟨rfl, g2, k9, fun z => ⟨rfl, rfl⟩, fun rp' z1 z2 => ?_, fun z => ?_⟩
            · rw [hnone] at z1
              cases z1
            · obtain ⟨rp2, y1, y2⟩ := z
              rw [hnone] at y1
              cases y1
        · exact absurd c2 (by omega)
      | succ t ih =>
        intro f hf g2 hk2 ho
        refine a_iload (pc := 184) dX11_least_184 rfl ?_
        refine a_iload_n (pc := 186) dX11_least_186 rfl ?_
        refine a_icmp_geN (pc := 187) 222 dX11_least_187 (by decide) (by omega) (by omega) (fun c2 => ?_) (fun c2 => ?_)
        · exact absurd c2 (by omega)
        · refine a_aload_n (pc := 190) dX11_least_190 rfl ?_
          refine a_gr (pc := 191) dX11_least_191 fX11_29 rfl ?_
          refine a_iconst (pc := 194) (nI 4) dX11_least_194 (by decide) ?_
          refine a_iload_n (pc := 195) dX11_least_195 rfl ?_
          refine a_imul (pc := 196) dX11_least_196 ?_
          try rw [pk_mul]
          refine a_iload (pc := 197) dX11_least_197 rfl ?_
          refine a_iadd (pc := 199) dX11_least_199 ?_
          try rw [nI_add]
          refine a_iload_n (pc := 200) dX11_least_200 rfl ?_
          refine a_iload (pc := 201) dX11_least_201 rfl ?_
          refine a_ishr (pc := 203) dX11_least_203 ?_
          refine a_iconst (pc := 204) (nI 1) dX11_least_204 (by decide) ?_
          refine a_iand (pc := 205) dX11_least_205 ?_
          rw [bt_at m f hm16 (by omega)]
          refine a_iconst (pc := 206) (nI 1) dX11_least_206 (by decide) ?_
          refine AW_val3 215 (bI (m.testBit f)) (fun hJ => ?_) ?_
          · refine a_icmp_ne (pc := 207) 214 dX11_least_207 (by decide) (fun c3 => ?_) (fun c3 => ?_)
            · refine a_iconst (pc := 214) (nI 0) dX11_least_214 (by decide) ?_
              have : m.testBit f = false := by
                cases h : m.testBit f with
                | false => rfl
                | true => rw [h] at c3; exact absurd rfl c3
              exact AW_top (by rw [this]; rfl) hJ
            · refine a_iconst (pc := 210) (nI 1) dX11_least_210 (by decide) ?_
              refine a_goto (pc := 211) 215 dX11_least_211 (by decide) ?_
              have : m.testBit f = true := by
                cases h : m.testBit f with
                | true => rfl
                | false => rw [h] at c3; exact absurd c3 (by decide)
              exact AW_top (by rw [this]; rfl) hJ
          · refine a_zst (pc := 215) _ dX11_least_215 rfl rfl (by omega) (by first | exact Or.inl rfl | exact Or.inr rfl | exact bI_01 _) ?_
            refine a_iinc (pc := 216) (ls' := [_, _, _, _, _, _, _, _]) (nI 1) dX11_least_216 (by decide) rfl (Nat.le_of_ble_eq_true rfl) rfl ?_
            try rw [nI_add]
            refine a_goto (pc := 219) 184 dX11_least_219 (by decide) ?_
            refine ih (f + 1) (by omega) _ (hk2.st _) (fun i hi => ?_)
            rw [gA_pA, if_pos rfl, upd]
            by_cases e : i = 4 * store + f
            · rw [if_pos e, e, hsp f (by omega)]
            · rw [if_neg e]
              exact ho i (by omega)
    exact loop N 0 (by omega) g1 hk (fun i hi => hout i (by omega))
  have tries : ∀ t f, N = f + t → ∀ (g1 : GH), K8 (th0 g) g1 → (∀ i, ¬ (4 * store ≤ i ∧ i < 4 * store + N) → gA g1 82 i = gA g 82 i) → SpM (gA g1 82) store (lstW A store f).1 → goodM A store 0 → AW mX11_least X Q ad 0 0 (conc (SS kd kp rp) g1) 114 [some (.ref 76), some (.int (nI store)), some (.int (nI m)), some (.int (nI N)), some (.int (bI true)), some (.int (bI true)), some (.int (nI (lstW A store f).2)), some (.int (nI f))] [] := by
    intro t
    induction t with
    | zero =>
      intro f hf g1 hk hout hsp1 hgd
      obtain rfl : N = f := by omega
      refine a_iload (pc := 114) dX11_least_114 rfl ?_
      refine a_iload_n (pc := 116) dX11_least_116 rfl ?_
      refine a_icmp_geN (pc := 117) 181 dX11_least_117 (by decide) (by omega) (by omega) (fun c2 => ?_) (fun c2 => ?_)
      · refine back true true _ g1 hk hout ?_ (by simp [hgd]) (fun _ => rfl) _
        obtain ⟨rp2, y1, -⟩ := hgd
        rw [y1]
        simp
      · exact absurd c2 (by omega)
    | succ t ih =>
      intro f hf g1 hk hout hsp1 hgd
      obtain ⟨l1, l2, l3⟩ := lstW_lt A store f (by omega)
      obtain ⟨l4, l5⟩ := bt_or _ f l1 (by omega)
      obtain ⟨l6, l7⟩ := bt_or _ f l2 (by omega)
      refine a_iload (pc := 114) dX11_least_114 rfl ?_
      refine a_iload_n (pc := 116) dX11_least_116 rfl ?_
      refine a_icmp_geN (pc := 117) 181 dX11_least_117 (by decide) (by omega) (by omega) (fun c2 => ?_) (fun c2 => ?_)
      · exact absurd c2 (by omega)
      refine a_iload (pc := 120) dX11_least_120 rfl ?_
      refine a_if_eqB (pc := 122) 181 dX11_least_122 (by decide) (fun c3 => ?_) (fun c3 => ?_)
      · cases c3
      refine a_aload_n (pc := 125) dX11_least_125 rfl ?_
      refine a_gr (pc := 126) dX11_least_126 fX11_29 rfl ?_
      refine a_iconst (pc := 129) (nI 4) dX11_least_129 (by decide) ?_
      refine a_iload_n (pc := 130) dX11_least_130 rfl ?_
      refine a_imul (pc := 131) dX11_least_131 ?_
      try rw [pk_mul]
      refine a_iload (pc := 132) dX11_least_132 rfl ?_
      refine a_iadd (pc := 134) dX11_least_134 ?_
      try rw [nI_add]
      refine a_iconst (pc := 135) (nI 1) dX11_least_135 (by decide) ?_
      refine a_zst (pc := 136) _ dX11_least_136 rfl rfl (by omega) (by first | exact Or.inl rfl | exact Or.inr rfl | exact bI_01 _) ?_
      refine a_aload_n (pc := 137) dX11_least_137 rfl ?_
      refine a_iload_n (pc := 138) dX11_least_138 rfl ?_
      have hsp2 : SpM (gA (pA g1 82 (upd (gA g1 82) (4 * store + f) (nI 1))) 82) store ((lstW A store f).1 ||| 1 <<< f) := by
        intro f' hf'
        rw [gA_pA, if_pos rfl, upd, bt_t _ f f' l1 (by omega) hf']
        by_cases e : f' = f
        · rw [if_pos (by omega), if_pos e]
          rfl
        · rw [if_neg (by omega), if_neg e]
          exact hsp1 f' hf'
      have hk2 : K8 (th0 g) (pA g1 82 (upd (gA g1 82) (4 * store + f) (nI 1))) := hk.st _
      have ho2 : ∀ i, ¬ (4 * store ≤ i ∧ i < 4 * store + N) → gA (pA g1 82 (upd (gA g1 82) (4 * store + f) (nI 1))) 82 i = gA g 82 i := fun i hi => by
        rw [gA_pA, if_pos rfl, upd, if_neg (by omega)]
        exact hout i hi
      generalize pA g1 82 (upd (gA g1 82) (4 * store + f) (nI 1)) = g2 at hsp2 hk2 ho2 ⊢
      refine a_V1i (pc := 139) 10 dX11_least_139 lcX11_goThrough lX11_250 rfl rfl rfl (fit_of hR (by omega) rfl) (c_goThrough (d0 := d0) store A hst (hk2.msc hA')) rfl rfl (fun rr S' g' hS hp => ?_)
      obtain ⟨rfl, b, rfl, k3, hy, hno⟩ := hp
      rw [walkM_of hst hsp2] at hy hno
      have e82 : gA g' 82 = gA g2 82 := k3.1 82 (by decide)
      have worse : ¬ goodM A store ((lstW A store f).1 ||| 1 <<< f) → AW mX11_least X Q ad 0 0 (conc (SS kd kp rp) g') 154 [some (.ref 76), some (.int (nI store)), some (.int (nI m)), some (.int (nI N)), some (.int (bI true)), some (.int (bI true)), some (.int (nI (lstW A store f).2)), some (.int (nI f))] [] := by
        intro hng
        refine a_aload_n (pc := 154) dX11_least_154 rfl ?_
        refine a_gr (pc := 155) dX11_least_155 fX11_29 rfl ?_
        refine a_iconst (pc := 158) (nI 4) dX11_least_158 (by decide) ?_
        refine a_iload_n (pc := 159) dX11_least_159 rfl ?_
        refine a_imul (pc := 160) dX11_least_160 ?_
        try rw [pk_mul]
        refine a_iload (pc := 161) dX11_least_161 rfl ?_
        refine a_iadd (pc := 163) dX11_least_163 ?_
        try rw [nI_add]
        refine a_iconst (pc := 164) (nI 0) dX11_least_164 (by decide) ?_
        refine a_zst (pc := 165) _ dX11_least_165 rfl rfl (by omega) (by first | exact Or.inl rfl | exact Or.inr rfl | exact bI_01 _) ?_
        refine a_iload (pc := 166) dX11_least_166 rfl ?_
        refine a_iconst (pc := 168) (nI 1) dX11_least_168 (by decide) ?_
        refine a_iload (pc := 169) dX11_least_169 rfl ?_
        refine a_ishl (pc := 171) dX11_least_171 ?_
        refine a_ior (pc := 172) dX11_least_172 ?_
        rw [l6]
        refine a_istore (pc := 173) (ls' := [_, _, _, _, _, _, _, _]) dX11_least_173 (Nat.le_of_ble_eq_true rfl) rfl ?_
        refine a_iinc (pc := 175) (ls' := [_, _, _, _, _, _, _, _]) (nI 1) dX11_least_175 (by decide) rfl (Nat.le_of_ble_eq_true rfl) rfl ?_
        try rw [nI_add]
        refine a_goto (pc := 178) 114 dX11_least_178 (by decide) ?_
        rw [show (lstW A store f).2 ||| 1 <<< f = (lstW A store (f + 1)).2 by rw [lstW_n hng]]
        refine ih (f + 1) (by omega) _ ((hk2.kg k3).st _) (fun i hi => ?_) ?_ hgd
        · rw [gA_pA, if_pos rfl, upd, if_neg (by omega), e82]
          exact ho2 i hi
        · rw [lstW_n hng]
          intro f' hf'
          rw [gA_pA, if_pos rfl, upd]
          by_cases e : f' = f
          · rw [if_pos (by omega), e, bt_no _ f l3 (by omega)]
            rfl
          · rw [if_neg (by omega), e82, hsp2 f' hf', bt_t _ f f' l1 (by omega) hf', if_neg e]
      refine a_if_eqB (pc := 142) 154 dX11_least_142 (by decide) (fun c4 => ?_) (fun c4 => ?_)
      · refine worse ?_
        rintro ⟨rp2, y1, -⟩
        rw [hno c4] at y1
        cases y1
      · obtain ⟨rp2, y1, y2⟩ := hy c4
        refine a_aload_n (pc := 145) dX11_least_145 rfl ?_
        refine a_gr (pc := 146) dX11_least_146 fX11_80 rfl ?_
        refine a_iconst (pc := 149) (nI 2) dX11_least_149 (by decide) ?_
        refine a_ial (pc := 150) _ dX11_least_150 rfl rfl (by omega) ?_
        have hb2 : rp2.1 2 < 2147483648 := by
          have h9 : walkO A store (spB store ((lstW A store f).1 ||| 1 <<< f)) = some rp2 := y1
          unfold walkO at h9
          match z : goO A store (spB store ((lstW A store f).1 ||| 1 <<< f)) A.length with
          | none => rw [z] at h9; cases h9
          | some (su, w) =>
            rw [z] at h9
            cases h9
            have h8 := goO_N _ _ _ z
            have := hA.2.1
            have a1 := h8.1
            have a2 := h8.2.2.1
            show w.2.1 2 < _
            omega
        rw [y2.1 2 (by decide)]
        refine a_if_leN (pc := 151) 175 dX11_least_151 (by decide) (by omega) (fun c5 => ?_) (fun c5 => ?_)
        · refine a_iinc (pc := 175) (ls' := [_, _, _, _, _, _, _, _]) (nI 1) dX11_least_175 (by decide) rfl (Nat.le_of_ble_eq_true rfl) rfl ?_
          try rw [nI_add]
          refine a_goto (pc := 178) 114 dX11_least_178 (by decide) ?_
          have hgd2 : goodM A store ((lstW A store f).1 ||| 1 <<< f) := ⟨rp2, y1, by omega⟩
          rw [show (lstW A store f).2 = (lstW A store (f + 1)).2 by rw [lstW_y hgd2]]
          refine ih (f + 1) (by omega) g' (hk2.kg k3) (fun i hi => by rw [e82]; exact ho2 i hi) ?_ hgd
          rw [lstW_y hgd2, e82]
          exact hsp2
        · refine worse ?_
          rintro ⟨rp3, z1, z2⟩
          rw [y1] at z1
          cases z1
          omega
  have first : ∀ t f, N = f + t → ∀ (g1 : GH), K8 (th0 g) g1 → (∀ i, ¬ (4 * store ≤ i ∧ i < 4 * store + f) → gA g1 82 i = gA g 82 i) → (∀ i, 4 * store ≤ i → i < 4 * store + f → gA g1 82 i = nI 0) → AW mX11_least X Q ad 0 0 (conc (SS kd kp rp) g1) 31 [some (.ref 76), some (.int (nI store)), some (.int (nI (m % 2 ^ f))), some (.int (nI N)), some (.int (nI f)), none, none, none] [] := by
    intro t
    induction t with
    | zero =>
      intro f hf g1 hk hout hin
      obtain rfl : N = f := by omega
      rw [Nat.mod_eq_of_lt hm]
      have hsp1 : SpM (gA g1 82) store 0 := fun f' hf' => by
        rw [Nat.zero_testBit]
        rcases Nat.lt_or_ge f' N with q | q
        · rw [hin _ (by omega) (by omega)]
          rfl
        · rw [hout _ (by omega), hsp f' hf', hhi f' q]
      refine a_iload (pc := 31) dX11_least_31 rfl ?_
      refine a_iload_n (pc := 33) dX11_least_33 rfl ?_
      refine a_icmp_geN (pc := 34) 80 dX11_least_34 (by decide) (by omega) (by omega) (fun c2 => ?_) (fun c2 => ?_)
      · refine a_aload_n (pc := 80) dX11_least_80 rfl ?_
        refine a_iload_n (pc := 81) dX11_least_81 rfl ?_
        refine a_V1i (pc := 82) 10 dX11_least_82 lcX11_goThrough lX11_250 rfl rfl rfl (fit_of hR (by omega) rfl) (c_goThrough (d0 := d0) store A hst (hk.msc hA')) rfl rfl (fun rr S' g' hS hp => ?_)
        obtain ⟨rfl, b, rfl, k3, hy, hno⟩ := hp
        rw [walkM_of hst hsp1] at hy hno
        have e82 : gA g' 82 = gA g1 82 := k3.1 82 (by decide)
        have ho3 : ∀ i, ¬ (4 * store ≤ i ∧ i < 4 * store + N) → gA g' 82 i = gA g 82 i := fun i hi => by rw [e82]; exact hout i hi
        have hk3 := hk.kg k3
        refine a_istore (pc := 85) (ls' := [_, _, _, _, _, _, _, _]) dX11_least_85 (Nat.le_of_ble_eq_true rfl) rfl ?_
        refine a_iload (pc := 87) dX11_least_87 rfl ?_
        have bad : b = false ∨ (b = true ∧ ∃ rp2, walkM A store 0 = some rp2 ∧ rp2.1 2 ≠ 0) → AW mX11_least X Q ad 0 0 (conc (SS kd kp rp) g') 105 [some (.ref 76), some (.int (nI store)), some (.int (nI m)), some (.int (nI N)), some (.int (bI b)), none, none, none] [] := by
          intro hb
          have hng : ¬ goodM A store 0 := by
            rintro ⟨rp3, z1, z2⟩
            rcases hb with hb | ⟨hb, rp2, z3, z4⟩
            · rw [hno hb] at z1
              cases z1
            · rw [z3] at z1
              cases z1
              exact z4 z2
          have hiff : walkM A store 0 = none ↔ b = false := by
            constructor
            · intro z
              cases b with
              | false => rfl
              | true =>
                obtain ⟨rp2, y1, -⟩ := hy rfl
                rw [z] at y1
                cases y1
            · exact hno
          have go : AW mX11_least X Q ad 0 0 (conc (SS kd kp rp) g') 181 [some (.ref 76), some (.int (nI store)), some (.int (nI m)), some (.int (nI N)), some (.int (bI b)), some (.int (bI false)), some (.int (nI 0)), some (.int (nI 0))] [] := back b false _ g' hk3 ho3 hiff (by simp [hng]) (fun z => by cases z) _
          refine a_iconst (pc := 105) (nI 0) dX11_least_105 (by decide) ?_
          refine AW_top (y := bI false) rfl ?_
          refine a_istore (pc := 106) (ls' := [_, _, _, _, _, _, _, _]) dX11_least_106 (Nat.le_of_ble_eq_true rfl) rfl ?_
          refine a_iconst (pc := 108) (nI 0) dX11_least_108 (by decide) ?_
          refine a_istore (pc := 109) (ls' := [_, _, _, _, _, _, _, _]) dX11_least_109 (Nat.le_of_ble_eq_true rfl) rfl ?_
          refine a_iconst (pc := 111) (nI 0) dX11_least_111 (by decide) ?_
          refine a_istore (pc := 112) (ls' := [_, _, _, _, _, _, _, _]) dX11_least_112 (Nat.le_of_ble_eq_true rfl) rfl ?_
          refine a_iload (pc := 114) dX11_least_114 rfl ?_
          refine a_iload_n (pc := 116) dX11_least_116 rfl ?_
          refine a_icmp_geN (pc := 117) 181 dX11_least_117 (by decide) (by omega) (by omega) (fun c6 => ?_) (fun c6 => ?_)
          · exact go
          · refine a_iload (pc := 120) dX11_least_120 rfl ?_
            refine a_if_eqB (pc := 122) 181 dX11_least_122 (by decide) (fun c7 => ?_) (fun c7 => ?_)
            · exact go
            · cases c7
        refine a_if_eqB (pc := 89) 105 dX11_least_89 (by decide) (fun c4 => ?_) (fun c4 => ?_)
        · exact bad (Or.inl c4)
        · obtain ⟨rp2, y1, y2⟩ := hy c4
          have hb2 : rp2.1 2 < 2147483648 := by
            have h9 : walkO A store (spB store 0) = some rp2 := y1
            unfold walkO at h9
            match z : goO A store (spB store 0) A.length with
            | none => rw [z] at h9; cases h9
            | some (su, w) =>
              rw [z] at h9
              cases h9
              have h8 := goO_N _ _ _ z
              have := hA.2.1
              have a1 := h8.1
              have a2 := h8.2.2.1
              show w.2.1 2 < _
              omega
          refine a_aload_n (pc := 92) dX11_least_92 rfl ?_
          refine a_gr (pc := 93) dX11_least_93 fX11_80 rfl ?_
          refine a_iconst (pc := 96) (nI 2) dX11_least_96 (by decide) ?_
          refine a_ial (pc := 97) _ dX11_least_97 rfl rfl (by omega) ?_
          rw [y2.1 2 (by decide)]
          refine a_if_neN (pc := 98) 105 dX11_least_98 (by decide) (by omega) (fun c5 => ?_) (fun c5 => ?_)
          · exact bad (Or.inr ⟨c4, rp2, y1, c5⟩)
          · refine a_iconst (pc := 101) (nI 1) dX11_least_101 (by decide) ?_
            subst c4
            refine a_goto (pc := 102) 106 dX11_least_102 (by decide) ?_
            refine AW_top (y := bI true) rfl ?_
            refine a_istore (pc := 106) (ls' := [_, _, _, _, _, _, _, _]) dX11_least_106 (Nat.le_of_ble_eq_true rfl) rfl ?_
            refine a_iconst (pc := 108) (nI 0) dX11_least_108 (by decide) ?_
            refine a_istore (pc := 109) (ls' := [_, _, _, _, _, _, _, _]) dX11_least_109 (Nat.le_of_ble_eq_true rfl) rfl ?_
            refine a_iconst (pc := 111) (nI 0) dX11_least_111 (by decide) ?_
            refine a_istore (pc := 112) (ls' := [_, _, _, _, _, _, _, _]) dX11_least_112 (Nat.le_of_ble_eq_true rfl) rfl ?_
            refine tries N 0 (by omega) g' hk3 ho3 ?_ ⟨rp2, y1, c5⟩
            rw [e82]
            exact hsp1
      · exact absurd c2 (by omega)
    | succ t ih =>
      intro f hf g1 hk hout hin
      refine a_iload (pc := 31) dX11_least_31 rfl ?_
      refine a_iload_n (pc := 33) dX11_least_33 rfl ?_
      refine a_icmp_geN (pc := 34) 80 dX11_least_34 (by decide) (by omega) (by omega) (fun c2 => ?_) (fun c2 => ?_)
      · exact absurd c2 (by omega)
      · refine a_iload_n (pc := 37) dX11_least_37 rfl ?_
        refine a_aload_n (pc := 38) dX11_least_38 rfl ?_
        refine a_gr (pc := 39) dX11_least_39 fX11_29 rfl ?_
        refine a_iconst (pc := 42) (nI 4) dX11_least_42 (by decide) ?_
        refine a_iload_n (pc := 43) dX11_least_43 rfl ?_
        refine a_imul (pc := 44) dX11_least_44 ?_
        try rw [pk_mul]
        refine a_iload (pc := 45) dX11_least_45 rfl ?_
        refine a_iadd (pc := 47) dX11_least_47 ?_
        try rw [nI_add]
        refine a_zal (pc := 48) _ dX11_least_48 rfl rfl (by omega) ?_
        rw [hout _ (by omega), hsp f (by omega)]
        refine AW_val2 60 (if m.testBit f = true then nI 1 <<< (nI f &&& 31) else nI 0) (fun hJ => ?_) ?_
        · refine a_if_eqB (pc := 49) 59 dX11_least_49 (by decide) (fun c3 => ?_) (fun c3 => ?_)
          · refine a_iconst (pc := 59) (nI 0) dX11_least_59 (by decide) ?_
            exact AW_top (by rw [c3]; rfl) hJ
          · refine a_iconst (pc := 52) (nI 1) dX11_least_52 (by decide) ?_
            refine a_iload (pc := 53) dX11_least_53 rfl ?_
            refine a_ishl (pc := 55) dX11_least_55 ?_
            refine a_goto (pc := 56) 60 dX11_least_56 (by decide) ?_
            exact AW_top (by rw [if_pos c3]) hJ
        · refine a_ior (pc := 60) dX11_least_60 ?_
          rw [bt_mod m f hm16 (by omega)]
          refine a_istore_n (pc := 61) (ls' := [_, _, _, _, _, _, _, _]) dX11_least_61 (Nat.le_of_ble_eq_true rfl) rfl ?_
          refine a_aload_n (pc := 62) dX11_least_62 rfl ?_
          refine a_gr (pc := 63) dX11_least_63 fX11_29 rfl ?_
          refine a_iconst (pc := 66) (nI 4) dX11_least_66 (by decide) ?_
          refine a_iload_n (pc := 67) dX11_least_67 rfl ?_
          refine a_imul (pc := 68) dX11_least_68 ?_
          try rw [pk_mul]
          refine a_iload (pc := 69) dX11_least_69 rfl ?_
          refine a_iadd (pc := 71) dX11_least_71 ?_
          try rw [nI_add]
          refine a_iconst (pc := 72) (nI 0) dX11_least_72 (by decide) ?_
          refine a_zst (pc := 73) _ dX11_least_73 rfl rfl (by omega) (by first | exact Or.inl rfl | exact Or.inr rfl | exact bI_01 _) ?_
          refine a_iinc (pc := 74) (ls' := [_, _, _, _, _, _, _, _]) (nI 1) dX11_least_74 (by decide) rfl (Nat.le_of_ble_eq_true rfl) rfl ?_
          try rw [nI_add]
          refine a_goto (pc := 77) 31 dX11_least_77 (by decide) ?_
          refine ih (f + 1) (by omega) _ (hk.st _) (fun i hi => ?_) (fun i h1 h2 => ?_)
          · rw [gA_pA, if_pos rfl, upd, if_neg (by omega)]
            exact hout i (by omega)
          · rw [gA_pA, if_pos rfl, upd]
            by_cases e : i = 4 * store + f
            · rw [if_pos e]
            · rw [if_neg e]
              exact hin i h1 (by omega)
  have h9 := first N 0 (by omega) (th0 g) (K8.rf _) (fun i _ => rfl) (fun i h1 h2 => absurd h2 (by omega))
  rw [Nat.pow_zero, Nat.mod_one] at h9
  exact h9
