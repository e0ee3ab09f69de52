set_option maxHeartbeats 1000000 in
set_option maxRecDepth 100000 in
/-- the changes of an act, from pc 110 on -/
theorem c_goAct_ch {d0 kd kp rp : Nat} {X : Cx} {Q : State → Prop} {ad : Nat → Nat} (hR : xR X = rmD (d0 + 6)) {g : GH} (store n su c : Nat) (A : List Ac) (q : Qd) (r0 : Rp) (L : List En) (hL : L.length ≤ 11) (hLo : ∀ x ∈ L, okE x) (hst : store < 3) (hA8 : A.length ≤ 8) (hn : n < A.length) (hq : MD g 1 q) (hD : ∀ n k, n ≤ A.length → k < 3 → gL g 97 (3 * n + k) = dueP A n k) (hsu : su ≤ n) (h32 : gF g 76 32 = nI su) (h33 : gF g 76 33 = nI (n + 1)) (hr : RpM g r0) (hb : RpN c r0) (hc : c ≤ 900) (w3 w4 : Option Value)
    (kk : ∀ (b : Bool) (pc : Nat) (g' : GH) (w3 w4 : Option Value), decode (mcc mX11_goThroughAct) pc = .ok (.ireturn, 1) → KG g g' → gL g' 97 = gL g 97 → gF g' 76 32 = gF g 76 32 → gF g' 76 33 = gF g 76 33 → (b = true → ∃ w', entsO A store (gA g 82) su (n + 1) L (q, r0) = some w' ∧ MD g' 1 w'.1 ∧ RpM g' w'.2) → (b = false → entsO A store (gA g 82) su (n + 1) L (q, r0) = none) → AW mX11_goThroughAct X Q ad 0 0 (conc (SS kd kp rp) g') pc [some (.ref 76), some (.int (nI store)), some (.int (nI n)), w3, w4] [.int (bI b)]) :
    AW mX11_goThroughAct X Q ad 0 0 (conc (SS kd kp rp) (plA g L)) 110 [some (.ref 76), some (.int (nI store)), some (.int (nI n)), w3, w4] [] := by
  refine a_aload_n (pc := 110) dX11_goThroughAct_110 rfl ?_
  refine a_gi (pc := 111) dX11_goThroughAct_111 fX11_188 rfl ?_
  rw [plA_21]
  refine a_istore_n (pc := 114) (ls' := [_, _, _, _, _]) dX11_goThroughAct_114 (Nat.le_of_ble_eq_true rfl) rfl ?_
  refine a_iconst (pc := 115) (nI 0) dX11_goThroughAct_115 (by decide) ?_
  refine a_istore (pc := 116) (ls' := [_, _, _, _, _]) dX11_goThroughAct_116 (Nat.le_of_ble_eq_true rfl) rfl ?_
  have second : ∀ g2 : GH, HK (plA g L) g2 → (∀ j x, L[j]? = some x → gA g2 103 j = x.1 ∧ gA g2 104 j = x.2.1 ∧ gA g2 105 j = x.2.2) → AW mX11_goThroughAct X Q ad 0 0 (conc (SS kd kp rp) g2) 172 [some (.ref 76), some (.int (nI store)), some (.int (nI n)), some (.int (nI L.length)), some (.int (nI L.length))] [] := by
    intro g2 hk2 hh
    refine a_iconst (pc := 172) (nI 0) dX11_goThroughAct_172 (by decide) ?_
    refine a_istore (pc := 173) (ls' := [_, _, _, _, _]) dX11_goThroughAct_173 (Nat.le_of_ble_eq_true rfl) rfl ?_
    have loop : ∀ (L2 : List En) (k : Nat), L.drop k = L2 → k ≤ L.length → ∀ (g3 : GH) (w : Ws), KB g2 g3 → MD g3 1 w.1 → RpM g3 w.2 → RpN (c + k) w.2 → entsO A store (gA g 82) su (n + 1) L (q, r0) = entsO A store (gA g 82) su (n + 1) L2 w → AW mX11_goThroughAct X Q ad 0 0 (conc (SS kd kp rp) g3) 175 [some (.ref 76), some (.int (nI store)), some (.int (nI n)), some (.int (nI L.length)), some (.int (nI k))] [] := by
      intro L2
      induction L2 with
      | nil =>
        intro k hd hkl g3 w hk3 hm hr3 hb3 he
        have : L.length ≤ k := by
          rw [← List.drop_eq_nil_iff]
          exact hd
        refine a_iload (pc := 175) dX11_goThroughAct_175 rfl ?_
        refine a_iload_n (pc := 177) dX11_goThroughAct_177 rfl ?_
        refine a_icmp_geN (pc := 178) 264 dX11_goThroughAct_178 (by decide) (by omega) (by omega) (fun c1 => ?_) (fun c1 => ?_)
        · refine a_iconst (pc := 264) (nI 1) dX11_goThroughAct_264 (by decide) ?_
          refine kk true 265 g3 _ _ dX11_goThroughAct_265 (((KB.pl g L).kg.tr hk2.kg).tr hk3.kg) ?_ ?_ ?_ (fun _ => ⟨w, he, hm, hr3⟩) (fun z => by cases z)
          · exact ((hk3.2.2.1 97 (by decide)).trans (hk2.2.2 97)).trans rfl
          · exact ((hk3.2.1 76 32 (by decide)).trans (hk2.2.1 76 32)).trans (plA_F _ _ _ _ (by decide))
          · exact ((hk3.2.1 76 33 (by decide)).trans (hk2.2.1 76 33)).trans (plA_F _ _ _ _ (by decide))
        · exact absurd c1 (by omega)
      | cons x L2 ih =>
        intro k hd hkl g3 w hk3 hm hr3 hb3 he
        have hx : L[k]? = some x := by
          have := congrArg (fun l => l[0]?) hd
          simpa using this
        have hkl2 : k < L.length := (List.getElem?_eq_some_iff.mp hx).1
        have hd2 : L.drop (k + 1) = L2 := by
          rw [← List.drop_drop, hd]
          rfl
        obtain ⟨y1, y2, y3⟩ := hh k x hx
        have hxo : okE x := hLo x (List.mem_of_getElem? hx)
        have z1 : gA g3 103 k = x.1 := by rw [hk3.1 103 (by decide)]; exact y1
        have z2 : gA g3 104 k = x.2.1 := by rw [hk3.1 104 (by decide)]; exact y2
        have z3 : gA g3 105 k = x.2.2 := by rw [hk3.1 105 (by decide)]; exact y3
        have kg3 : KG g g3 := ((KB.pl g L).kg.tr hk2.kg).tr hk3.kg
        have e97 : gL g3 97 = gL g 97 := ((hk3.2.2.1 97 (by decide)).trans (hk2.2.2 97)).trans rfl
        have e32 : gF g3 76 32 = gF g 76 32 := ((hk3.2.1 76 32 (by decide)).trans (hk2.2.1 76 32)).trans (plA_F _ _ _ _ (by decide))
        have e33 : gF g3 76 33 = gF g 76 33 := ((hk3.2.1 76 33 (by decide)).trans (hk2.2.1 76 33)).trans (plA_F _ _ _ _ (by decide))
        have e82 : gA g3 82 = gA g 82 := kg3.1 82 (by decide)
        refine a_iload (pc := 175) dX11_goThroughAct_175 rfl ?_
        refine a_iload_n (pc := 177) dX11_goThroughAct_177 rfl ?_
        refine a_icmp_geN (pc := 178) 264 dX11_goThroughAct_178 (by decide) (by omega) (by omega) (fun c1 => ?_) (fun c1 => ?_)
        · exact absurd c1 (by omega)
        refine a_aload_n (pc := 181) dX11_goThroughAct_181 rfl ?_
        refine a_iconst (pc := 182) (nI 1) dX11_goThroughAct_182 (by decide) ?_
        refine a_aload_n (pc := 183) dX11_goThroughAct_183 rfl ?_
        refine a_gr (pc := 184) dX11_goThroughAct_184 fX11_95 rfl ?_
        refine a_iload (pc := 187) dX11_goThroughAct_187 rfl ?_
        refine a_ial (pc := 189) _ dX11_goThroughAct_189 rfl rfl (by omega) ?_
        rw [z1]
        refine a_aload_n (pc := 190) dX11_goThroughAct_190 rfl ?_
        refine a_gr (pc := 191) dX11_goThroughAct_191 fX11_98 rfl ?_
        refine a_iload (pc := 194) dX11_goThroughAct_194 rfl ?_
        refine a_ial (pc := 196) _ dX11_goThroughAct_196 rfl rfl (by omega) ?_
        rw [z2]
        refine a_aload_n (pc := 197) dX11_goThroughAct_197 rfl ?_
        refine a_gr (pc := 198) dX11_goThroughAct_198 fX11_101 rfl ?_
        refine a_iload (pc := 201) dX11_goThroughAct_201 rfl ?_
        refine a_ial (pc := 203) _ dX11_goThroughAct_203 rfl rfl (by omega) ?_
        rw [z3]
        by_cases full : w.1.2.length < 60
        · refine a_V4i (pc := 204) 10 dX11_goThroughAct_204 lcX11_push lX11_118 rfl rfl rfl (fit_of hR (by omega) rfl) (c_push (d0 := d0) 1 x.1 x.2.1 x.2.2 w.1.2.length (by decide) hm.1 full) rfl rfl (ex_i ?_)
          have kp4 : KB g3 (pushG g3 1 x.1 x.2.1 x.2.2 w.1.2.length) := KB.psh _ _ _ _ _
          have md4 : MD (pushG g3 1 x.1 x.2.1 x.2.2 w.1.2.length) 1 (w.1.1, w.1.2 ++ [x]) := hm.push hxo full
          have r4 : RpM (pushG g3 1 x.1 x.2.1 x.2.2 w.1.2.length) w.2 := hr3.keep rfl rfl
          generalize pushG g3 1 x.1 x.2.1 x.2.2 w.1.2.length = g4 at kp4 md4 r4 ⊢
          have z4 : gA g4 103 k = x.1 := by rw [kp4.1 103 (by decide)]; exact z1
          refine a_if_neN (pc := 207) 212 dX11_goThroughAct_207 (by decide) (by omega) (fun c2 => ?_) (fun c2 => ?_)
          · refine a_aload_n (pc := 212) dX11_goThroughAct_212 rfl ?_
            refine a_gr (pc := 213) dX11_goThroughAct_213 fX11_80 rfl ?_
            refine a_aload_n (pc := 216) dX11_goThroughAct_216 rfl ?_
            refine a_gr (pc := 217) dX11_goThroughAct_217 fX11_95 rfl ?_
            refine a_iload (pc := 220) dX11_goThroughAct_220 rfl ?_
            refine a_ial (pc := 222) _ dX11_goThroughAct_222 rfl rfl (by omega) ?_
            rw [z4]
            refine a_iconst (pc := 223) (-1) dX11_goThroughAct_223 (by decide) ?_
            refine AW_val3 232 (nI (if x.1 = -1 then 4 else 3)) (fun hJ => ?_) ?_
            · refine a_icmp_ne (pc := 224) 231 dX11_goThroughAct_224 (by decide) (fun c3 => ?_) (fun c3 => ?_)
              · refine a_iconst (pc := 231) (nI 3) dX11_goThroughAct_231 (by decide) ?_
                exact AW_top (by rw [if_neg c3]) hJ
              · refine a_iconst (pc := 227) (nI 4) dX11_goThroughAct_227 (by decide) ?_
                refine a_goto (pc := 228) 232 dX11_goThroughAct_228 (by decide) ?_
                exact AW_top (by rw [if_pos c3]) hJ
            obtain ⟨j, hj⟩ : ∃ j, j = (if x.1 = -1 then 4 else 3) := ⟨_, rfl⟩
            have hj3 : j = 3 ∨ j = 4 := by
              rw [hj]
              split
              · exact Or.inr rfl
              · exact Or.inl rfl
            rw [← hj]
            refine a_dup2 (pc := 232) dX11_goThroughAct_232 rfl rfl ?_
            refine a_ial (pc := 233) _ dX11_goThroughAct_233 rfl rfl (by omega) ?_
            rw [r4.1 j (by omega)]
            refine a_iconst (pc := 234) (nI 1) dX11_goThroughAct_234 (by decide) ?_
            refine a_iadd (pc := 235) dX11_goThroughAct_235 ?_
            try rw [nI_add]
            refine a_ast (pc := 236) _ dX11_goThroughAct_236 rfl rfl (by omega) ?_
            have r5 : RpM (pA g4 98 (upd (gA g4 98) j (nI (w.2.1 j + 1)))) (tk w.2 j) := r4.tick j (by omega)
            have md5 : MD (pA g4 98 (upd (gA g4 98) j (nI (w.2.1 j + 1)))) 1 (w.1.1, w.1.2 ++ [x]) := md4
            have kp5 : KB g3 (pA g4 98 (upd (gA g4 98) j (nI (w.2.1 j + 1)))) := kp4.tr (KB.a98 _ _)
            have b5 : RpN (c + k + 1) (tk w.2 j) := hb3.tk3 j (by omega)
            generalize pA g4 98 (upd (gA g4 98) j (nI (w.2.1 j + 1))) = g5 at r5 md5 kp5 ⊢
            have z5 : gA g5 103 k = x.1 := by rw [kp5.1 103 (by decide)]; exact z1
            refine a_aload_n (pc := 237) dX11_goThroughAct_237 rfl ?_
            refine a_gr (pc := 238) dX11_goThroughAct_238 fX11_95 rfl ?_
            refine a_iload (pc := 241) dX11_goThroughAct_241 rfl ?_
            refine a_ial (pc := 243) _ dX11_goThroughAct_243 rfl rfl (by omega) ?_
            rw [z5]
            refine a_iconst (pc := 244) (-1) dX11_goThroughAct_244 (by decide) ?_
            refine a_icmp_eq (pc := 245) 258 dX11_goThroughAct_245 (by decide) (fun c3 => ?_) (fun c3 => ?_)
            · refine a_iinc (pc := 258) (ls' := [_, _, _, _, _]) (nI 1) dX11_goThroughAct_258 (by decide) rfl (Nat.le_of_ble_eq_true rfl) rfl ?_
              try rw [nI_add]
              refine a_goto (pc := 261) 175 dX11_goThroughAct_261 (by decide) ?_
              rw [if_pos c3] at hj
              subst hj
              refine ih (k + 1) hd2 (by omega) g5 ((w.1.1, w.1.2 ++ [x]), tk w.2 4) (hk3.tr kp5) md5 r5 b5 ?_
              rw [he, entsO, entO, if_pos full, if_pos c3]
              rfl
            · rw [if_neg c3] at hj
              subst hj
              refine a_aload_n (pc := 248) dX11_goThroughAct_248 rfl ?_
              refine a_iload_n (pc := 249) dX11_goThroughAct_249 rfl ?_
              have e82' : gA g5 82 = gA g 82 := (kp5.1 82 (by decide)).trans e82
              refine a_V1i (pc := 250) 10 dX11_goThroughAct_250 lcX11_moment lX11_241 rfl rfl rfl (fit_of hR (by omega) rfl) (c_moment (d0 := d0) store A (w.1.1, w.1.2 ++ [x]) su (n + 1) (tk w.2 3) hst hA8 md5 (fun n k hn hk => by rw [kp5.2.2.1 97 (by decide), e97]; exact hD n k hn hk) (by omega) (by omega) ((kp5.2.1 76 32 (by decide)).trans (e32.trans h32)) ((kp5.2.1 76 33 (by decide)).trans (e33.trans h33)) r5 (b5.b (by omega)) (by have := b5.1; omega)) rfl rfl (fun rr S' g' hS hp => ?_)
              obtain ⟨rfl, b, rfl, km, hy, hno⟩ := hp
              rw [e82'] at hy
              have km' := kp5.tr km.kb
              refine a_if_neB (pc := 253) 258 dX11_goThroughAct_253 (by decide) (fun c4 => ?_) (fun c4 => ?_)
              · refine a_iinc (pc := 258) (ls' := [_, _, _, _, _]) (nI 1) dX11_goThroughAct_258 (by decide) rfl (Nat.le_of_ble_eq_true rfl) rfl ?_
                try rw [nI_add]
                refine a_goto (pc := 261) 175 dX11_goThroughAct_261 (by decide) ?_
                obtain ⟨hf, hr6⟩ := hy c4
                refine ih (k + 1) hd2 (by omega) g' ((w.1.1, w.1.2 ++ [x]), momP A (w.1.1, w.1.2 ++ [x]) store (gA g 82) su (n + 1) (tk w.2 3)) (hk3.tr km') (km.md (by decide) md5) hr6 (momP_N hf b5 ?_) ?_
                · rw [tk_0 _ 3 0 (by decide)]
                  exact hb3.1
                · rw [he, entsO, entO, if_pos full, if_neg c3, momO_y hf]
                  rfl
              · refine a_iconst (pc := 256) (nI 0) dX11_goThroughAct_256 (by decide) ?_
                refine kk false 257 g' _ _ dX11_goThroughAct_257 (kg3.tr km'.kg) ((km'.2.2.1 97 (by decide)).trans e97) ((km'.2.1 76 32 (by decide)).trans e32) ((km'.2.1 76 33 (by decide)).trans e33) (fun z => by cases z) (fun _ => ?_)
                rw [he, entsO, entO, if_pos full, if_neg c3, momO_n (hno c4)]
                rfl
          · exact absurd c2 (by omega)
        · have h60 : w.1.2.length = 60 := by have := hm.2.1; omega
          have h81 := hm.1
          rw [h60] at h81
          refine a_V4i (pc := 204) 10 dX11_goThroughAct_204 lcX11_push lX11_118 rfl rfl rfl (fit_of hR (by omega) rfl) (c_push0 (d0 := d0) 1 x.1 x.2.1 x.2.2 (by decide) h81) rfl rfl (ex_i ?_)
          refine a_if_neN (pc := 207) 212 dX11_goThroughAct_207 (by decide) (by omega) (fun c2 => ?_) (fun c2 => ?_)
          · exact absurd c2 (by omega)
          · refine a_iconst (pc := 210) (nI 0) dX11_goThroughAct_210 (by decide) ?_
            refine kk false 211 g3 _ _ dX11_goThroughAct_211 kg3 e97 e32 e33 (fun z => by cases z) (fun _ => ?_)
            rw [he, entsO, entO, if_neg full]
            rfl
    refine loop L 0 rfl (by omega) g2 (q, r0) (KB.rf _) ?_ (hr.keep (hk2.1 98 (by decide) (by decide) (by decide)) (hk2.1 100 (by decide) (by decide) (by decide))) hb rfl
    exact hq.keep (hk2.1 77 (by decide) (by decide) (by decide)) (hk2.1 78 (by decide) (by decide) (by decide)) (hk2.1 79 (by decide) (by decide) (by decide)) (hk2.1 80 (by decide) (by decide) (by decide)) (hk2.1 81 (by decide) (by decide) (by decide))
  have first : ∀ t k, L.length = k + t → ∀ g2 : GH, HK (plA g L) g2 → (∀ j x, j < k → L[j]? = some x → gA g2 103 j = x.1 ∧ gA g2 104 j = x.2.1 ∧ gA g2 105 j = x.2.2) → AW mX11_goThroughAct X Q ad 0 0 (conc (SS kd kp rp) g2) 118 [some (.ref 76), some (.int (nI store)), some (.int (nI n)), some (.int (nI L.length)), some (.int (nI k))] [] := by
    intro t
    induction t with
    | zero =>
      intro k hk g2 hk2 hh
      obtain rfl : L.length = k := by omega
      refine a_iload (pc := 118) dX11_goThroughAct_118 rfl ?_
      refine a_iload_n (pc := 120) dX11_goThroughAct_120 rfl ?_
      refine a_icmp_geN (pc := 121) 172 dX11_goThroughAct_121 (by decide) (by omega) (by omega) (fun c1 => ?_) (fun c1 => ?_)
      · exact second g2 hk2 (fun j x hx => hh j x (List.getElem?_eq_some_iff.mp hx).1 hx)
      · exact absurd c1 (by omega)
    | succ t ih =>
      intro k hk g2 hk2 hh
      have hx : L[k]? = some L[k] := List.getElem?_eq_getElem (by omega)
      generalize L[k] = x at hx
      refine a_iload (pc := 118) dX11_goThroughAct_118 rfl ?_
      refine a_iload_n (pc := 120) dX11_goThroughAct_120 rfl ?_
      refine a_icmp_geN (pc := 121) 172 dX11_goThroughAct_121 (by decide) (by omega) (by omega) (fun c1 => ?_) (fun c1 => ?_)
      · exact absurd c1 (by omega)
      · refine a_aload_n (pc := 124) dX11_goThroughAct_124 rfl ?_
        refine a_gr (pc := 125) dX11_goThroughAct_125 fX11_95 rfl ?_
        refine a_iload (pc := 128) dX11_goThroughAct_128 rfl ?_
        refine a_aload_n (pc := 130) dX11_goThroughAct_130 rfl ?_
        refine a_gr (pc := 131) dX11_goThroughAct_131 fX11_55 rfl ?_
        refine a_iload (pc := 134) dX11_goThroughAct_134 rfl ?_
        refine a_ial (pc := 136) _ dX11_goThroughAct_136 rfl rfl (by omega) ?_
        rw [hk2.1 90 (by decide) (by decide) (by decide), show gA (plA g L) 90 k = x.1 from wrL_at (pr := fun x => x.1) hx]
        refine a_ast (pc := 137) _ dX11_goThroughAct_137 rfl rfl (by omega) ?_
        refine a_aload_n (pc := 138) dX11_goThroughAct_138 rfl ?_
        refine a_gr (pc := 139) dX11_goThroughAct_139 fX11_98 rfl ?_
        refine a_iload (pc := 142) dX11_goThroughAct_142 rfl ?_
        refine a_aload_n (pc := 144) dX11_goThroughAct_144 rfl ?_
        refine a_gr (pc := 145) dX11_goThroughAct_145 fX11_58 rfl ?_
        refine a_iload (pc := 148) dX11_goThroughAct_148 rfl ?_
        refine a_ial (pc := 150) _ dX11_goThroughAct_150 rfl rfl (by omega) ?_
        simp only [gF_pF, gF_pA, gF_pL, gA_pF, gA_pA, gA_pL, gL_pF, gL_pA, gL_pL, reduceIte, Nat.reduceEqDiff, and_false, false_and, and_true, true_and, and_self]
        rw [hk2.1 91 (by decide) (by decide) (by decide), show gA (plA g L) 91 k = x.2.1 from wrL_at (pr := fun x => x.2.1) hx]
        refine a_ast (pc := 151) _ dX11_goThroughAct_151 rfl rfl (by omega) ?_
        refine a_aload_n (pc := 152) dX11_goThroughAct_152 rfl ?_
        refine a_gr (pc := 153) dX11_goThroughAct_153 fX11_101 rfl ?_
        refine a_iload (pc := 156) dX11_goThroughAct_156 rfl ?_
        refine a_aload_n (pc := 158) dX11_goThroughAct_158 rfl ?_
        refine a_gr (pc := 159) dX11_goThroughAct_159 fX11_61 rfl ?_
        refine a_iload (pc := 162) dX11_goThroughAct_162 rfl ?_
        refine a_ial (pc := 164) _ dX11_goThroughAct_164 rfl rfl (by omega) ?_
        simp only [gF_pF, gF_pA, gF_pL, gA_pF, gA_pA, gA_pL, gL_pF, gL_pA, gL_pL, reduceIte, Nat.reduceEqDiff, and_false, false_and, and_true, true_and, and_self]
        rw [hk2.1 92 (by decide) (by decide) (by decide), show gA (plA g L) 92 k = x.2.2 from wrL_at (pr := fun x => x.2.2) hx]
        refine a_ast (pc := 165) _ dX11_goThroughAct_165 rfl rfl (by omega) ?_
        refine a_iinc (pc := 166) (ls' := [_, _, _, _, _]) (nI 1) dX11_goThroughAct_166 (by decide) rfl (Nat.le_of_ble_eq_true rfl) rfl ?_
        try rw [nI_add]
        refine a_goto (pc := 169) 118 dX11_goThroughAct_169 (by decide) ?_
        refine ih (k + 1) (by omega) _ ⟨fun a h1 h2 h3 => ?_, fun a f => ?_, fun a => ?_⟩ (fun j y hj hy => ?_)
        · simp only [gA_pA]
          rw [if_neg h3, if_neg h2, if_neg h1]
          exact hk2.1 a h1 h2 h3
        · exact hk2.2.1 a f
        · exact hk2.2.2 a
        · simp only [gF_pF, gF_pA, gF_pL, gA_pF, gA_pA, gA_pL, gL_pF, gL_pA, gL_pL, reduceIte, Nat.reduceEqDiff, and_false, false_and, and_true, true_and, and_self, upd]
          by_cases e : j = k
          · subst e
            rw [hx] at hy
            cases hy
            rw [if_pos rfl, if_pos rfl, if_pos rfl]
            exact ⟨rfl, rfl, rfl⟩
          · rw [if_neg e, if_neg e, if_neg e]
            exact hh j y (by omega) hy
  exact first L.length 0 (by omega) _ ⟨fun _ _ _ _ => rfl, fun _ _ => rfl, fun _ => rfl⟩ (fun j x h => absurd h (by omega))
