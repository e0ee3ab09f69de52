/-- keepAll over the rows of an epoch -/
theorem Prod_inA {C M B S O T P : Nat → Int32} {n e : Nat} {m : Nat → Nat} (h : ChI C M B S O T e n m) (hB : ∀ p, p < 32 → B p = bsR P S O T e p n) (f : Nat → Int32) : Prod32 C m f ↔ ∀ p, p < 32 → inA P S O T n e p (f p) := by
  constructor
  · intro z p hp
    rcases ((h p hp).2.2.2.2 (f p)).mp (z p hp) with q | q
    · exact Or.inl (by rw [← hB p hp]; exact q)
    · exact Or.inr q
  · intro z p hp
    refine ((h p hp).2.2.2.2 (f p)).mpr ?_
    rcases z p hp with q | q
    · exact Or.inl (by rw [hB p hp]; exact q)
    · exact Or.inr q
theorem bsR_0 (P S O T : Nat → Int32) (p : Nat) : ∀ n, bsR P S O T 0 p n = P p
  | 0 => rfl
  | n + 1 => by rw [bsR, if_neg (by omega)]; exact bsR_0 P S O T p n
theorem ChI_one {C M B S O T : Nat → Int32} {e k : Nat} (h : ∀ p, p < 32 → M p = nI 1 ∧ C (61 * p) = B p) (hno : ∀ j p, j < k → p < 32 → S j = nI (p / 2) → weN S j = e → False) : ChI C M B S O T e k (fun _ => 1) := by
  intro p hp
  obtain ⟨q1, q2⟩ := h p hp
  refine ⟨q1, Nat.le_refl 1, by show 1 ≤ k + 1; omega, fun a b h1 h2 => ?_, fun x => ⟨?_, ?_⟩⟩
  · have h2 : b < 1 := h2
    omega
  · rintro ⟨a, ha, z⟩
    have ha : a < 1 := ha
    rw [show a = 0 by omega, Nat.add_zero, q2] at z
    exact Or.inl z.symm
  · rintro (z | ⟨j, hj, z1, z2, z3⟩)
    · exact ⟨0, Nat.one_pos, by rw [Nat.add_zero, q2, z]⟩
    · exact absurd (hno j p hj hp z1 z2) id
set_option maxHeartbeats 1000000 in
set_option maxRecDepth 100000 in
theorem c_findStates {d0 kd kp rp : Nat} {g : GH} (d n : Nat) (hd : d < 3) (hn : gA g 81 d = nI n) (hn60 : n ≤ 60) (P S O T : Nat → Int32) (hP : P = fun q => gA g 77 (32 * d + q)) (hS : S = fun k => gA g 78 (60 * d + k)) (hO : O = fun k => gA g 79 (60 * d + k)) (hT : T = fun k => gA g 80 (60 * d + k)) (hs : ∀ k, k < n → S k = -1 ∨ ∃ s, s < 16 ∧ S k = nI s) : ACi mX11_findStates (d0 + 3) (SS kd kp rp) g [.ref 76, .int (nI d)] (fun r S' g' => S' = SS kd kp rp ∧ ∃ (b : Bool) (St Od B C M W : Nat → Int32) (N : Nat) (o : Nat → Nat), r = bI b ∧ g' = fsG g St Od B C M W (nI N) ∧ N ≤ 4096 ∧ (∀ i, i < N → Od i = nI (o i) ∧ o i < N) ∧ (b = true → Enu (inSt P S O T n) N (fun i p => St (32 * o i + p))) ∧ (b = false → Mny (inSt P S O T n))) := by
  have eS : ∀ k, gA g 78 (60 * d + k) = S k := fun k => by rw [hS]
  have eO : ∀ k, gA g 79 (60 * d + k) = O k := fun k => by rw [hO]
  have eT : ∀ k, gA g 80 (60 * d + k) = T k := fun k => by rw [hT]
  have eP : ∀ k, gA g 77 (32 * d + k) = P k := fun k => by rw [hP]
  have eW : (fun k => gA g 78 (60 * d + k)) = S := hS.symm
  refine ACz.of lcX11_findStates rfl rfl (fun X Q ad hR ret => ?_)
  refine AW_ls (ls' := [_, _, _, _, _, _]) rfl ?_
  refine a_aload_n (pc := 0) dX11_findStates_0 rfl ?_
  refine a_iconst (pc := 1) (nI 0) dX11_findStates_1 (by decide) ?_
  refine a_pi (pc := 2) dX11_findStates_2 fX11_137 rfl ?_
  refine a_iconst (pc := 5) (nI 0) dX11_findStates_5 (by decide) ?_
  refine a_istore_n (pc := 6) (ls' := [_, _, _, _, _, _]) dX11_findStates_6 (Nat.le_of_ble_eq_true rfl) rfl ?_
  -- the epochs, from e on
  have epo : ∀ t e, epc S n = e + t → 0 < epc S n → ∀ (St Od B C M W : Nat → Int32) (N : Nat) (o : Nat → Nat), N ≤ 4096 → SrtA St Od N o → (∀ p, p < 32 → B p = bsR P S O T e p n) → (∀ f, (∃ i, i < N ∧ eq32 f (fun p => St (32 * o i + p))) ↔ ∃ e', e' < e ∧ ∀ p, p < 32 → inA P S O T n e' p (f p)) → ∀ w4 w5 : Option Value, AW mX11_findStates X Q ad 0 0 (conc (SS kd kp rp) (fsG g St Od B C M W (nI N))) 63 [some (.ref 76), some (.int (nI d)), some (.int (nI (epc S n))), some (.int (nI e)), w4, w5] [] := by
    have hEn : epc S n ≤ n + 1 := by
      have := weN_le S n
      unfold epc
      split <;> omega
    intro t
    induction t with
    | zero =>
      intro e he h0 St Od B C M W N o hN hsr hB hq w4 w5
      refine a_iload_n (pc := 63) dX11_findStates_63 rfl ?_
      refine a_iload_n (pc := 64) dX11_findStates_64 rfl ?_
      refine a_icmp_geN (pc := 65) 275 dX11_findStates_65 (by decide) (by omega) (by omega) (fun c1 => ?_) (fun c1 => ?_)
      · refine a_iconst (pc := 275) (nI 1) dX11_findStates_275 (by decide) ?_
        refine ret _ _ 276 _ _ dX11_findStates_276 rfl (by first | exact Or.inl rfl | exact Or.inr rfl | exact bI_01 _) ?_
        refine ⟨rfl, true, St, Od, B, C, M, W, N, o, rfl, rfl, hN, hsr.1, fun _ => ⟨hsr.2, fun f => ?_⟩, fun z => by cases z⟩
        rw [hq f]
        constructor
        · rintro ⟨e', h1, h2⟩
          exact ⟨e', by omega, h2⟩
        · rintro ⟨e', h1, h2⟩
          exact ⟨e', by omega, h2⟩
      · exact absurd c1 (by omega)
    | succ t ih =>
      intro e he h0 St Od B C M W N o hN hsr hB hq w4 w5
      refine a_iload_n (pc := 63) dX11_findStates_63 rfl ?_
      refine a_iload_n (pc := 64) dX11_findStates_64 rfl ?_
      refine a_icmp_geN (pc := 65) 275 dX11_findStates_65 (by decide) (by omega) (by omega) (fun c1 => ?_) (fun c1 => ?_)
      · exact absurd c1 (by omega)
      · refine a_aload_n (pc := 68) dX11_findStates_68 rfl ?_
        refine a_V0v (pc := 69) 10 dX11_findStates_69 lcX11_onlyBase lX11_154 rfl rfl rfl (fit_of hR (by omega) rfl) (c_onlyBase (d0 := d0)) rfl rfl (fun S' g' hS hp => ?_)
        obtain ⟨rfl, C0, M0, rfl, hob⟩ := hp
        rw [fsG_87, fsG_88]
        refine a_iconst (pc := 72) (nI 0) dX11_findStates_72 (by decide) ?_
        refine a_istore (pc := 73) (ls' := [_, _, _, _, _, _]) dX11_findStates_73 (Nat.le_of_ble_eq_true rfl) rfl ?_
        have hob : ∀ p, p < 32 → M0 p = nI 1 ∧ C0 (61 * p) = B p := hob
        have ch0 : ChI C0 M0 B S O T e 0 (fun _ => 1) := ChI_one hob (fun j p h _ _ _ => absurd h (by omega))
        -- the base goes on
        have bas : ∀ t2 k, n = k + t2 → ∀ (St Od B2 C M W : Nat → Int32) (N : Nat) (o : Nat → Nat), N ≤ 4096 → SrtA St Od N o → (∀ p, p < 32 → B2 p = bmA B S O T e p k) → (∀ f, (∃ i, i < N ∧ eq32 f (fun p => St (32 * o i + p))) ↔ ∃ e', e' < e + 1 ∧ ∀ p, p < 32 → inA P S O T n e' p (f p)) → ∀ w5 : Option Value, AW mX11_findStates X Q ad 0 0 (conc (SS kd kp rp) (fsG g St Od B2 C M W (nI N))) 177 [some (.ref 76), some (.int (nI d)), some (.int (nI (epc S n))), some (.int (nI e)), some (.int (nI k)), w5] [] := by
          intro t2
          induction t2 with
          | zero =>
            intro k hk St Od B2 C M W N o hN hsr hB2 hq w5
            obtain rfl : n = k := by omega
            refine a_iload (pc := 177) dX11_findStates_177 rfl ?_
            refine a_aload_n (pc := 179) dX11_findStates_179 rfl ?_
            refine a_gr (pc := 180) dX11_findStates_180 fX11_22 rfl ?_
            refine a_iload_n (pc := 183) dX11_findStates_183 rfl ?_
            refine a_ial (pc := 184) _ dX11_findStates_184 rfl rfl (by omega) ?_
            rw [show gA (fsG g St Od B2 C M W (nI N)) 81 d = nI n from hn]
            refine a_icmp_geN (pc := 185) 269 dX11_findStates_185 (by decide) (by omega) (by omega) (fun c2 => ?_) (fun c2 => ?_)
            · refine a_iinc (pc := 269) (ls' := [_, _, _, _, _, _]) (nI 1) dX11_findStates_269 (by decide) rfl (Nat.le_of_ble_eq_true rfl) rfl ?_
              try rw [nI_add]
              refine a_goto (pc := 272) 63 dX11_findStates_272 (by decide) ?_
              refine ih (e + 1) (by omega) h0 St Od B2 C M W N o hN hsr (fun p hp => ?_) hq _ _
              rw [hB2 p hp]
              exact bmA_all (hB p hp)
            · exact absurd c2 (by omega)
          | succ t2 ih2 =>
            intro k hk St Od B2 C M W N o hN hsr hB2 hq w5
            refine a_iload (pc := 177) dX11_findStates_177 rfl ?_
            refine a_aload_n (pc := 179) dX11_findStates_179 rfl ?_
            refine a_gr (pc := 180) dX11_findStates_180 fX11_22 rfl ?_
            refine a_iload_n (pc := 183) dX11_findStates_183 rfl ?_
            refine a_ial (pc := 184) _ dX11_findStates_184 rfl rfl (by omega) ?_
            rw [show gA (fsG g St Od B2 C M W (nI N)) 81 d = nI n from hn]
            refine a_icmp_geN (pc := 185) 269 dX11_findStates_185 (by decide) (by omega) (by omega) (fun c2 => ?_) (fun c2 => ?_)
            · exact absurd c2 (by omega)
            · refine a_aload_n (pc := 188) dX11_findStates_188 rfl ?_
              refine a_gr (pc := 189) dX11_findStates_189 fX11_13 rfl ?_
              refine a_bipush (pc := 192) (nI 60) dX11_findStates_192 (by decide) ?_
              refine a_iload_n (pc := 194) dX11_findStates_194 rfl ?_
              refine a_imul (pc := 195) dX11_findStates_195 ?_
              try rw [pk_mul]
              refine a_iload (pc := 196) dX11_findStates_196 rfl ?_
              refine a_iadd (pc := 198) dX11_findStates_198 ?_
              try rw [nI_add]
              refine a_ial (pc := 199) _ dX11_findStates_199 rfl rfl (by omega) ?_
              rw [show gA (fsG g St Od B2 C M W (nI N)) 78 (60 * d + k) = S k from eS k]
              refine a_istore (pc := 200) (ls' := [_, _, _, _, _, _]) dX11_findStates_200 (Nat.le_of_ble_eq_true rfl) rfl ?_
              refine a_iload (pc := 202) dX11_findStates_202 rfl ?_
              refine a_iconst (pc := 204) (-1) dX11_findStates_204 (by decide) ?_
              rcases hs k (by omega) with hk1 | ⟨s, hs16, hks⟩
              · refine a_icmp_eq (pc := 205) 263 dX11_findStates_205 (by decide) (fun c3 => ?_) (fun c3 => ?_)
                · refine a_iinc (pc := 263) (ls' := [_, _, _, _, _, _]) (nI 1) dX11_findStates_263 (by decide) rfl (Nat.le_of_ble_eq_true rfl) rfl ?_
                  try rw [nI_add]
                  refine a_goto (pc := 266) 177 dX11_findStates_266 (by decide) ?_
                  refine ih2 (k + 1) (by omega) St Od B2 C M W N o hN hsr (fun p hp => ?_) hq _
                  rw [hB2 p hp, bmA, if_neg]
                  rintro ⟨z, -⟩
                  rw [hk1] at z
                  exact nI_m1 (by omega) z.symm
                · exact absurd hk1 c3
              · rw [hks]
                refine a_icmp_eq (pc := 205) 263 dX11_findStates_205 (by decide) (fun c3 => ?_) (fun c3 => ?_)
                · exact absurd c3 (nI_m1 (by omega))
                · refine a_aload_n (pc := 208) dX11_findStates_208 rfl ?_
                  refine a_iload_n (pc := 209) dX11_findStates_209 rfl ?_
                  refine a_iload (pc := 210) dX11_findStates_210 rfl ?_
                  refine a_V2i (pc := 212) 10 dX11_findStates_212 lcX11_writeEpoch lX11_133 rfl rfl rfl (fit_of hR (by omega) rfl) (c_writeEpoch (d0 := d0) d k hd (by omega)) rfl rfl (ex_i ?_)
                  rw [show (fun k => gA (fsG g St Od B2 C M W (nI N)) 78 (60 * d + k)) = S from eW]
                  refine a_iload_n (pc := 215) dX11_findStates_215 rfl ?_
                  have hwe := weN_le S k
                  refine a_icmp_neN (pc := 216) 263 dX11_findStates_216 (by decide) (by omega) (by omega) (fun c4 => ?_) (fun c4 => ?_)
                  · refine a_iinc (pc := 263) (ls' := [_, _, _, _, _, _]) (nI 1) dX11_findStates_263 (by decide) rfl (Nat.le_of_ble_eq_true rfl) rfl ?_
                    try rw [nI_add]
                    refine a_goto (pc := 266) 177 dX11_findStates_266 (by decide) ?_
                    refine ih2 (k + 1) (by omega) St Od B2 C M W N o hN hsr (fun p hp => ?_) hq _
                    rw [hB2 p hp, bmA, if_neg (fun z => c4 z.2)]
                  · refine a_aload_n (pc := 219) dX11_findStates_219 rfl ?_
                    refine a_gr (pc := 220) dX11_findStates_220 fX11_43 rfl ?_
                    refine a_iconst (pc := 223) (nI 2) dX11_findStates_223 (by decide) ?_
                    refine a_iload (pc := 224) dX11_findStates_224 rfl ?_
                    refine a_imul (pc := 226) dX11_findStates_226 ?_
                    try rw [pk_mul]
                    refine a_aload_n (pc := 227) dX11_findStates_227 rfl ?_
                    refine a_gr (pc := 228) dX11_findStates_228 fX11_16 rfl ?_
                    refine a_bipush (pc := 231) (nI 60) dX11_findStates_231 (by decide) ?_
                    refine a_iload_n (pc := 233) dX11_findStates_233 rfl ?_
                    refine a_imul (pc := 234) dX11_findStates_234 ?_
                    try rw [pk_mul]
                    refine a_iload (pc := 235) dX11_findStates_235 rfl ?_
                    refine a_iadd (pc := 237) dX11_findStates_237 ?_
                    try rw [nI_add]
                    refine a_ial (pc := 238) _ dX11_findStates_238 rfl rfl (by omega) ?_
                    rw [show gA (fsG g St Od B2 C M W (nI N)) 79 (60 * d + k) = O k from eO k]
                    refine a_ast (pc := 239) _ dX11_findStates_239 rfl rfl (by omega) ?_
                    refine a_aload_n (pc := 240) dX11_findStates_240 rfl ?_
                    refine a_gr (pc := 241) dX11_findStates_241 fX11_43 rfl ?_
                    refine a_iconst (pc := 244) (nI 2) dX11_findStates_244 (by decide) ?_
                    refine a_iload (pc := 245) dX11_findStates_245 rfl ?_
                    refine a_imul (pc := 247) dX11_findStates_247 ?_
                    try rw [pk_mul]
                    refine a_iconst (pc := 248) (nI 1) dX11_findStates_248 (by decide) ?_
                    refine a_iadd (pc := 249) dX11_findStates_249 ?_
                    try rw [nI_add]
                    refine a_aload_n (pc := 250) dX11_findStates_250 rfl ?_
                    refine a_gr (pc := 251) dX11_findStates_251 fX11_19 rfl ?_
                    refine a_bipush (pc := 254) (nI 60) dX11_findStates_254 (by decide) ?_
                    refine a_iload_n (pc := 256) dX11_findStates_256 rfl ?_
                    refine a_imul (pc := 257) dX11_findStates_257 ?_
                    try rw [pk_mul]
                    refine a_iload (pc := 258) dX11_findStates_258 rfl ?_
                    refine a_iadd (pc := 260) dX11_findStates_260 ?_
                    try rw [nI_add]
                    rw [fsG_86]
                    refine a_ial (pc := 261) _ dX11_findStates_261 rfl rfl (by omega) ?_
                    rw [show gA (fsG g St Od (upd (gA (fsG g St Od B2 C M W (nI N)) 86) (2 * s) (O k)) C M W (nI N)) 80 (60 * d + k) = T k from eT k]
                    refine a_ast (pc := 262) _ dX11_findStates_262 rfl rfl (by omega) ?_
                    rw [fsG_86]
                    refine a_iinc (pc := 263) (ls' := [_, _, _, _, _, _]) (nI 1) dX11_findStates_263 (by decide) rfl (Nat.le_of_ble_eq_true rfl) rfl ?_
                    try rw [nI_add]
                    refine a_goto (pc := 266) 177 dX11_findStates_266 (by decide) ?_
                    refine ih2 (k + 1) (by omega) St Od _ C M W N o hN hsr (fun p hp => ?_) hq _
                    show upd (upd B2 (2 * s) (O k)) (2 * s + 1) (T k) p = _
                    simp only [upd]
                    rw [bmA]
                    by_cases p1 : p = 2 * s + 1
                    · rw [if_pos p1, if_pos ⟨by rw [hks]; congr 1; omega, c4⟩, vlA, if_neg (by omega)]
                    · rw [if_neg p1]
                      by_cases p0 : p = 2 * s
                      · rw [if_pos p0, if_pos ⟨by rw [hks]; congr 1; omega, c4⟩, vlA, if_pos (by omega)]
                      · rw [if_neg p0, hB2 p hp, if_neg]
                        rintro ⟨z, -⟩
                        rw [hks, nI_eq (by omega) (by omega)] at z
                        omega
        have cho : ∀ t2 k, n = k + t2 → ∀ (C M : Nat → Int32) (m : Nat → Nat), ChI C M B S O T e k m → ∀ w5 : Option Value, AW mX11_findStates X Q ad 0 0 (conc (SS kd kp rp) (fsG g St Od B C M W (nI N))) 75 [some (.ref 76), some (.int (nI d)), some (.int (nI (epc S n))), some (.int (nI e)), some (.int (nI k)), w5] [] := by
          intro t2
          induction t2 with
          | zero =>
            intro k hk C M m hch w5
            obtain rfl : n = k := by omega
            refine a_iload (pc := 75) dX11_findStates_75 rfl ?_
            refine a_aload_n (pc := 77) dX11_findStates_77 rfl ?_
            refine a_gr (pc := 78) dX11_findStates_78 fX11_22 rfl ?_
            refine a_iload_n (pc := 81) dX11_findStates_81 rfl ?_
            refine a_ial (pc := 82) _ dX11_findStates_82 rfl rfl (by omega) ?_
            rw [show gA (fsG g St Od B C M W (nI N)) 81 d = nI n from hn]
            refine a_icmp_geN (pc := 83) 165 dX11_findStates_83 (by decide) (by omega) (by omega) (fun c2 => ?_) (fun c2 => ?_)
            · refine a_aload_n (pc := 165) dX11_findStates_165 rfl ?_
              have hPi := fun f => Prod_inA (P := P) hch hB f
              refine a_V0i (pc := 166) 10 dX11_findStates_166 lcX11_keepAll lX11_157 rfl rfl rfl (fit_of hR (by omega) rfl) (c_keepAll (d0 := d0) N m o hN rfl hsr (fun p hp => ⟨(hch p hp).1, (hch p hp).2.1, by have := (hch p hp).2.2.1; omega, (hch p hp).2.2.2.1⟩)) rfl rfl (fun rr S' g' hS hp => ?_)
              obtain ⟨rfl, b, St', Od', Nw, N', o', rfl, rfl, hN', hsr', hb1, hb2⟩ := hp
              rw [fsG_84, fsG_85, fsG_89, fsG_11]
              refine a_if_neB (pc := 169) 174 dX11_findStates_169 (by decide) (fun c3 => ?_) (fun c3 => ?_)
              · subst c3
                refine a_iconst (pc := 174) (nI 0) dX11_findStates_174 (by decide) ?_
                refine a_istore (pc := 175) (ls' := [_, _, _, _, _, _]) dX11_findStates_175 (Nat.le_of_ble_eq_true rfl) rfl ?_
                refine bas n 0 (by omega) St' Od' B C M Nw N' o' hN' hsr' (fun _ _ => rfl) (fun f => ?_) _
                rw [hb1 rfl f]
                constructor
                · rintro (z | z)
                  · obtain ⟨e', h1, h2⟩ := (hq f).mp z
                    exact ⟨e', by omega, h2⟩
                  · exact ⟨e, by omega, (hPi f).mp z⟩
                · rintro ⟨e', h1, h2⟩
                  rcases Nat.lt_or_ge e' e with q | q
                  · exact Or.inl ((hq f).mpr ⟨e', q, h2⟩)
                  · rw [show e' = e by omega] at h2
                    exact Or.inr ((hPi f).mpr h2)
              · subst c3
                refine a_iconst (pc := 172) (nI 0) dX11_findStates_172 (by decide) ?_
                refine ret _ _ 173 _ _ dX11_findStates_173 rfl (by first | exact Or.inl rfl | exact Or.inr rfl | exact bI_01 _) ?_
                refine ⟨rfl, false, St', Od', B, C, M, Nw, N', o', rfl, rfl, hN', hsr'.1, (fun z => by cases z), fun _ => hb2 rfl _ (fun f z => ?_) (fun f z => ⟨e, by omega, (hPi f).mp z⟩)⟩
                obtain ⟨e', h1, h2⟩ := (hq f).mp z
                exact ⟨e', by omega, h2⟩
            · exact absurd c2 (by omega)
          | succ t2 ih2 =>
            intro k hk C M m hch w5
            refine a_iload (pc := 75) dX11_findStates_75 rfl ?_
            refine a_aload_n (pc := 77) dX11_findStates_77 rfl ?_
            refine a_gr (pc := 78) dX11_findStates_78 fX11_22 rfl ?_
            refine a_iload_n (pc := 81) dX11_findStates_81 rfl ?_
            refine a_ial (pc := 82) _ dX11_findStates_82 rfl rfl (by omega) ?_
            rw [show gA (fsG g St Od B C M W (nI N)) 81 d = nI n from hn]
            refine a_icmp_geN (pc := 83) 165 dX11_findStates_83 (by decide) (by omega) (by omega) (fun c2 => ?_) (fun c2 => ?_)
            · exact absurd c2 (by omega)
            · refine a_aload_n (pc := 86) dX11_findStates_86 rfl ?_
              refine a_gr (pc := 87) dX11_findStates_87 fX11_13 rfl ?_
              refine a_bipush (pc := 90) (nI 60) dX11_findStates_90 (by decide) ?_
              refine a_iload_n (pc := 92) dX11_findStates_92 rfl ?_
              refine a_imul (pc := 93) dX11_findStates_93 ?_
              try rw [pk_mul]
              refine a_iload (pc := 94) dX11_findStates_94 rfl ?_
              refine a_iadd (pc := 96) dX11_findStates_96 ?_
              try rw [nI_add]
              refine a_ial (pc := 97) _ dX11_findStates_97 rfl rfl (by omega) ?_
              rw [show gA (fsG g St Od B C M W (nI N)) 78 (60 * d + k) = S k from eS k]
              refine a_istore (pc := 98) (ls' := [_, _, _, _, _, _]) dX11_findStates_98 (Nat.le_of_ble_eq_true rfl) rfl ?_
              refine a_iload (pc := 100) dX11_findStates_100 rfl ?_
              refine a_iconst (pc := 102) (-1) dX11_findStates_102 (by decide) ?_
              rcases hs k (by omega) with hk1 | ⟨s, hs16, hks⟩
              · refine a_icmp_eq (pc := 103) 159 dX11_findStates_103 (by decide) (fun c3 => ?_) (fun c3 => ?_)
                · refine a_iinc (pc := 159) (ls' := [_, _, _, _, _, _]) (nI 1) dX11_findStates_159 (by decide) rfl (Nat.le_of_ble_eq_true rfl) rfl ?_
                  try rw [nI_add]
                  refine a_goto (pc := 162) 75 dX11_findStates_162 (by decide) ?_
                  refine ih2 (k + 1) (by omega) C M m (hch.skip (fun p hp => ?_)) _
                  rintro ⟨z, -⟩
                  rw [hk1] at z
                  exact nI_m1 (by omega) z.symm
                · exact absurd hk1 c3
              · rw [hks]
                refine a_icmp_eq (pc := 103) 159 dX11_findStates_103 (by decide) (fun c3 => ?_) (fun c3 => ?_)
                · exact absurd c3 (nI_m1 (by omega))
                · refine a_aload_n (pc := 106) dX11_findStates_106 rfl ?_
                  refine a_iload_n (pc := 107) dX11_findStates_107 rfl ?_
                  refine a_iload (pc := 108) dX11_findStates_108 rfl ?_
                  refine a_V2i (pc := 110) 10 dX11_findStates_110 lcX11_writeEpoch lX11_133 rfl rfl rfl (fit_of hR (by omega) rfl) (c_writeEpoch (d0 := d0) d k hd (by omega)) rfl rfl (ex_i ?_)
                  rw [show (fun k => gA (fsG g St Od B C M W (nI N)) 78 (60 * d + k)) = S from eW]
                  refine a_iload_n (pc := 113) dX11_findStates_113 rfl ?_
                  have hwe := weN_le S k
                  refine a_icmp_neN (pc := 114) 159 dX11_findStates_114 (by decide) (by omega) (by omega) (fun c4 => ?_) (fun c4 => ?_)
                  · refine a_iinc (pc := 159) (ls' := [_, _, _, _, _, _]) (nI 1) dX11_findStates_159 (by decide) rfl (Nat.le_of_ble_eq_true rfl) rfl ?_
                    try rw [nI_add]
                    refine a_goto (pc := 162) 75 dX11_findStates_162 (by decide) ?_
                    refine ih2 (k + 1) (by omega) C M m (hch.skip (fun p hp z => c4 z.2)) _
                  · obtain ⟨u1, u2, u3, u4, -⟩ := hch (2 * s) (by omega)
                    obtain ⟨v1, v2, v3, v4, -⟩ := hch (2 * s + 1) (by omega)
                    refine a_aload_n (pc := 117) dX11_findStates_117 rfl ?_
                    refine a_iconst (pc := 118) (nI 2) dX11_findStates_118 (by decide) ?_
                    refine a_iload (pc := 119) dX11_findStates_119 rfl ?_
                    refine a_imul (pc := 121) dX11_findStates_121 ?_
                    try rw [pk_mul]
                    refine a_aload_n (pc := 122) dX11_findStates_122 rfl ?_
                    refine a_gr (pc := 123) dX11_findStates_123 fX11_16 rfl ?_
                    refine a_bipush (pc := 126) (nI 60) dX11_findStates_126 (by decide) ?_
                    refine a_iload_n (pc := 128) dX11_findStates_128 rfl ?_
                    refine a_imul (pc := 129) dX11_findStates_129 ?_
                    try rw [pk_mul]
                    refine a_iload (pc := 130) dX11_findStates_130 rfl ?_
                    refine a_iadd (pc := 132) dX11_findStates_132 ?_
                    try rw [nI_add]
                    refine a_ial (pc := 133) _ dX11_findStates_133 rfl rfl (by omega) ?_
                    rw [show gA (fsG g St Od B C M W (nI N)) 79 (60 * d + k) = O k from eO k]
                    refine a_V2v (pc := 134) 10 dX11_findStates_134 lcX11_mayBe lX11_147 rfl rfl rfl (fit_of hR (by omega) rfl) (c_mayBe (d0 := d0) (2 * s) (m (2 * s)) (O k) (by omega) (by omega) u1 u4) rfl rfl (fun S' g' hS hp => ?_)
                    obtain ⟨rfl, C1, m1, a1, a2, rfl, a3, a4, a5⟩ := hp
                    rw [fsG_87, fsG_88]
                    refine a_aload_n (pc := 137) dX11_findStates_137 rfl ?_
                    refine a_iconst (pc := 138) (nI 2) dX11_findStates_138 (by decide) ?_
                    refine a_iload (pc := 139) dX11_findStates_139 rfl ?_
                    refine a_imul (pc := 141) dX11_findStates_141 ?_
                    try rw [pk_mul]
                    refine a_iconst (pc := 142) (nI 1) dX11_findStates_142 (by decide) ?_
                    refine a_iadd (pc := 143) dX11_findStates_143 ?_
                    try rw [nI_add]
                    refine a_aload_n (pc := 144) dX11_findStates_144 rfl ?_
                    refine a_gr (pc := 145) dX11_findStates_145 fX11_19 rfl ?_
                    refine a_bipush (pc := 148) (nI 60) dX11_findStates_148 (by decide) ?_
                    refine a_iload_n (pc := 150) dX11_findStates_150 rfl ?_
                    refine a_imul (pc := 151) dX11_findStates_151 ?_
                    try rw [pk_mul]
                    refine a_iload (pc := 152) dX11_findStates_152 rfl ?_
                    refine a_iadd (pc := 154) dX11_findStates_154 ?_
                    try rw [nI_add]
                    refine a_ial (pc := 155) _ dX11_findStates_155 rfl rfl (by omega) ?_
                    rw [show gA (fsG g St Od B C1 (upd (gA (fsG g St Od B C M W (nI N)) 88) (2 * s) (nI m1)) W (nI N)) 80 (60 * d + k) = T k from eT k]
                    have hcs : ChS C1 (2 * s + 1) (m (2 * s + 1)) := fun a b h1 h2 => by
                      rw [a5 _ (by omega), a5 _ (by omega)]
                      exact v4 a b h1 h2
                    refine a_V2v (pc := 156) 10 dX11_findStates_156 lcX11_mayBe lX11_147 rfl rfl rfl (fit_of hR (by omega) rfl) (c_mayBe (d0 := d0) (2 * s + 1) (m (2 * s + 1)) (T k) (by omega) (by omega) (by show upd M (2 * s) (nI m1) (2 * s + 1) = _; rw [upd, if_neg (by omega)]; exact v1) hcs) rfl rfl (fun S' g' hS hp => ?_)
                    obtain ⟨rfl, C2, m2, b1, b2, rfl, b3, b4, b5⟩ := hp
                    rw [fsG_87, fsG_88]
                    refine a_iinc (pc := 159) (ls' := [_, _, _, _, _, _]) (nI 1) dX11_findStates_159 (by decide) rfl (Nat.le_of_ble_eq_true rfl) rfl ?_
                    try rw [nI_add]
                    refine a_goto (pc := 162) 75 dX11_findStates_162 (by decide) ?_
                    exact ih2 (k + 1) (by omega) C2 _ _ (hch.add hs16 hks c4 a1 a2 a3 a4 a5 b1 b2 b3 b4 b5 (by omega)) _
        exact cho n 0 (by omega) C0 M0 _ ch0 _
  -- the base, copied
  have cpy : ∀ t i, 32 = i + t → ∀ B : Nat → Int32, (∀ p, p < i → B p = P p) → AW mX11_findStates X Q ad 0 0 (conc (SS kd kp rp) (fsG g (gA g 84) (gA g 85) B (gA g 87) (gA g 88) (gA g 89) (nI 0))) 7 [some (.ref 76), some (.int (nI d)), some (.int (nI i)), none, none, none] [] := by
    intro t
    induction t with
    | zero =>
      intro i hi B hB
      obtain rfl : i = 32 := by omega
      refine a_iload_n (pc := 7) dX11_findStates_7 rfl ?_
      refine a_bipush (pc := 8) (nI 32) dX11_findStates_8 (by decide) ?_
      refine a_icmp_geN (pc := 10) 36 dX11_findStates_10 (by decide) (by omega) (by omega) (fun c1 => ?_) (fun c1 => ?_)
      · refine a_aload_n (pc := 36) dX11_findStates_36 rfl ?_
        refine a_iload_n (pc := 37) dX11_findStates_37 rfl ?_
        refine a_aload_n (pc := 38) dX11_findStates_38 rfl ?_
        refine a_gr (pc := 39) dX11_findStates_39 fX11_22 rfl ?_
        refine a_iload_n (pc := 42) dX11_findStates_42 rfl ?_
        refine a_ial (pc := 43) _ dX11_findStates_43 rfl rfl (by omega) ?_
        rw [show gA (fsG g (gA g 84) (gA g 85) B (gA g 87) (gA g 88) (gA g 89) (nI 0)) 81 d = nI n from hn]
        refine a_V2i (pc := 44) 10 dX11_findStates_44 lcX11_epochOf lX11_151 rfl rfl rfl (fit_of hR (by omega) rfl) (c_epochOf (d0 := d0) d n hd hn60 hn) rfl rfl (ex_i ?_)
        rw [show (fun k => gA (fsG g (gA g 84) (gA g 85) B (gA g 87) (gA g 88) (gA g 89) (nI 0)) 78 (60 * d + k)) = S from eW, show weN S n + (if weS S n = true then 1 else 0) = epc S n from rfl]
        have hEn : epc S n ≤ n + 1 := by
          have := weN_le S n
          unfold epc
          split <;> omega
        refine a_istore_n (pc := 47) (ls' := [_, _, _, _, _, _]) dX11_findStates_47 (Nat.le_of_ble_eq_true rfl) rfl ?_
        refine a_iload_n (pc := 48) dX11_findStates_48 rfl ?_
        have hB0 : ∀ p, p < 32 → B p = bsR P S O T 0 p n := by
          intro p hp
          rw [hB p hp, bsR_0]
        have sr0 : SrtA (gA g 84) (gA g 85) 0 (fun _ => 0) := ⟨fun i h => absurd h (by omega), fun i j h1 h2 => absurd h2 (by omega)⟩
        refine a_if_neN (pc := 49) 61 dX11_findStates_49 (by decide) (by omega) (fun c2 => ?_) (fun c2 => ?_)
        · refine a_iconst (pc := 61) (nI 0) dX11_findStates_61 (by decide) ?_
          refine a_istore_n (pc := 62) (ls' := [_, _, _, _, _, _]) dX11_findStates_62 (Nat.le_of_ble_eq_true rfl) rfl ?_
          exact epo (epc S n) 0 (by omega) (by omega) _ _ B _ _ _ 0 (fun _ => 0) (by decide) sr0 hB0 (fun f => ⟨fun ⟨i, h, _⟩ => absurd h (by omega), fun ⟨i, h, _⟩ => absurd h (by omega)⟩) _ _
        · refine a_aload_n (pc := 52) dX11_findStates_52 rfl ?_
          refine a_V0v (pc := 53) 10 dX11_findStates_53 lcX11_onlyBase lX11_154 rfl rfl rfl (fit_of hR (by omega) rfl) (c_onlyBase (d0 := d0)) rfl rfl (fun S' g' hS hp => ?_)
          obtain ⟨rfl, C0, M0, rfl, hob⟩ := hp
          rw [fsG_87, fsG_88]
          have hob : ∀ p, p < 32 → M0 p = nI 1 ∧ C0 (61 * p) = B p := hob
          have ch0 : ChI C0 M0 B S O T 0 n (fun _ => 1) := ChI_one hob (fun j p hj hp z1 z2 => by
            have := ep_lt S hj (by rw [z1]; exact nI_m1 (by omega))
            omega)
          have hPi := fun f => Prod_inA (P := P) ch0 hB0 f
          refine a_aload_n (pc := 56) dX11_findStates_56 rfl ?_
          refine a_V0i (pc := 57) 10 dX11_findStates_57 lcX11_keepAll lX11_157 rfl rfl rfl (fit_of hR (by omega) rfl) (c_keepAll (d0 := d0) 0 (fun _ => 1) (fun _ => 0) (by decide) rfl sr0 (fun p hp => ⟨(ch0 p hp).1, Nat.le_refl _, by decide, (ch0 p hp).2.2.2.1⟩)) rfl rfl (fun rr S' g' hS hp => ?_)
          obtain ⟨rfl, b, St', Od', Nw, N', o', rfl, rfl, hN', hsr', hb1, hb2⟩ := hp
          rw [fsG_84, fsG_85, fsG_89, fsG_11]
          refine ret _ _ 60 _ _ dX11_findStates_60 rfl (by first | exact Or.inl rfl | exact Or.inr rfl | exact bI_01 _) ?_
          refine ⟨rfl, b, St', Od', B, C0, M0, Nw, N', o', rfl, rfl, hN', hsr'.1, fun z => ⟨hsr'.2, fun f => ?_⟩, fun z => hb2 z _ (fun f ⟨i, h, _⟩ => absurd h (by omega)) (fun f q => ⟨0, by omega, (hPi f).mp q⟩)⟩
          rw [hb1 z f]
          constructor
          · rintro ⟨e', h1, h2⟩
            rw [show e' = 0 by omega] at h2
            exact Or.inr ((hPi f).mpr h2)
          · rintro (⟨i, h, _⟩ | q)
            · exact absurd h (by omega)
            · exact ⟨0, by omega, (hPi f).mp q⟩
      · exact absurd c1 (by omega)
    | succ t ih =>
      intro i hi B hB
      refine a_iload_n (pc := 7) dX11_findStates_7 rfl ?_
      refine a_bipush (pc := 8) (nI 32) dX11_findStates_8 (by decide) ?_
      refine a_icmp_geN (pc := 10) 36 dX11_findStates_10 (by decide) (by omega) (by omega) (fun c1 => ?_) (fun c1 => ?_)
      · exact absurd c1 (by omega)
      · refine a_aload_n (pc := 13) dX11_findStates_13 rfl ?_
        refine a_gr (pc := 14) dX11_findStates_14 fX11_43 rfl ?_
        refine a_iload_n (pc := 17) dX11_findStates_17 rfl ?_
        refine a_aload_n (pc := 18) dX11_findStates_18 rfl ?_
        refine a_gr (pc := 19) dX11_findStates_19 fX11_7 rfl ?_
        refine a_bipush (pc := 22) (nI 32) dX11_findStates_22 (by decide) ?_
        refine a_iload_n (pc := 24) dX11_findStates_24 rfl ?_
        refine a_imul (pc := 25) dX11_findStates_25 ?_
        try rw [pk_mul]
        refine a_iload_n (pc := 26) dX11_findStates_26 rfl ?_
        refine a_iadd (pc := 27) dX11_findStates_27 ?_
        try rw [nI_add]
        refine a_ial (pc := 28) _ dX11_findStates_28 rfl rfl (by omega) ?_
        rw [show gA (fsG g (gA g 84) (gA g 85) B (gA g 87) (gA g 88) (gA g 89) (nI 0)) 77 (32 * d + i) = P i from eP i]
        refine a_ast (pc := 29) _ dX11_findStates_29 rfl rfl (by omega) ?_
        rw [fsG_86]
        refine a_iinc (pc := 30) (ls' := [_, _, _, _, _, _]) (nI 1) dX11_findStates_30 (by decide) rfl (Nat.le_of_ble_eq_true rfl) rfl ?_
        try rw [nI_add]
        refine a_goto (pc := 33) 7 dX11_findStates_33 (by decide) ?_
        refine ih (i + 1) (by omega) _ (fun p hp => ?_)
        show upd B i (P i) p = _
        rw [upd]
        by_cases q : p = i
        · rw [if_pos q, q]
        · rw [if_neg q]
          exact hB p (by omega)
  have h0 := cpy 32 0 (by omega) (gA g 86) (fun p h => absurd h (by omega))
  have e0 : fsG g (gA g 84) (gA g 85) (gA g 86) (gA g 87) (gA g 88) (gA g 89) (nI 0) = pF g 76 11 (nI 0) := by
    have := fsG_11 g (gA g 84) (gA g 85) (gA g 86) (gA g 87) (gA g 88) (gA g 89) (gF g 76 11) (nI 0)
    rw [fsG_self] at this
    exact this.symm
  rw [e0] at h0
  exact h0
