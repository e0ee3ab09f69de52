theorem hi0 : hi32 0 = nI 0 := by decide
theorem lo0 : (0 : Int64).toInt32 = nI 0 := by decide
theorem plA_77 (g : GH) (L : List En) : gA (plA g L) 77 = gA g 77 := rfl
theorem plA_78 (g : GH) (L : List En) : gA (plA g L) 78 = gA g 78 := rfl
theorem plA_79 (g : GH) (L : List En) : gA (plA g L) 79 = gA g 79 := rfl
theorem plA_80 (g : GH) (L : List En) : gA (plA g L) 80 = gA g 80 := rfl
theorem plA_81 (g : GH) (L : List En) : gA (plA g L) 81 = gA g 81 := rfl
theorem plA_82 (g : GH) (L : List En) : gA (plA g L) 82 = gA g 82 := rfl
/-- what a CHANGE writes: key k becomes v, and key l (if there is one) 0 -/
def ch0 (k : Nat) (v : Int64) (lw : Option Nat) : List En := [(nI k, hi32 v, v.toInt32)] ++ (match lw with
  | none => []
  | some l => [(nI l, nI 0, nI 0)])
def mny (lw : Option Nat) : Int32 := match lw with
  | none => nI 1
  | some _ => nI 2
def oth (lw : Option Nat) : Int32 := match lw with
  | none => -1
  | some l => nI l
def lI9 (lw : Option Nat) : Int32 := match lw with
  | none => -9
  | some l => nI l
def ch1 (sp : Nat → Int32) (k : Nat) (v : Int64) (lw : Option Nat) : List En := [(nI 4, nI k, hi32 v), (nI 5, v.toInt32, oth lw), (nI 6, nI 0, nI 0)] ++ fnc sp 4 ++ [(nI 3, mny lw, sum7 (mny lw) (nI k) (hi32 v) v.toInt32 (oth lw) (nI 0) (nI 0))] ++ fnc sp 5 ++ [(nI k, hi32 v, v.toInt32)] ++ (match lw with
  | none => []
  | some l => [(nI l, nI 0, nI 0)]) ++ fnc sp 6 ++ [(nI 3, nI 0, nI 0)] ++ fnc sp 7
def nowK (key : Nat → Int64) (k : Nat) (v : Int64) (lw : Option Nat) (x : Nat) : Int64 := if x = k then v else if lw = some x then 0 else key x
def shE (n : Int32) (key : Nat → Int64) (k : Nat) (v : Int64) (lw : Option Nat) (x : Nat) : En := (nI (plc x n), hi32 (nowK key k v lw x), (nowK key k v lw x).toInt32)
def ch2 (sp : Nat → Int32) (n : Int32) (key : Nat → Int64) (k : Nat) (v : Int64) (lw : Option Nat) : List En := [shE n key k v lw 0, shE n key k v lw 1, shE n key k v lw 2] ++ fnc sp 8 ++ [(if n &&& nI 1 = nI 1 then nI 3 else nI 7, n, nI 31 * n + nI 7)] ++ fnc sp 9
def chg (store : Nat) (sp : Nat → Int32) (ver : Int32) (key : Nat → Int64) (k : Nat) (v : Int64) (lw : Option Nat) : List En := match store with
  | 0 => ch0 k v lw
  | 1 => ch1 sp k v lw
  | _ => ch2 sp (ver + nI 1) key k v lw
set_option maxHeartbeats 4000000 in
set_option maxRecDepth 100000 in
theorem c_planChange0 {d0 kd kp rp : Nat} {g : GH} (d k : Nat) (v : Int64) (lw : Option Nat) (hl : ∀ l, lw = some l → l < 3) : ACv mX11_planChange (d0 + 3) (SS kd kp rp) g [.ref 76, .int (nI d), .int (nI 0), .int (nI k), .long v, .int (lI9 lw), .long 0] (fun S' g' => S' = SS kd kp rp ∧ g' = plA g (ch0 k v lw)) := by
  cases lw with
  | none =>
    refine ACv.of lcX11_planChange rfl rfl (fun X Q ad hR ret => ?_)
    refine AW_ls (ls' := [_, _, _, _, _, _, _, _, _, _, _, _, _, _]) rfl ?_
    refine a_aload_n (pc := 0) dX11_planChange_0 rfl ?_
    refine a_iconst (pc := 1) (nI 0) dX11_planChange_1 (by decide) ?_
    refine a_pi (pc := 2) dX11_planChange_2 fX11_188 rfl ?_
    refine a_iload (pc := 5) dX11_planChange_5 rfl ?_
    refine a_bipush (pc := 7) (-9) dX11_planChange_7 (by decide) ?_
    refine a_icmp_eq (pc := 9) 16 dX11_planChange_9 (by decide) (fun cc => ?_) (fun cc => ?_)
    · refine a_iconst (pc := 16) (nI 0) dX11_planChange_16 (by decide) ?_
      refine a_istore (pc := 17) (ls' := [_, _, _, _, _, _, _, _, _, _, _, _, _, _]) dX11_planChange_17 (Nat.le_of_ble_eq_true rfl) rfl ?_
      refine a_iload_n (pc := 19) dX11_planChange_19 rfl ?_
      refine a_if_neN (pc := 20) 58 dX11_planChange_20 (by decide) (by omega) (fun c1 => ?_) (fun c1 => ?_)
      · exact absurd rfl c1
      · refine a_aload_n (pc := 23) dX11_planChange_23 rfl ?_
        refine a_iload_n (pc := 24) dX11_planChange_24 rfl ?_
        refine a_lload (pc := 25) dX11_planChange_25 rfl ?_
        refine a_S1i (pc := 27) dX11_planChange_27 lcX11_high lX11_198 (fit_of hR (by omega) rfl) (c_high (d0 := d0) v) rfl rfl (ex_i ?_)
        refine a_lload (pc := 30) dX11_planChange_30 rfl ?_
        refine a_l2i (pc := 32) dX11_planChange_32 ?_
        rw [← plA_nil]
        refine a_V3v (pc := 33) 10 dX11_planChange_33 lcX11_plan lX11_191 rfl rfl rfl (fit_of hR (by omega) rfl) (c_plan (d0 := d0) [] _ _ _ (by decide)) rfl rfl (ex_v ?_)
        refine a_iload (pc := 36) dX11_planChange_36 rfl ?_
        refine a_if_eqN (pc := 38) 340 dX11_planChange_38 (by decide) (by omega) (fun c2 => ?_) (fun c2 => ?_)
        · refine ret _ _ 340 _ dX11_planChange_340 rfl ?_
          exact ⟨rfl, rfl⟩
        · exact absurd rfl c2
    · exact absurd rfl cc
  | some l =>
    have hl3 := hl l rfl
    refine ACv.of lcX11_planChange rfl rfl (fun X Q ad hR ret => ?_)
    refine AW_ls (ls' := [_, _, _, _, _, _, _, _, _, _, _, _, _, _]) rfl ?_
    refine a_aload_n (pc := 0) dX11_planChange_0 rfl ?_
    refine a_iconst (pc := 1) (nI 0) dX11_planChange_1 (by decide) ?_
    refine a_pi (pc := 2) dX11_planChange_2 fX11_188 rfl ?_
    refine a_iload (pc := 5) dX11_planChange_5 rfl ?_
    refine a_bipush (pc := 7) (-9) dX11_planChange_7 (by decide) ?_
    refine a_icmp_eq (pc := 9) 16 dX11_planChange_9 (by decide) (fun cc => ?_) (fun cc => ?_)
    · exact absurd cc (by
        have : ∀ l, l < 3 → ¬ nI l = -9 := by decide
        exact this l hl3)
    · refine a_iconst (pc := 12) (nI 1) dX11_planChange_12 (by decide) ?_
      refine a_goto (pc := 13) 17 dX11_planChange_13 (by decide) ?_
      refine a_istore (pc := 17) (ls' := [_, _, _, _, _, _, _, _, _, _, _, _, _, _]) dX11_planChange_17 (Nat.le_of_ble_eq_true rfl) rfl ?_
      refine a_iload_n (pc := 19) dX11_planChange_19 rfl ?_
      refine a_if_neN (pc := 20) 58 dX11_planChange_20 (by decide) (by omega) (fun c1 => ?_) (fun c1 => ?_)
      · exact absurd rfl c1
      · refine a_aload_n (pc := 23) dX11_planChange_23 rfl ?_
        refine a_iload_n (pc := 24) dX11_planChange_24 rfl ?_
        refine a_lload (pc := 25) dX11_planChange_25 rfl ?_
        refine a_S1i (pc := 27) dX11_planChange_27 lcX11_high lX11_198 (fit_of hR (by omega) rfl) (c_high (d0 := d0) v) rfl rfl (ex_i ?_)
        refine a_lload (pc := 30) dX11_planChange_30 rfl ?_
        refine a_l2i (pc := 32) dX11_planChange_32 ?_
        rw [← plA_nil]
        refine a_V3v (pc := 33) 10 dX11_planChange_33 lcX11_plan lX11_191 rfl rfl rfl (fit_of hR (by omega) rfl) (c_plan (d0 := d0) [] _ _ _ (by decide)) rfl rfl (ex_v ?_)
        refine a_iload (pc := 36) dX11_planChange_36 rfl ?_
        refine a_if_eqN (pc := 38) 340 dX11_planChange_38 (by decide) (by omega) (fun c2 => ?_) (fun c2 => ?_)
        · exact absurd c2 (by decide)
        · refine a_aload_n (pc := 41) dX11_planChange_41 rfl ?_
          refine a_iload (pc := 42) dX11_planChange_42 rfl ?_
          refine a_lload (pc := 44) dX11_planChange_44 rfl ?_
          refine a_S1i (pc := 46) dX11_planChange_46 lcX11_high lX11_198 (fit_of hR (by omega) rfl) (c_high (d0 := d0) 0) rfl rfl (ex_i ?_)
          refine a_lload (pc := 49) dX11_planChange_49 rfl ?_
          refine a_l2i (pc := 51) dX11_planChange_51 ?_
          rw [hi0, lo0]
          refine a_V3v (pc := 52) 10 dX11_planChange_52 lcX11_plan lX11_191 rfl rfl rfl (fit_of hR (by omega) rfl) (c_plan (d0 := d0) _ _ _ _ (by simp)) rfl rfl (ex_v ?_)
          refine a_goto (pc := 55) 340 dX11_planChange_55 (by decide) ?_
          refine ret _ _ 340 _ dX11_planChange_340 rfl ?_
          exact ⟨rfl, rfl⟩
set_option maxHeartbeats 4000000 in
set_option maxRecDepth 100000 in
theorem c_planChange1 {d0 kd kp rp : Nat} {g : GH} (d k : Nat) (v : Int64) (lw : Option Nat) (hl : ∀ l, lw = some l → l < 3) : ACv mX11_planChange (d0 + 3) (SS kd kp rp) g [.ref 76, .int (nI d), .int (nI 1), .int (nI k), .long v, .int (lI9 lw), .long 0] (fun S' g' => S' = SS kd kp rp ∧ g' = plA g (ch1 (gA g 82) k v lw)) := by
  have f4 := fnc_len (gA g 82) 4
  have f5 := fnc_len (gA g 82) 5
  cases lw with
  | none =>
    refine ACv.of lcX11_planChange rfl rfl (fun X Q ad hR ret => ?_)
    refine AW_ls (ls' := [_, _, _, _, _, _, _, _, _, _, _, _, _, _]) rfl ?_
    refine a_aload_n (pc := 0) dX11_planChange_0 rfl ?_
    refine a_iconst (pc := 1) (nI 0) dX11_planChange_1 (by decide) ?_
    refine a_pi (pc := 2) dX11_planChange_2 fX11_188 rfl ?_
    refine a_iload (pc := 5) dX11_planChange_5 rfl ?_
    refine a_bipush (pc := 7) (-9) dX11_planChange_7 (by decide) ?_
    refine a_icmp_eq (pc := 9) 16 dX11_planChange_9 (by decide) (fun cc => ?_) (fun cc => ?_)
    · refine a_iconst (pc := 16) (nI 0) dX11_planChange_16 (by decide) ?_
      refine a_istore (pc := 17) (ls' := [_, _, _, _, _, _, _, _, _, _, _, _, _, _]) dX11_planChange_17 (Nat.le_of_ble_eq_true rfl) rfl ?_
      refine a_iload_n (pc := 19) dX11_planChange_19 rfl ?_
      refine a_if_neN (pc := 20) 58 dX11_planChange_20 (by decide) (by omega) (fun c1 => ?_) (fun c1 => ?_)
      · refine a_iload_n (pc := 58) dX11_planChange_58 rfl ?_
        refine a_iconst (pc := 59) (nI 1) dX11_planChange_59 (by decide) ?_
        refine a_icmp_neN (pc := 60) 224 dX11_planChange_60 (by decide) (by omega) (by omega) (fun c2 => ?_) (fun c2 => ?_)
        · exact absurd rfl c2
        · refine a_iload (pc := 63) dX11_planChange_63 rfl ?_
          refine a_if_eqN (pc := 65) 72 dX11_planChange_65 (by decide) (by omega) (fun c3 => ?_) (fun c3 => ?_)
          · refine a_iconst (pc := 72) (nI 1) dX11_planChange_72 (by decide) ?_
            refine a_istore (pc := 73) (ls' := [_, _, _, _, _, _, _, _, _, _, _, _, _, _]) dX11_planChange_73 (Nat.le_of_ble_eq_true rfl) rfl ?_
            refine a_iload (pc := 75) dX11_planChange_75 rfl ?_
            refine a_if_eqN (pc := 77) 85 dX11_planChange_77 (by decide) (by omega) (fun c4 => ?_) (fun c4 => ?_)
            · refine a_iconst (pc := 85) (-1) dX11_planChange_85 (by decide) ?_
              refine a_istore (pc := 86) (ls' := [_, _, _, _, _, _, _, _, _, _, _, _, _, _]) dX11_planChange_86 (Nat.le_of_ble_eq_true rfl) rfl ?_
              refine a_iload (pc := 88) dX11_planChange_88 rfl ?_
              refine a_if_eqN (pc := 90) 101 dX11_planChange_90 (by decide) (by omega) (fun c5 => ?_) (fun c5 => ?_)
              · refine a_iconst (pc := 101) (nI 0) dX11_planChange_101 (by decide) ?_
                refine a_istore (pc := 102) (ls' := [_, _, _, _, _, _, _, _, _, _, _, _, _, _]) dX11_planChange_102 (Nat.le_of_ble_eq_true rfl) rfl ?_
                refine a_iload (pc := 104) dX11_planChange_104 rfl ?_
                refine a_if_eqN (pc := 106) 115 dX11_planChange_106 (by decide) (by omega) (fun c6 => ?_) (fun c6 => ?_)
                · refine a_iconst (pc := 115) (nI 0) dX11_planChange_115 (by decide) ?_
                  refine a_istore (pc := 116) (ls' := [_, _, _, _, _, _, _, _, _, _, _, _, _, _]) dX11_planChange_116 (Nat.le_of_ble_eq_true rfl) rfl ?_
                  refine a_aload_n (pc := 118) dX11_planChange_118 rfl ?_
                  refine a_iconst (pc := 119) (nI 4) dX11_planChange_119 (by decide) ?_
                  refine a_iload_n (pc := 120) dX11_planChange_120 rfl ?_
                  refine a_lload (pc := 121) dX11_planChange_121 rfl ?_
                  refine a_S1i (pc := 123) dX11_planChange_123 lcX11_high lX11_198 (fit_of hR (by omega) rfl) (c_high (d0 := d0) v) rfl rfl (ex_i ?_)
                  rw [← plA_nil]
                  refine a_V3v (pc := 126) 10 dX11_planChange_126 lcX11_plan lX11_191 rfl rfl rfl (fit_of hR (by omega) rfl) (c_plan (d0 := d0) [] _ _ _ (by decide)) rfl rfl (ex_v ?_)
                  refine a_aload_n (pc := 129) dX11_planChange_129 rfl ?_
                  refine a_iconst (pc := 130) (nI 5) dX11_planChange_130 (by decide) ?_
                  refine a_lload (pc := 131) dX11_planChange_131 rfl ?_
                  refine a_l2i (pc := 133) dX11_planChange_133 ?_
                  refine a_iload (pc := 134) dX11_planChange_134 rfl ?_
                  refine a_V3v (pc := 136) 10 dX11_planChange_136 lcX11_plan lX11_191 rfl rfl rfl (fit_of hR (by omega) rfl) (c_plan (d0 := d0) _ _ _ _ (by simp)) rfl rfl (ex_v ?_)
                  refine a_aload_n (pc := 139) dX11_planChange_139 rfl ?_
                  refine a_bipush (pc := 140) (nI 6) dX11_planChange_140 (by decide) ?_
                  refine a_iload (pc := 142) dX11_planChange_142 rfl ?_
                  refine a_iload (pc := 144) dX11_planChange_144 rfl ?_
                  refine a_V3v (pc := 146) 10 dX11_planChange_146 lcX11_plan lX11_191 rfl rfl rfl (fit_of hR (by omega) rfl) (c_plan (d0 := d0) _ _ _ _ (by simp)) rfl rfl (ex_v ?_)
                  refine a_aload_n (pc := 149) dX11_planChange_149 rfl ?_
                  refine a_iload_n (pc := 150) dX11_planChange_150 rfl ?_
                  refine a_iconst (pc := 151) (nI 0) dX11_planChange_151 (by decide) ?_
                  refine a_V2v (pc := 152) 10 dX11_planChange_152 lcX11_planFence lX11_195 rfl rfl rfl (fit_of hR (by omega) rfl) (c_planFence (d0 := d0) _ 1 0 (by decide) (by decide) (by simp)) rfl rfl (ex_v ?_)
                  refine a_aload_n (pc := 155) dX11_planChange_155 rfl ?_
                  refine a_iconst (pc := 156) (nI 3) dX11_planChange_156 (by decide) ?_
                  refine a_iload (pc := 157) dX11_planChange_157 rfl ?_
                  refine a_iload (pc := 159) dX11_planChange_159 rfl ?_
                  refine a_iload_n (pc := 161) dX11_planChange_161 rfl ?_
                  refine a_lload (pc := 162) dX11_planChange_162 rfl ?_
                  refine a_S1i (pc := 164) dX11_planChange_164 lcX11_high lX11_198 (fit_of hR (by omega) rfl) (c_high (d0 := d0) v) rfl rfl (ex_i ?_)
                  refine a_lload (pc := 167) dX11_planChange_167 rfl ?_
                  refine a_l2i (pc := 169) dX11_planChange_169 ?_
                  refine a_iload (pc := 170) dX11_planChange_170 rfl ?_
                  refine a_iload (pc := 172) dX11_planChange_172 rfl ?_
                  refine a_iload (pc := 174) dX11_planChange_174 rfl ?_
                  refine a_S7i (pc := 176) dX11_planChange_176 lcX11_sum lX11_202 (fit_of hR (by omega) rfl) (c_sum (d0 := d0) _ _ _ _ _ _ _) rfl rfl (ex_i ?_)
                  refine a_V3v (pc := 179) 10 dX11_planChange_179 lcX11_plan lX11_191 rfl rfl rfl (fit_of hR (by omega) rfl) (c_plan (d0 := d0) _ _ _ _ (by simp; omega)) rfl rfl (ex_v ?_)
                  refine a_aload_n (pc := 182) dX11_planChange_182 rfl ?_
                  refine a_iload_n (pc := 183) dX11_planChange_183 rfl ?_
                  refine a_iconst (pc := 184) (nI 1) dX11_planChange_184 (by decide) ?_
                  refine a_V2v (pc := 185) 10 dX11_planChange_185 lcX11_planFence lX11_195 rfl rfl rfl (fit_of hR (by omega) rfl) (c_planFence (d0 := d0) _ 1 1 (by decide) (by decide) (by simp; omega)) rfl rfl (ex_v ?_)
                  refine a_aload_n (pc := 188) dX11_planChange_188 rfl ?_
                  refine a_iload_n (pc := 189) dX11_planChange_189 rfl ?_
                  refine a_lload (pc := 190) dX11_planChange_190 rfl ?_
                  refine a_S1i (pc := 192) dX11_planChange_192 lcX11_high lX11_198 (fit_of hR (by omega) rfl) (c_high (d0 := d0) v) rfl rfl (ex_i ?_)
                  refine a_lload (pc := 195) dX11_planChange_195 rfl ?_
                  refine a_l2i (pc := 197) dX11_planChange_197 ?_
                  refine a_V3v (pc := 198) 10 dX11_planChange_198 lcX11_plan lX11_191 rfl rfl rfl (fit_of hR (by omega) rfl) (c_plan (d0 := d0) _ _ _ _ (by simp; omega)) rfl rfl (ex_v ?_)
                  refine a_iload (pc := 201) dX11_planChange_201 rfl ?_
                  refine a_if_eqN (pc := 203) 216 dX11_planChange_203 (by decide) (by omega) (fun c7 => ?_) (fun c7 => ?_)
                  · refine a_aload_n (pc := 216) dX11_planChange_216 rfl ?_
                    refine a_iload_n (pc := 217) dX11_planChange_217 rfl ?_
                    refine a_V1v (pc := 218) 10 dX11_planChange_218 lcX11_planEnd lX11_206 rfl rfl rfl (fit_of hR (by omega) rfl) (c_planEnd (d0 := d0) _ 1 (by decide) (by simp; omega)) rfl rfl (ex_v ?_)
                    refine a_goto (pc := 221) 340 dX11_planChange_221 (by decide) ?_
                    refine ret _ _ 340 _ dX11_planChange_340 rfl ?_
                    exact ⟨rfl, by simp [ch1, oth, mny, lI9]⟩
                  · exact absurd rfl c7
                · exact absurd rfl c6
              · exact absurd rfl c5
            · exact absurd rfl c4
          · exact absurd rfl c3
      · exact absurd c1 (by decide)
    · exact absurd rfl cc
  | some l =>
    have hl3 := hl l rfl
    refine ACv.of lcX11_planChange rfl rfl (fun X Q ad hR ret => ?_)
    refine AW_ls (ls' := [_, _, _, _, _, _, _, _, _, _, _, _, _, _]) rfl ?_
    refine a_aload_n (pc := 0) dX11_planChange_0 rfl ?_
    refine a_iconst (pc := 1) (nI 0) dX11_planChange_1 (by decide) ?_
    refine a_pi (pc := 2) dX11_planChange_2 fX11_188 rfl ?_
    refine a_iload (pc := 5) dX11_planChange_5 rfl ?_
    refine a_bipush (pc := 7) (-9) dX11_planChange_7 (by decide) ?_
    refine a_icmp_eq (pc := 9) 16 dX11_planChange_9 (by decide) (fun cc => ?_) (fun cc => ?_)
    · exact absurd cc (by
        have : ∀ l, l < 3 → ¬ nI l = -9 := by decide
        exact this l hl3)
    · refine a_iconst (pc := 12) (nI 1) dX11_planChange_12 (by decide) ?_
      refine a_goto (pc := 13) 17 dX11_planChange_13 (by decide) ?_
      refine a_istore (pc := 17) (ls' := [_, _, _, _, _, _, _, _, _, _, _, _, _, _]) dX11_planChange_17 (Nat.le_of_ble_eq_true rfl) rfl ?_
      refine a_iload_n (pc := 19) dX11_planChange_19 rfl ?_
      refine a_if_neN (pc := 20) 58 dX11_planChange_20 (by decide) (by omega) (fun c1 => ?_) (fun c1 => ?_)
      · refine a_iload_n (pc := 58) dX11_planChange_58 rfl ?_
        refine a_iconst (pc := 59) (nI 1) dX11_planChange_59 (by decide) ?_
        refine a_icmp_neN (pc := 60) 224 dX11_planChange_60 (by decide) (by omega) (by omega) (fun c2 => ?_) (fun c2 => ?_)
        · exact absurd rfl c2
        · refine a_iload (pc := 63) dX11_planChange_63 rfl ?_
          refine a_if_eqN (pc := 65) 72 dX11_planChange_65 (by decide) (by omega) (fun c3 => ?_) (fun c3 => ?_)
          · exact absurd c3 (by decide)
          · refine a_iconst (pc := 68) (nI 2) dX11_planChange_68 (by decide) ?_
            refine a_goto (pc := 69) 73 dX11_planChange_69 (by decide) ?_
            refine a_istore (pc := 73) (ls' := [_, _, _, _, _, _, _, _, _, _, _, _, _, _]) dX11_planChange_73 (Nat.le_of_ble_eq_true rfl) rfl ?_
            refine a_iload (pc := 75) dX11_planChange_75 rfl ?_
            refine a_if_eqN (pc := 77) 85 dX11_planChange_77 (by decide) (by omega) (fun c4 => ?_) (fun c4 => ?_)
            · exact absurd c4 (by decide)
            · refine a_iload (pc := 80) dX11_planChange_80 rfl ?_
              refine a_goto (pc := 82) 86 dX11_planChange_82 (by decide) ?_
              refine a_istore (pc := 86) (ls' := [_, _, _, _, _, _, _, _, _, _, _, _, _, _]) dX11_planChange_86 (Nat.le_of_ble_eq_true rfl) rfl ?_
              refine a_iload (pc := 88) dX11_planChange_88 rfl ?_
              refine a_if_eqN (pc := 90) 101 dX11_planChange_90 (by decide) (by omega) (fun c5 => ?_) (fun c5 => ?_)
              · exact absurd c5 (by decide)
              · refine a_lload (pc := 93) dX11_planChange_93 rfl ?_
                refine a_S1i (pc := 95) dX11_planChange_95 lcX11_high lX11_198 (fit_of hR (by omega) rfl) (c_high (d0 := d0) 0) rfl rfl (ex_i ?_)
                refine a_goto (pc := 98) 102 dX11_planChange_98 (by decide) ?_
                refine a_istore (pc := 102) (ls' := [_, _, _, _, _, _, _, _, _, _, _, _, _, _]) dX11_planChange_102 (Nat.le_of_ble_eq_true rfl) rfl ?_
                refine a_iload (pc := 104) dX11_planChange_104 rfl ?_
                refine a_if_eqN (pc := 106) 115 dX11_planChange_106 (by decide) (by omega) (fun c6 => ?_) (fun c6 => ?_)
                · exact absurd c6 (by decide)
                · refine a_lload (pc := 109) dX11_planChange_109 rfl ?_
                  refine a_l2i (pc := 111) dX11_planChange_111 ?_
                  refine a_goto (pc := 112) 116 dX11_planChange_112 (by decide) ?_
                  refine a_istore (pc := 116) (ls' := [_, _, _, _, _, _, _, _, _, _, _, _, _, _]) dX11_planChange_116 (Nat.le_of_ble_eq_true rfl) rfl ?_
                  refine a_aload_n (pc := 118) dX11_planChange_118 rfl ?_
                  refine a_iconst (pc := 119) (nI 4) dX11_planChange_119 (by decide) ?_
                  refine a_iload_n (pc := 120) dX11_planChange_120 rfl ?_
                  refine a_lload (pc := 121) dX11_planChange_121 rfl ?_
                  rw [hi0, lo0]
                  refine a_S1i (pc := 123) dX11_planChange_123 lcX11_high lX11_198 (fit_of hR (by omega) rfl) (c_high (d0 := d0) v) rfl rfl (ex_i ?_)
                  rw [← plA_nil]
                  refine a_V3v (pc := 126) 10 dX11_planChange_126 lcX11_plan lX11_191 rfl rfl rfl (fit_of hR (by omega) rfl) (c_plan (d0 := d0) [] _ _ _ (by decide)) rfl rfl (ex_v ?_)
                  refine a_aload_n (pc := 129) dX11_planChange_129 rfl ?_
                  refine a_iconst (pc := 130) (nI 5) dX11_planChange_130 (by decide) ?_
                  refine a_lload (pc := 131) dX11_planChange_131 rfl ?_
                  refine a_l2i (pc := 133) dX11_planChange_133 ?_
                  refine a_iload (pc := 134) dX11_planChange_134 rfl ?_
                  refine a_V3v (pc := 136) 10 dX11_planChange_136 lcX11_plan lX11_191 rfl rfl rfl (fit_of hR (by omega) rfl) (c_plan (d0 := d0) _ _ _ _ (by simp)) rfl rfl (ex_v ?_)
                  refine a_aload_n (pc := 139) dX11_planChange_139 rfl ?_
                  refine a_bipush (pc := 140) (nI 6) dX11_planChange_140 (by decide) ?_
                  refine a_iload (pc := 142) dX11_planChange_142 rfl ?_
                  refine a_iload (pc := 144) dX11_planChange_144 rfl ?_
                  refine a_V3v (pc := 146) 10 dX11_planChange_146 lcX11_plan lX11_191 rfl rfl rfl (fit_of hR (by omega) rfl) (c_plan (d0 := d0) _ _ _ _ (by simp)) rfl rfl (ex_v ?_)
                  refine a_aload_n (pc := 149) dX11_planChange_149 rfl ?_
                  refine a_iload_n (pc := 150) dX11_planChange_150 rfl ?_
                  refine a_iconst (pc := 151) (nI 0) dX11_planChange_151 (by decide) ?_
                  refine a_V2v (pc := 152) 10 dX11_planChange_152 lcX11_planFence lX11_195 rfl rfl rfl (fit_of hR (by omega) rfl) (c_planFence (d0 := d0) _ 1 0 (by decide) (by decide) (by simp)) rfl rfl (ex_v ?_)
                  refine a_aload_n (pc := 155) dX11_planChange_155 rfl ?_
                  refine a_iconst (pc := 156) (nI 3) dX11_planChange_156 (by decide) ?_
                  refine a_iload (pc := 157) dX11_planChange_157 rfl ?_
                  refine a_iload (pc := 159) dX11_planChange_159 rfl ?_
                  refine a_iload_n (pc := 161) dX11_planChange_161 rfl ?_
                  refine a_lload (pc := 162) dX11_planChange_162 rfl ?_
                  refine a_S1i (pc := 164) dX11_planChange_164 lcX11_high lX11_198 (fit_of hR (by omega) rfl) (c_high (d0 := d0) v) rfl rfl (ex_i ?_)
                  refine a_lload (pc := 167) dX11_planChange_167 rfl ?_
                  refine a_l2i (pc := 169) dX11_planChange_169 ?_
                  refine a_iload (pc := 170) dX11_planChange_170 rfl ?_
                  refine a_iload (pc := 172) dX11_planChange_172 rfl ?_
                  refine a_iload (pc := 174) dX11_planChange_174 rfl ?_
                  refine a_S7i (pc := 176) dX11_planChange_176 lcX11_sum lX11_202 (fit_of hR (by omega) rfl) (c_sum (d0 := d0) _ _ _ _ _ _ _) rfl rfl (ex_i ?_)
                  refine a_V3v (pc := 179) 10 dX11_planChange_179 lcX11_plan lX11_191 rfl rfl rfl (fit_of hR (by omega) rfl) (c_plan (d0 := d0) _ _ _ _ (by simp; omega)) rfl rfl (ex_v ?_)
                  refine a_aload_n (pc := 182) dX11_planChange_182 rfl ?_
                  refine a_iload_n (pc := 183) dX11_planChange_183 rfl ?_
                  refine a_iconst (pc := 184) (nI 1) dX11_planChange_184 (by decide) ?_
                  refine a_V2v (pc := 185) 10 dX11_planChange_185 lcX11_planFence lX11_195 rfl rfl rfl (fit_of hR (by omega) rfl) (c_planFence (d0 := d0) _ 1 1 (by decide) (by decide) (by simp; omega)) rfl rfl (ex_v ?_)
                  refine a_aload_n (pc := 188) dX11_planChange_188 rfl ?_
                  refine a_iload_n (pc := 189) dX11_planChange_189 rfl ?_
                  refine a_lload (pc := 190) dX11_planChange_190 rfl ?_
                  refine a_S1i (pc := 192) dX11_planChange_192 lcX11_high lX11_198 (fit_of hR (by omega) rfl) (c_high (d0 := d0) v) rfl rfl (ex_i ?_)
                  refine a_lload (pc := 195) dX11_planChange_195 rfl ?_
                  refine a_l2i (pc := 197) dX11_planChange_197 ?_
                  refine a_V3v (pc := 198) 10 dX11_planChange_198 lcX11_plan lX11_191 rfl rfl rfl (fit_of hR (by omega) rfl) (c_plan (d0 := d0) _ _ _ _ (by simp; omega)) rfl rfl (ex_v ?_)
                  refine a_iload (pc := 201) dX11_planChange_201 rfl ?_
                  refine a_if_eqN (pc := 203) 216 dX11_planChange_203 (by decide) (by omega) (fun c7 => ?_) (fun c7 => ?_)
                  · exact absurd c7 (by decide)
                  · refine a_aload_n (pc := 206) dX11_planChange_206 rfl ?_
                    refine a_iload (pc := 207) dX11_planChange_207 rfl ?_
                    refine a_iload (pc := 209) dX11_planChange_209 rfl ?_
                    refine a_iload (pc := 211) dX11_planChange_211 rfl ?_
                    refine a_V3v (pc := 213) 10 dX11_planChange_213 lcX11_plan lX11_191 rfl rfl rfl (fit_of hR (by omega) rfl) (c_plan (d0 := d0) _ _ _ _ (by simp; omega)) rfl rfl (ex_v ?_)
                    refine a_aload_n (pc := 216) dX11_planChange_216 rfl ?_
                    refine a_iload_n (pc := 217) dX11_planChange_217 rfl ?_
                    refine a_V1v (pc := 218) 10 dX11_planChange_218 lcX11_planEnd lX11_206 rfl rfl rfl (fit_of hR (by omega) rfl) (c_planEnd (d0 := d0) _ 1 (by decide) (by simp; omega)) rfl rfl (ex_v ?_)
                    refine a_goto (pc := 221) 340 dX11_planChange_221 (by decide) ?_
                    refine ret _ _ 340 _ dX11_planChange_340 rfl ?_
                    exact ⟨rfl, by simp [ch1, oth, mny, lI9]⟩
      · exact absurd c1 (by decide)
