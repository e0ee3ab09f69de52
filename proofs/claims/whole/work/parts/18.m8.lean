/-- entries that come into a queue of the reference's, one by one -/
def pushL (g : GH) (d n : Nat) : List En → GH
  | [] => g
  | x :: r => pushL (pushG g d x.1 x.2.1 x.2.2 n) d (n + 1) r
theorem pushL_add (d : Nat) (x : En) : ∀ (L : List En) (g : GH) (n : Nat), pushL g d n (L ++ [x]) = pushG (pushL g d n L) d x.1 x.2.1 x.2.2 (n + L.length)
  | [], g, n => by simp [pushL]
  | y :: L, g, n => by
    rw [List.cons_append, pushL, pushL, pushL_add d x L, List.length_cons]
    congr 1
    omega
theorem pushL_81 (d : Nat) : ∀ (L : List En) (g : GH) (n : Nat), gA g 81 d = nI n → gA (pushL g d n L) 81 d = nI (n + L.length)
  | [], g, n, h => by simpa [pushL] using h
  | y :: L, g, n, h => by
    rw [pushL, pushL_81 d L _ (n + 1) (by simp [pushG, gA_pF, gA_pA, upd]), List.length_cons]
    congr 1
    omega
theorem pushL_A (d a : Nat) (h : a < 78 ∨ 81 < a) : ∀ (L : List En) (g : GH) (n : Nat), gA (pushL g d n L) a = gA g a
  | [], g, n => rfl
  | y :: L, g, n => by
    rw [pushL, pushL_A d a h L]
    simp [pushG, gA_pF, gA_pA, show a ≠ 78 by omega, show a ≠ 79 by omega, show a ≠ 80 by omega, show a ≠ 81 by omega]
theorem pushL_F (d a k : Nat) (h : ¬ (a = 76 ∧ k = 8)) : ∀ (L : List En) (g : GH) (n : Nat), gF (pushL g d n L) a k = gF g a k
  | [], g, n => rfl
  | y :: L, g, n => by
    rw [pushL, pushL_F d a k h L]
    simp [pushG, gF_pF, gF_pA, h]
theorem pushL_L (d a : Nat) : ∀ (L : List En) (g : GH) (n : Nat), gL (pushL g d n L) a = gL g a
  | [], g, n => rfl
  | y :: L, g, n => by
    rw [pushL, pushL_L d a L]
    rfl
theorem wrL_at {f : Nat → Int32} {L : List En} {pr : En → Int32} {j : Nat} {x : En} (h : L[j]? = some x) : wrL f L pr j = pr x := by simp [wrL, h]
set_option maxHeartbeats 4000000 in
set_option maxRecDepth 100000 in
theorem c_takePlan {d0 kd kp rp : Nat} {g : GH} (L : List En) (n : Nat) (hL : L.length ≤ 16) (hn : gA g 81 0 = nI n) (hf : n + L.length ≤ 60) : ACi mX11_takePlan (d0 + 1) (SS kd kp rp) (plA g L) [.ref 76] (fun r S' g' => S' = SS kd kp rp ∧ g' = pushL (plA g L) 0 n L ∧ r = nI L.length) := by
  refine ACi.of lcX11_takePlan rfl rfl (fun X Q ad hR ret => ?_)
  refine AW_ls (ls' := [_, _, _]) rfl ?_
  refine a_aload_n (pc := 0) dX11_takePlan_0 rfl ?_
  refine a_gr (pc := 1) dX11_takePlan_1 fX11_22 rfl ?_
  refine a_iconst (pc := 4) (nI 0) dX11_takePlan_4 (by decide) ?_
  refine a_ial (pc := 5) _ dX11_takePlan_5 rfl rfl (by omega) ?_
  rw [plA_81, hn]
  refine a_aload_n (pc := 6) dX11_takePlan_6 rfl ?_
  refine a_gi (pc := 7) dX11_takePlan_7 fX11_188 rfl ?_
  rw [plA_21]
  refine a_iadd (pc := 10) dX11_takePlan_10 ?_
  try rw [nI_add]
  refine a_bipush (pc := 11) (nI 60) dX11_takePlan_11 (by decide) ?_
  refine a_icmp_leN (pc := 13) 23 dX11_takePlan_13 (by decide) (by omega) (by omega) (fun cc => ?_) (fun cc => ?_)
  · refine a_iconst (pc := 23) (nI 0) dX11_takePlan_23 (by decide) ?_
    refine a_istore_n (pc := 24) (ls' := [_, _, _]) dX11_takePlan_24 (Nat.le_of_ble_eq_true rfl) rfl ?_
    have loop : ∀ m k : Nat, L.length = k + m → ∀ w : Option Value, AW mX11_takePlan X Q ad 0 0 (conc (SS kd kp rp) (pushL (plA g L) 0 n (L.take k))) 25 [some (.ref 76), some (.int (nI k)), w] [] := by
      intro m
      induction m with
      | zero =>
        intro k hk w
        refine a_iload_n (pc := 25) dX11_takePlan_25 rfl ?_
        refine a_aload_n (pc := 26) dX11_takePlan_26 rfl ?_
        refine a_gi (pc := 27) dX11_takePlan_27 fX11_188 rfl ?_
        rw [pushL_F 0 76 21 (by decide), plA_21]
        refine a_icmp_geN (pc := 30) 63 dX11_takePlan_30 (by decide) (by omega) (by omega) (fun c1 => ?_) (fun c1 => ?_)
        · refine a_aload_n (pc := 63) dX11_takePlan_63 rfl ?_
          refine a_gi (pc := 64) dX11_takePlan_64 fX11_188 rfl ?_
          rw [pushL_F 0 76 21 (by decide), plA_21]
          refine ret _ _ 67 _ _ dX11_takePlan_67 rfl ?_
          exact ⟨rfl, by rw [List.take_of_length_le (by omega)], rfl⟩
        · exact absurd c1 (by omega)
      | succ m ih =>
        intro k hk w
        have hx : L[k]? = some L[k] := List.getElem?_eq_getElem (by omega)
        generalize L[k] = x at hx
        refine a_iload_n (pc := 25) dX11_takePlan_25 rfl ?_
        refine a_aload_n (pc := 26) dX11_takePlan_26 rfl ?_
        refine a_gi (pc := 27) dX11_takePlan_27 fX11_188 rfl ?_
        rw [pushL_F 0 76 21 (by decide), plA_21]
        refine a_icmp_geN (pc := 30) 63 dX11_takePlan_30 (by decide) (by omega) (by omega) (fun c1 => ?_) (fun c1 => ?_)
        · exact absurd c1 (by omega)
        · refine a_aload_n (pc := 33) dX11_takePlan_33 rfl ?_
          refine a_iconst (pc := 34) (nI 0) dX11_takePlan_34 (by decide) ?_
          refine a_aload_n (pc := 35) dX11_takePlan_35 rfl ?_
          refine a_gr (pc := 36) dX11_takePlan_36 fX11_55 rfl ?_
          refine a_iload_n (pc := 39) dX11_takePlan_39 rfl ?_
          refine a_ial (pc := 40) _ dX11_takePlan_40 rfl rfl (by omega) ?_
          rw [pushL_A 0 90 (by decide), show gA (plA g L) 90 k = x.1 from wrL_at (pr := fun x => x.1) hx]
          refine a_aload_n (pc := 41) dX11_takePlan_41 rfl ?_
          refine a_gr (pc := 42) dX11_takePlan_42 fX11_58 rfl ?_
          refine a_iload_n (pc := 45) dX11_takePlan_45 rfl ?_
          refine a_ial (pc := 46) _ dX11_takePlan_46 rfl rfl (by omega) ?_
          rw [pushL_A 0 91 (by decide), show gA (plA g L) 91 k = x.2.1 from wrL_at (pr := fun x => x.2.1) hx]
          refine a_aload_n (pc := 47) dX11_takePlan_47 rfl ?_
          refine a_gr (pc := 48) dX11_takePlan_48 fX11_61 rfl ?_
          refine a_iload_n (pc := 51) dX11_takePlan_51 rfl ?_
          refine a_ial (pc := 52) _ dX11_takePlan_52 rfl rfl (by omega) ?_
          rw [pushL_A 0 92 (by decide), show gA (plA g L) 92 k = x.2.2 from wrL_at (pr := fun x => x.2.2) hx]
          have hlen : (L.take k).length = k := by rw [List.length_take]; omega
          refine a_V4i (pc := 53) 10 dX11_takePlan_53 lcX11_push lX11_118 rfl rfl rfl (fit_of hR (by omega) rfl) (c_push (d0 := d0) 0 x.1 x.2.1 x.2.2 (n + k) (by decide) (by have := pushL_81 0 (L.take k) (plA g L) n hn; rw [hlen] at this; exact this) (by omega)) rfl rfl (ex_i ?_)
          refine a_istore_n (pc := 56) (ls' := [_, _, _]) dX11_takePlan_56 (Nat.le_of_ble_eq_true rfl) rfl ?_
          refine a_iinc (pc := 57) (ls' := [_, _, _]) (nI 1) dX11_takePlan_57 (by decide) rfl (Nat.le_of_ble_eq_true rfl) rfl ?_
          try rw [nI_add]
          refine a_goto (pc := 60) 25 dX11_takePlan_60 (by decide) ?_
          have e : pushG (pushL (plA g L) 0 n (L.take k)) 0 x.1 x.2.1 x.2.2 (n + k) = pushL (plA g L) 0 n (L.take (k + 1)) := by
            rw [List.take_add_one, hx, Option.toList_some, pushL_add, hlen]
          rw [e]
          exact ih (k + 1) (by omega) _
    exact loop L.length 0 (by omega) none
  · exact absurd cc (by omega)
set_option maxHeartbeats 4000000 in
set_option maxRecDepth 100000 in
theorem c_takePlanR {d0 kd kp rp : Nat} {g : GH} (L : List En) (n : Nat) (hL : L.length ≤ 16) (hn : gA g 81 0 = nI n) (hn60 : n ≤ 60) (hf : 60 < n + L.length) : ACi mX11_takePlan (d0 + 1) (SS kd kp rp) (plA g L) [.ref 76] (fun r S' g' => S' = SS kd kp rp ∧ g' = pA (plA g L) 83 (upd (gA g 83) 6 (gA g 83 6 + nI 1)) ∧ r = -nI 6) := by
  refine ACi.of lcX11_takePlan rfl rfl (fun X Q ad hR ret => ?_)
  refine AW_ls (ls' := [_, _, _]) rfl ?_
  refine a_aload_n (pc := 0) dX11_takePlan_0 rfl ?_
  refine a_gr (pc := 1) dX11_takePlan_1 fX11_22 rfl ?_
  refine a_iconst (pc := 4) (nI 0) dX11_takePlan_4 (by decide) ?_
  refine a_ial (pc := 5) _ dX11_takePlan_5 rfl rfl (by omega) ?_
  rw [plA_81, hn]
  refine a_aload_n (pc := 6) dX11_takePlan_6 rfl ?_
  refine a_gi (pc := 7) dX11_takePlan_7 fX11_188 rfl ?_
  rw [plA_21]
  refine a_iadd (pc := 10) dX11_takePlan_10 ?_
  try rw [nI_add]
  refine a_bipush (pc := 11) (nI 60) dX11_takePlan_11 (by decide) ?_
  refine a_icmp_leN (pc := 13) 23 dX11_takePlan_13 (by decide) (by omega) (by omega) (fun cc => ?_) (fun cc => ?_)
  · exact absurd cc (by omega)
  · refine a_aload_n (pc := 16) dX11_takePlan_16 rfl ?_
    refine a_bipush (pc := 17) (-6) dX11_takePlan_17 (by decide) ?_
    refine a_V1i (pc := 19) 10 dX11_takePlan_19 lcX11_refuse lX11_114 rfl rfl rfl (fit_of hR (by omega) rfl) (c_refuse (d := d0) 6 (by decide)) rfl rfl (ex_i ?_)
    refine ret _ _ 22 _ _ dX11_takePlan_22 rfl ?_
    exact ⟨rfl, rfl, rfl⟩
/-- a flush of the first k entries of a queue -/
def flP (S O T : Nat → Int32) (d : Nat) (P : Nat → Int32) : Nat → Nat → Int32
  | 0 => P
  | k + 1 => if S (60 * d + k) = -1 then flP S O T d P k else upd (upd (flP S O T d P k) (32 * d + 2 * (S (60 * d + k)).toNatClampNeg) (O (60 * d + k))) (32 * d + 2 * (S (60 * d + k)).toNatClampNeg + 1) (T (60 * d + k))
def wct (S : Nat → Int32) : Nat → Nat
  | 0 => 0
  | k + 1 => wct S k + (if S k = -1 then 0 else 1)
theorem wct_le (S : Nat → Int32) : ∀ k, wct S k ≤ k
  | 0 => Nat.le_refl 0
  | k + 1 => by
    have := wct_le S k
    rw [wct]
    split <;> omega
set_option maxHeartbeats 4000000 in
set_option maxRecDepth 100000 in
theorem c_flushOf {d0 kd kp rp : Nat} {g : GH} (d n : Nat) (hd : d < 3) (hn : gA g 81 d = nI n) (hn60 : n ≤ 60) (hs : ∀ k, k < n → gA g 78 (60 * d + k) = -1 ∨ ∃ s, s < 16 ∧ gA g 78 (60 * d + k) = nI s) : ACi mX11_flushOf d0 (SS kd kp rp) g [.ref 76, .int (nI d)] (fun r S' g' => S' = SS kd kp rp ∧ g' = pA (pA g 77 (flP (gA g 78) (gA g 79) (gA g 80) d (gA g 77) n)) 81 (upd (gA g 81) d (nI 0)) ∧ r = nI (wct (fun k => gA g 78 (60 * d + k)) n)) := by
  refine ACi.of lcX11_flushOf rfl rfl (fun X Q ad hR ret => ?_)
  refine AW_ls (ls' := [_, _, _, _]) rfl ?_
  refine a_iconst (pc := 0) (nI 0) dX11_flushOf_0 (by decide) ?_
  refine a_istore_n (pc := 1) (ls' := [_, _, _, _]) dX11_flushOf_1 (Nat.le_of_ble_eq_true rfl) rfl ?_
  refine a_bipush (pc := 2) (nI 60) dX11_flushOf_2 (by decide) ?_
  refine a_iload_n (pc := 4) dX11_flushOf_4 rfl ?_
  refine a_imul (pc := 5) dX11_flushOf_5 ?_
  try rw [pk_mul]
  refine a_istore_n (pc := 6) (ls' := [_, _, _, _]) dX11_flushOf_6 (Nat.le_of_ble_eq_true rfl) rfl ?_
  have loop : ∀ m k : Nat, n = k + m → AW mX11_flushOf X Q ad 0 0 (conc (SS kd kp rp) (pA g 77 (flP (gA g 78) (gA g 79) (gA g 80) d (gA g 77) k))) 7 [some (.ref 76), some (.int (nI d)), some (.int (nI (wct (fun k => gA g 78 (60 * d + k)) k))), some (.int (nI (60 * d + k)))] [] := by
    intro m
    induction m with
    | zero =>
      intro k hk
      obtain rfl : n = k := by omega
      refine a_iload_n (pc := 7) dX11_flushOf_7 rfl ?_
      refine a_bipush (pc := 8) (nI 60) dX11_flushOf_8 (by decide) ?_
      refine a_iload_n (pc := 10) dX11_flushOf_10 rfl ?_
      refine a_imul (pc := 11) dX11_flushOf_11 ?_
      try rw [pk_mul]
      refine a_aload_n (pc := 12) dX11_flushOf_12 rfl ?_
      refine a_gr (pc := 13) dX11_flushOf_13 fX11_22 rfl ?_
      refine a_iload_n (pc := 16) dX11_flushOf_16 rfl ?_
      refine a_ial (pc := 17) _ dX11_flushOf_17 rfl rfl (by omega) ?_
      simp only [gF_pF, gF_pA, gF_pL, gA_pF, gA_pA, gA_pL, gL_pF, gL_pA, gL_pL, reduceIte, Nat.reduceEqDiff, and_false, false_and, and_true, true_and, and_self, hn]
      refine a_iadd (pc := 18) dX11_flushOf_18 ?_
      try rw [nI_add]
      refine a_icmp_geN (pc := 19) 91 dX11_flushOf_19 (by decide) (by omega) (by omega) (fun c1 => ?_) (fun c1 => ?_)
      · refine a_aload_n (pc := 91) dX11_flushOf_91 rfl ?_
        refine a_gr (pc := 92) dX11_flushOf_92 fX11_22 rfl ?_
        refine a_iload_n (pc := 95) dX11_flushOf_95 rfl ?_
        refine a_iconst (pc := 96) (nI 0) dX11_flushOf_96 (by decide) ?_
        refine a_ast (pc := 97) _ dX11_flushOf_97 rfl rfl (by omega) ?_
        refine a_iload_n (pc := 98) dX11_flushOf_98 rfl ?_
        simp only [gF_pF, gF_pA, gF_pL, gA_pF, gA_pA, gA_pL, gL_pF, gL_pA, gL_pL, reduceIte, Nat.reduceEqDiff, and_false, false_and, and_true, true_and, and_self]
        refine ret _ _ 99 _ _ dX11_flushOf_99 rfl ?_
        exact ⟨rfl, rfl, rfl⟩
      · exact absurd c1 (by omega)
    | succ m ih =>
      intro k hk
      refine a_iload_n (pc := 7) dX11_flushOf_7 rfl ?_
      refine a_bipush (pc := 8) (nI 60) dX11_flushOf_8 (by decide) ?_
      refine a_iload_n (pc := 10) dX11_flushOf_10 rfl ?_
      refine a_imul (pc := 11) dX11_flushOf_11 ?_
      try rw [pk_mul]
      refine a_aload_n (pc := 12) dX11_flushOf_12 rfl ?_
      refine a_gr (pc := 13) dX11_flushOf_13 fX11_22 rfl ?_
      refine a_iload_n (pc := 16) dX11_flushOf_16 rfl ?_
      refine a_ial (pc := 17) _ dX11_flushOf_17 rfl rfl (by omega) ?_
      simp only [gF_pF, gF_pA, gF_pL, gA_pF, gA_pA, gA_pL, gL_pF, gL_pA, gL_pL, reduceIte, Nat.reduceEqDiff, and_false, false_and, and_true, true_and, and_self, hn]
      refine a_iadd (pc := 18) dX11_flushOf_18 ?_
      try rw [nI_add]
      refine a_icmp_geN (pc := 19) 91 dX11_flushOf_19 (by decide) (by omega) (by omega) (fun c1 => ?_) (fun c1 => ?_)
      · exact absurd c1 (by omega)
      · refine a_aload_n (pc := 22) dX11_flushOf_22 rfl ?_
        refine a_gr (pc := 23) dX11_flushOf_23 fX11_13 rfl ?_
        refine a_iload_n (pc := 26) dX11_flushOf_26 rfl ?_
        refine a_ial (pc := 27) _ dX11_flushOf_27 rfl rfl (by omega) ?_
        simp only [gF_pF, gF_pA, gF_pL, gA_pF, gA_pA, gA_pL, gL_pF, gL_pA, gL_pL, reduceIte, Nat.reduceEqDiff, and_false, false_and, and_true, true_and, and_self]
        refine a_iconst (pc := 28) (-1) dX11_flushOf_28 (by decide) ?_
        refine a_icmp_eq (pc := 29) 85 dX11_flushOf_29 (by decide) (fun c2 => ?_) (fun c2 => ?_)
        · refine a_iinc (pc := 85) (ls' := [_, _, _, _]) (nI 1) dX11_flushOf_85 (by decide) rfl (Nat.le_of_ble_eq_true rfl) rfl ?_
          try rw [nI_add]
          refine a_goto (pc := 88) 7 dX11_flushOf_88 (by decide) ?_
          have e1 : flP (gA g 78) (gA g 79) (gA g 80) d (gA g 77) k = flP (gA g 78) (gA g 79) (gA g 80) d (gA g 77) (k + 1) := by rw [flP, if_pos c2]
          have e2 : wct (fun k => gA g 78 (60 * d + k)) k = wct (fun k => gA g 78 (60 * d + k)) (k + 1) := by rw [wct, if_pos c2]; rfl
          rw [e1, e2]
          exact ih (k + 1) (by omega)
        · obtain ⟨s, hs16, hsk⟩ := (hs k (by omega)).resolve_left c2
          have hcl : (gA g 78 (60 * d + k)).toNatClampNeg = s := by rw [hsk]; exact nI_clamp (by omega)
          refine a_aload_n (pc := 32) dX11_flushOf_32 rfl ?_
          refine a_gr (pc := 33) dX11_flushOf_33 fX11_7 rfl ?_
          refine a_bipush (pc := 36) (nI 32) dX11_flushOf_36 (by decide) ?_
          refine a_iload_n (pc := 38) dX11_flushOf_38 rfl ?_
          refine a_imul (pc := 39) dX11_flushOf_39 ?_
          try rw [pk_mul]
          refine a_iconst (pc := 40) (nI 2) dX11_flushOf_40 (by decide) ?_
          refine a_aload_n (pc := 41) dX11_flushOf_41 rfl ?_
          refine a_gr (pc := 42) dX11_flushOf_42 fX11_13 rfl ?_
          refine a_iload_n (pc := 45) dX11_flushOf_45 rfl ?_
          refine a_ial (pc := 46) _ dX11_flushOf_46 rfl rfl (by omega) ?_
          simp only [gF_pF, gF_pA, gF_pL, gA_pF, gA_pA, gA_pL, gL_pF, gL_pA, gL_pL, reduceIte, Nat.reduceEqDiff, and_false, false_and, and_true, true_and, and_self, hsk]
          refine a_imul (pc := 47) dX11_flushOf_47 ?_
          try rw [pk_mul]
          refine a_iadd (pc := 48) dX11_flushOf_48 ?_
          try rw [nI_add]
          refine a_aload_n (pc := 49) dX11_flushOf_49 rfl ?_
          refine a_gr (pc := 50) dX11_flushOf_50 fX11_16 rfl ?_
          refine a_iload_n (pc := 53) dX11_flushOf_53 rfl ?_
          refine a_ial (pc := 54) _ dX11_flushOf_54 rfl rfl (by omega) ?_
          simp only [gF_pF, gF_pA, gF_pL, gA_pF, gA_pA, gA_pL, gL_pF, gL_pA, gL_pL, reduceIte, Nat.reduceEqDiff, and_false, false_and, and_true, true_and, and_self]
          refine a_ast (pc := 55) _ dX11_flushOf_55 rfl rfl (by omega) ?_
          refine a_aload_n (pc := 56) dX11_flushOf_56 rfl ?_
          refine a_gr (pc := 57) dX11_flushOf_57 fX11_7 rfl ?_
          refine a_bipush (pc := 60) (nI 32) dX11_flushOf_60 (by decide) ?_
          refine a_iload_n (pc := 62) dX11_flushOf_62 rfl ?_
          refine a_imul (pc := 63) dX11_flushOf_63 ?_
          try rw [pk_mul]
          refine a_iconst (pc := 64) (nI 2) dX11_flushOf_64 (by decide) ?_
          refine a_aload_n (pc := 65) dX11_flushOf_65 rfl ?_
          refine a_gr (pc := 66) dX11_flushOf_66 fX11_13 rfl ?_
          refine a_iload_n (pc := 69) dX11_flushOf_69 rfl ?_
          refine a_ial (pc := 70) _ dX11_flushOf_70 rfl rfl (by omega) ?_
          simp only [gF_pF, gF_pA, gF_pL, gA_pF, gA_pA, gA_pL, gL_pF, gL_pA, gL_pL, reduceIte, Nat.reduceEqDiff, and_false, false_and, and_true, true_and, and_self, hsk]
          refine a_imul (pc := 71) dX11_flushOf_71 ?_
          try rw [pk_mul]
          refine a_iadd (pc := 72) dX11_flushOf_72 ?_
          try rw [nI_add]
          refine a_iconst (pc := 73) (nI 1) dX11_flushOf_73 (by decide) ?_
          refine a_iadd (pc := 74) dX11_flushOf_74 ?_
          try rw [nI_add]
          refine a_aload_n (pc := 75) dX11_flushOf_75 rfl ?_
          refine a_gr (pc := 76) dX11_flushOf_76 fX11_19 rfl ?_
          refine a_iload_n (pc := 79) dX11_flushOf_79 rfl ?_
          refine a_ial (pc := 80) _ dX11_flushOf_80 rfl rfl (by omega) ?_
          simp only [gF_pF, gF_pA, gF_pL, gA_pF, gA_pA, gA_pL, gL_pF, gL_pA, gL_pL, reduceIte, Nat.reduceEqDiff, and_false, false_and, and_true, true_and, and_self]
          refine a_ast (pc := 81) _ dX11_flushOf_81 rfl rfl (by omega) ?_
          refine a_iinc (pc := 82) (ls' := [_, _, _, _]) (nI 1) dX11_flushOf_82 (by decide) rfl (Nat.le_of_ble_eq_true rfl) rfl ?_
          try rw [nI_add]
          refine a_iinc (pc := 85) (ls' := [_, _, _, _]) (nI 1) dX11_flushOf_85 (by decide) rfl (Nat.le_of_ble_eq_true rfl) rfl ?_
          try rw [nI_add]
          refine a_goto (pc := 88) 7 dX11_flushOf_88 (by decide) ?_
          simp only [gF_pF, gF_pA, gF_pL, gA_pF, gA_pA, gA_pL, gL_pF, gL_pA, gL_pL, reduceIte, Nat.reduceEqDiff, and_false, false_and, and_true, true_and, and_self]
          rw [pA_pA, pA_pA]
          have e1 : upd (upd (flP (gA g 78) (gA g 79) (gA g 80) d (gA g 77) k) (32 * d + 2 * s) (gA g 79 (60 * d + k))) (32 * d + 2 * s + 1) (gA g 80 (60 * d + k)) = flP (gA g 78) (gA g 79) (gA g 80) d (gA g 77) (k + 1) := by rw [flP, if_neg c2, hcl]
          have e2 : wct (fun k => gA g 78 (60 * d + k)) k + 1 = wct (fun k => gA g 78 (60 * d + k)) (k + 1) := by rw [wct, if_neg c2]
          rw [e1, e2]
          exact ih (k + 1) (by omega)
  have h0 := loop n 0 (by omega)
  rw [show flP (gA g 78) (gA g 79) (gA g 80) d (gA g 77) 0 = gA g 77 from rfl, pA_self] at h0
  exact h0
set_option maxRecDepth 100000 in
theorem c_fencesOf {d0 : Nat} {S : sH} {g : GH} (k : Nat) (hk : k < 3) : ACi mX11_fencesOf d0 S g [.int (nI k)] (fun r S' g' => S' = S ∧ g' = g ∧ r = nI (if k = 1 then 4 else if k = 2 then 2 else 0)) := by
  refine ACi.of lcX11_fencesOf rfl rfl (fun X Q ad hR ret => ?_)
  refine AW_ls (ls' := [_]) rfl ?_
  refine a_iload_n (pc := 0) dX11_fencesOf_0 rfl ?_
  refine a_iconst (pc := 1) (nI 1) dX11_fencesOf_1 (by decide) ?_
  refine a_icmp_neN (pc := 2) 9 dX11_fencesOf_2 (by decide) (by omega) (by omega) (fun c1 => ?_) (fun c1 => ?_)
  · refine a_iload_n (pc := 9) dX11_fencesOf_9 rfl ?_
    refine a_iconst (pc := 10) (nI 2) dX11_fencesOf_10 (by decide) ?_
    refine a_icmp_neN (pc := 11) 18 dX11_fencesOf_11 (by decide) (by omega) (by omega) (fun c2 => ?_) (fun c2 => ?_)
    · refine a_iconst (pc := 18) (nI 0) dX11_fencesOf_18 (by decide) ?_
      refine ret _ _ 19 _ _ dX11_fencesOf_19 rfl ?_
      exact ⟨rfl, rfl, by rw [if_neg c1, if_neg c2]⟩
    · refine a_iconst (pc := 14) (nI 2) dX11_fencesOf_14 (by decide) ?_
      refine a_goto (pc := 15) 19 dX11_fencesOf_15 (by decide) ?_
      refine ret _ _ 19 _ _ dX11_fencesOf_19 rfl ?_
      exact ⟨rfl, rfl, by rw [if_neg c1, if_pos c2]⟩
  · refine a_iconst (pc := 5) (nI 4) dX11_fencesOf_5 (by decide) ?_
    refine a_goto (pc := 6) 19 dX11_fencesOf_6 (by decide) ?_
    refine ret _ _ 19 _ _ dX11_fencesOf_19 rfl ?_
    exact ⟨rfl, rfl, by rw [if_pos c1]⟩
