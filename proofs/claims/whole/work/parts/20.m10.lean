theorem c_planChange {d0 kd kp rp : Nat} {g : GH} (d store k n : Nat) (v : Int64) (lw : Option Nat) (hd : d < 3) (hst : store < 3) (hk : k < 3) (hl : ∀ l, lw = some l → l < 3) (hn : gA g 81 d = nI n) (hn60 : n ≤ 60) : ACv mX11_planChange (d0 + 4) (SS kd kp rp) g [.ref 76, .int (nI d), .int (nI store), .int (nI k), .long v, .int (lI9 lw), .long 0] (fun S' g' => S' = SS kd kp rp ∧ g' = plA g (chg store (gA g 82) (verA (gA g 77) (gA g 78) (gA g 79) (gA g 80) d n) (fun x => (keyA (gA g 77) (gA g 78) (gA g 79) (gA g 80) d 2 x n)) k v lw)) := by
  match store, hst with
  | 0, _ => exact c_planChange0 (d0 := d0 + 1) d k v lw hl
  | 1, _ => exact c_planChange1 (d0 := d0 + 1) d k v lw hl
  | 2, _ => exact c_planChange2 (d0 := d0) d k n v lw hd hk hl hn hn60
theorem chg_len (store : Nat) (sp : Nat → Int32) (ver : Int32) (key : Nat → Int64) (k : Nat) (v : Int64) (lw : Option Nat) : (chg store sp ver key k v lw).length ≤ 11 := by
  have f4 := fnc_len sp 4
  have f5 := fnc_len sp 5
  have f6 := fnc_len sp 6
  have f7 := fnc_len sp 7
  have f8 := fnc_len sp 8
  have f9 := fnc_len sp 9
  unfold chg
  split
  · cases lw <;> simp [ch0]
  · cases lw <;> simp [ch1] <;> omega
  · simp [ch2]
    omega
def risL (store : Nat) (sp : Nat → Int32) (n m k kh kl l lh ll : Int32) : List En := if store = 1 then ris1 sp n m k kh kl l lh ll else []
theorem ris_len (store : Nat) (sp : Nat → Int32) (n m k kh kl l lh ll : Int32) : (risL store sp n m k kh kl l lh ll).length ≤ 5 := by
  have f6 := fnc_len sp 6
  have f7 := fnc_len sp 7
  unfold risL ris1
  repeat' split
  all_goals simp
  all_goals omega
theorem c_planRise {d0 kd kp rp : Nat} {g : GH} (d store n : Nat) (hd : d < 3) (hst : store < 3) (hn : gA g 81 d = nI n) (hn60 : n ≤ 60) : ACv mX11_planRise (d0 + 3) (SS kd kp rp) g [.ref 76, .int (nI d), .int (nI store)] (fun S' g' => S' = SS kd kp rp ∧ g' = plA g (risL store (gA g 82) (rdA (gA g 77) (gA g 78) (gA g 79) (gA g 80) d 3 0 n) (rdA (gA g 77) (gA g 78) (gA g 79) (gA g 80) d 3 1 n) (rdA (gA g 77) (gA g 78) (gA g 79) (gA g 80) d 4 0 n) (rdA (gA g 77) (gA g 78) (gA g 79) (gA g 80) d 4 1 n) (rdA (gA g 77) (gA g 78) (gA g 79) (gA g 80) d 5 0 n) (rdA (gA g 77) (gA g 78) (gA g 79) (gA g 80) d 5 1 n) (rdA (gA g 77) (gA g 78) (gA g 79) (gA g 80) d 6 0 n) (rdA (gA g 77) (gA g 78) (gA g 79) (gA g 80) d 6 1 n))) := by
  match store, hst with
  | 0, _ => exact c_planRise0 (d0 := d0) d 0 (by decide)
  | 1, _ => exact c_planRise1 (d0 := d0) d n hd hn hn60
  | 2, _ => exact c_planRise0 (d0 := d0) d 2 (by decide)
set_option maxRecDepth 100000 in
theorem c_mstore1 {d0 kd kp rp : Nat} {g : GH} (s : Int32) (hs : insQ s (nI 0) (nI 2) = false) : ACi mX11_store (d0 + 1) (SS kd kp rp) g [.ref 76, .int s] (fun r S' g' => S' = SS kd kp rp ∧ g' = rfu (th0 g) 2 ∧ r = -nI 2) := by
  refine ACi.of lcX11_store rfl rfl (fun X Q ad hR ret => ?_)
  refine AW_ls (ls' := [_, _]) rfl ?_
  refine a_aload_n (pc := 0) dX11_store_0 rfl ?_
  refine a_iconst (pc := 1) (nI 0) dX11_store_1 (by decide) ?_
  refine a_pi (pc := 2) dX11_store_2 fX11_104 rfl ?_
  refine a_iload_n (pc := 5) dX11_store_5 rfl ?_
  refine a_iconst (pc := 6) (nI 0) dX11_store_6 (by decide) ?_
  refine a_iconst (pc := 7) (nI 2) dX11_store_7 (by decide) ?_
  refine a_S3i (pc := 8) dX11_store_8 lcX11_in lX11_110 (fit_of hR (by omega) rfl) (c_in (d := d0) s (nI 0) (nI 2)) rfl rfl (ex_i ?_)
  refine a_if_neB (pc := 11) 21 dX11_store_11 (by decide) (fun cc => ?_) (fun cc => ?_)
  · exact absurd (cc.symm.trans hs) (by decide)
  · refine a_aload_n (pc := 14) dX11_store_14 rfl ?_
    refine a_bipush (pc := 15) (-2) dX11_store_15 (by decide) ?_
    refine a_V1i (pc := 17) 10 dX11_store_17 lcX11_refuse lX11_114 rfl rfl rfl (fit_of hR (by omega) rfl) (c_refuse (d := d0) 2 (by decide)) rfl rfl (ex_i ?_)
    refine ret _ _ 20 _ _ dX11_store_20 rfl ?_
    exact ⟨rfl, rfl, rfl⟩
set_option maxRecDepth 100000 in
theorem c_mstore2 {d0 kd kp rp : Nat} {g : GH} (k : Nat) (hk : k < 3) : ACi mX11_store (d0 + 1) (SS kd kp rp) g [.ref 76, .int (nI k)] (fun r S' g' => S' = SS kd kp rp ∧ (∃ P : Nat → Int32, (∀ q, q < 32 → P q = if k = 2 ∧ q = 6 then nI 1 else if k = 2 ∧ q = 7 then nI 38 else nI 0) ∧ (∀ q, 32 ≤ q → P q = gA g 77 q) ∧ g' = pF (pA (pA (th0 g) 77 P) 81 (upd (gA g 81) 0 (nI 0))) 76 6 (nI k)) ∧ r = nI (if k = 1 then 4 else if k = 2 then 2 else 0)) := by
  have hs : insQ (nI k) (nI 0) (nI 2) = true := (insQ_ok (by decide)).mpr ⟨k, by omega, rfl⟩
  refine ACi.of lcX11_store rfl rfl (fun X Q ad hR ret => ?_)
  refine AW_ls (ls' := [_, _]) rfl ?_
  refine a_aload_n (pc := 0) dX11_store_0 rfl ?_
  refine a_iconst (pc := 1) (nI 0) dX11_store_1 (by decide) ?_
  refine a_pi (pc := 2) dX11_store_2 fX11_104 rfl ?_
  refine a_iload_n (pc := 5) dX11_store_5 rfl ?_
  refine a_iconst (pc := 6) (nI 0) dX11_store_6 (by decide) ?_
  refine a_iconst (pc := 7) (nI 2) dX11_store_7 (by decide) ?_
  refine a_S3i (pc := 8) dX11_store_8 lcX11_in lX11_110 (fit_of hR (by omega) rfl) (c_in (d := d0) (nI k) (nI 0) (nI 2)) rfl rfl (ex_i ?_)
  refine a_if_neB (pc := 11) 21 dX11_store_11 (by decide) (fun cc => ?_) (fun cc => ?_)
  · refine a_aload_n (pc := 21) dX11_store_21 rfl ?_
    refine a_iconst (pc := 22) (nI 0) dX11_store_22 (by decide) ?_
    refine a_iload_n (pc := 23) dX11_store_23 rfl ?_
    refine a_V2v (pc := 24) 10 dX11_store_24 lcX11_format lX11_167 rfl rfl rfl (fit_of hR (by omega) rfl) (c_format (d0 := d0) 0 k (by decide) hk) rfl rfl (fun S' g' hS hp => ?_)
    obtain ⟨rfl, P, h1, h2, rfl⟩ := hp
    refine a_aload_n (pc := 27) dX11_store_27 rfl ?_
    refine a_iload_n (pc := 28) dX11_store_28 rfl ?_
    refine a_pi (pc := 29) dX11_store_29 fX11_25 rfl ?_
    refine a_iload_n (pc := 32) dX11_store_32 rfl ?_
    refine a_S1i (pc := 33) dX11_store_33 lcX11_fencesOf lX11_170 (fit_of hR (by omega) rfl) (c_fencesOf (d0 := d0) k hk) rfl rfl (ex_i ?_)
    refine ret _ _ 36 _ _ dX11_store_36 rfl ?_
    exact ⟨rfl, ⟨P, fun q hq => by simpa using h1 q hq, fun q hq => h2 q (by omega), rfl⟩, rfl⟩
  · exact absurd (hs.symm.trans cc) (by decide)
set_option maxRecDepth 100000 in
theorem c_mput1 {d0 kd kp rp : Nat} {g : GH} (key : Int32) (v : Int64) (hk : gF g 76 6 = -1) : ACi mX11_put (d0 + 1) (SS kd kp rp) g [.ref 76, .int key, .long v] (fun r S' g' => S' = SS kd kp rp ∧ g' = rfu (th0 g) 5 ∧ r = -nI 5) := by
  refine ACi.of lcX11_put rfl rfl (fun X Q ad hR ret => ?_)
  refine AW_ls (ls' := [_, _, _, _]) rfl ?_
  refine a_aload_n (pc := 0) dX11_put_0 rfl ?_
  refine a_iconst (pc := 1) (nI 0) dX11_put_1 (by decide) ?_
  refine a_pi (pc := 2) dX11_put_2 fX11_104 rfl ?_
  refine a_aload_n (pc := 5) dX11_put_5 rfl ?_
  refine a_gi (pc := 6) dX11_put_6 fX11_25 rfl ?_
  simp only [gF_pF, gF_pA, gF_pL, gA_pF, gA_pA, gA_pL, gL_pF, gL_pA, gL_pL, reduceIte, Nat.reduceEqDiff, and_false, false_and, and_true, true_and, and_self, hk]
  refine a_if_ge (pc := 9) 19 dX11_put_9 (by decide) (fun cc => ?_) (fun cc => ?_)
  · exact absurd cc (by decide)
  · refine a_aload_n (pc := 12) dX11_put_12 rfl ?_
    refine a_bipush (pc := 13) (-5) dX11_put_13 (by decide) ?_
    refine a_V1i (pc := 15) 10 dX11_put_15 lcX11_refuse lX11_114 rfl rfl rfl (fit_of hR (by omega) rfl) (c_refuse (d := d0) 5 (by decide)) rfl rfl (ex_i ?_)
    refine ret _ _ 18 _ _ dX11_put_18 rfl ?_
    exact ⟨rfl, rfl, rfl⟩
set_option maxRecDepth 100000 in
theorem c_mput2 {d0 kd kp rp : Nat} {g : GH} (key : Int32) (v : Int64) (st : Nat) (hst : st < 3) (hk : gF g 76 6 = nI st) (hs : insQ key (nI 0) (nI 2) = false) : ACi mX11_put (d0 + 1) (SS kd kp rp) g [.ref 76, .int key, .long v] (fun r S' g' => S' = SS kd kp rp ∧ g' = rfu (th0 g) 1 ∧ r = -nI 1) := by
  refine ACi.of lcX11_put rfl rfl (fun X Q ad hR ret => ?_)
  refine AW_ls (ls' := [_, _, _, _]) rfl ?_
  refine a_aload_n (pc := 0) dX11_put_0 rfl ?_
  refine a_iconst (pc := 1) (nI 0) dX11_put_1 (by decide) ?_
  refine a_pi (pc := 2) dX11_put_2 fX11_104 rfl ?_
  refine a_aload_n (pc := 5) dX11_put_5 rfl ?_
  refine a_gi (pc := 6) dX11_put_6 fX11_25 rfl ?_
  simp only [gF_pF, gF_pA, gF_pL, gA_pF, gA_pA, gA_pL, gL_pF, gL_pA, gL_pL, reduceIte, Nat.reduceEqDiff, and_false, false_and, and_true, true_and, and_self, hk]
  refine a_if_geN (pc := 9) 19 dX11_put_9 (by decide) (by omega) (fun c1 => ?_) (fun c1 => ?_)
  · refine a_iload_n (pc := 19) dX11_put_19 rfl ?_
    refine a_iconst (pc := 20) (nI 0) dX11_put_20 (by decide) ?_
    refine a_iconst (pc := 21) (nI 2) dX11_put_21 (by decide) ?_
    refine a_S3i (pc := 22) dX11_put_22 lcX11_in lX11_110 (fit_of hR (by omega) rfl) (c_in (d := d0) key (nI 0) (nI 2)) rfl rfl (ex_i ?_)
    refine a_if_neB (pc := 25) 34 dX11_put_25 (by decide) (fun cc => ?_) (fun cc => ?_)
    · exact absurd (cc.symm.trans hs) (by decide)
    · refine a_aload_n (pc := 28) dX11_put_28 rfl ?_
      refine a_iconst (pc := 29) (-1) dX11_put_29 (by decide) ?_
      refine a_V1i (pc := 30) 10 dX11_put_30 lcX11_refuse lX11_114 rfl rfl rfl (fit_of hR (by omega) rfl) (c_refuse (d := d0) 1 (by decide)) rfl rfl (ex_i ?_)
      refine ret _ _ 33 _ _ dX11_put_33 rfl ?_
      exact ⟨rfl, rfl, rfl⟩
  · exact absurd c1 (by omega)
def putL (g : GH) (st n k : Nat) (v : Int64) (lw : Option Nat) : List En := chg st (gA g 82) (verA (gA g 77) (gA g 78) (gA g 79) (gA g 80) 0 n) (fun x => (keyA (gA g 77) (gA g 78) (gA g 79) (gA g 80) 0 2 x n)) k v lw
set_option maxRecDepth 100000 in
theorem c_mput3 {d0 kd kp rp : Nat} {g : GH} (k : Nat) (v : Int64) (st n : Nat) (hst : st < 3) (hk : gF g 76 6 = nI st) (hk3 : k < 3) (hn : gA g 81 0 = nI n) (hf : n + (putL g st n k v none).length ≤ 60) : ACi mX11_put (d0 + 5) (SS kd kp rp) g [.ref 76, .int (nI k), .long v] (fun r S' g' => S' = SS kd kp rp ∧ g' = pushL (plA (th0 g) (putL g st n k v none)) 0 n (putL g st n k v none) ∧ r = nI (putL g st n k v none).length) := by
  have hs : insQ (nI k) (nI 0) (nI 2) = true := (insQ_ok (by decide)).mpr ⟨k, by omega, rfl⟩
  have h11 : (putL g st n k v none).length ≤ 11 := chg_len _ _ _ _ _ _ _
  refine ACi.of lcX11_put rfl rfl (fun X Q ad hR ret => ?_)
  refine AW_ls (ls' := [_, _, _, _]) rfl ?_
  refine a_aload_n (pc := 0) dX11_put_0 rfl ?_
  refine a_iconst (pc := 1) (nI 0) dX11_put_1 (by decide) ?_
  refine a_pi (pc := 2) dX11_put_2 fX11_104 rfl ?_
  refine a_aload_n (pc := 5) dX11_put_5 rfl ?_
  refine a_gi (pc := 6) dX11_put_6 fX11_25 rfl ?_
  simp only [gF_pF, gF_pA, gF_pL, gA_pF, gA_pA, gA_pL, gL_pF, gL_pA, gL_pL, reduceIte, Nat.reduceEqDiff, and_false, false_and, and_true, true_and, and_self, hk]
  refine a_if_geN (pc := 9) 19 dX11_put_9 (by decide) (by omega) (fun c1 => ?_) (fun c1 => ?_)
  · refine a_iload_n (pc := 19) dX11_put_19 rfl ?_
    refine a_iconst (pc := 20) (nI 0) dX11_put_20 (by decide) ?_
    refine a_iconst (pc := 21) (nI 2) dX11_put_21 (by decide) ?_
    refine a_S3i (pc := 22) dX11_put_22 lcX11_in lX11_110 (fit_of hR (by omega) rfl) (c_in (d := d0) (nI k) (nI 0) (nI 2)) rfl rfl (ex_i ?_)
    refine a_if_neB (pc := 25) 34 dX11_put_25 (by decide) (fun cc => ?_) (fun cc => ?_)
    · refine a_aload_n (pc := 34) dX11_put_34 rfl ?_
      refine a_iconst (pc := 35) (nI 0) dX11_put_35 (by decide) ?_
      refine a_aload_n (pc := 36) dX11_put_36 rfl ?_
      refine a_gi (pc := 37) dX11_put_37 fX11_25 rfl ?_
      simp only [gF_pF, gF_pA, gF_pL, gA_pF, gA_pA, gA_pL, gL_pF, gL_pA, gL_pL, reduceIte, Nat.reduceEqDiff, and_false, false_and, and_true, true_and, and_self, hk]
      refine a_iload_n (pc := 40) dX11_put_40 rfl ?_
      refine a_lload_n (pc := 41) dX11_put_41 rfl ?_
      refine a_bipush (pc := 42) (-9) dX11_put_42 (by decide) ?_
      refine a_lconst (pc := 44) 0 dX11_put_44 (by decide) ?_
      refine a_V6v (pc := 45) 10 dX11_put_45 lcX11_planChange lX11_214 rfl rfl rfl (fit_of hR (by omega) rfl) (c_planChange (d0 := d0) 0 st k n v none (by decide) hst hk3 (fun l h => by cases h) hn (by omega)) rfl rfl (ex_v ?_)
      refine a_aload_n (pc := 48) dX11_put_48 rfl ?_
      refine a_V0i (pc := 49) 10 dX11_put_49 lcX11_takePlan lX11_218 rfl rfl rfl (fit_of hR (by omega) rfl) (c_takePlan (d0 := d0) (g := th0 g) (putL g st n k v none) n (by omega) hn hf) rfl rfl (ex_i ?_)
      refine ret _ _ 52 _ _ dX11_put_52 rfl ?_
      exact ⟨rfl, rfl, rfl⟩
    · exact absurd (hs.symm.trans cc) (by decide)
  · exact absurd c1 (by omega)
set_option maxRecDepth 100000 in
theorem c_mput4 {d0 kd kp rp : Nat} {g : GH} (k : Nat) (v : Int64) (st n : Nat) (hst : st < 3) (hk : gF g 76 6 = nI st) (hk3 : k < 3) (hn : gA g 81 0 = nI n) (hn60 : n ≤ 60) (hf : 60 < n + (putL g st n k v none).length) : ACi mX11_put (d0 + 5) (SS kd kp rp) g [.ref 76, .int (nI k), .long v] (fun r S' g' => S' = SS kd kp rp ∧ g' = rfu (plA (th0 g) (putL g st n k v none)) 6 ∧ r = -nI 6) := by
  have hs : insQ (nI k) (nI 0) (nI 2) = true := (insQ_ok (by decide)).mpr ⟨k, by omega, rfl⟩
  have h11 : (putL g st n k v none).length ≤ 11 := chg_len _ _ _ _ _ _ _
  refine ACi.of lcX11_put rfl rfl (fun X Q ad hR ret => ?_)
  refine AW_ls (ls' := [_, _, _, _]) rfl ?_
  refine a_aload_n (pc := 0) dX11_put_0 rfl ?_
  refine a_iconst (pc := 1) (nI 0) dX11_put_1 (by decide) ?_
  refine a_pi (pc := 2) dX11_put_2 fX11_104 rfl ?_
  refine a_aload_n (pc := 5) dX11_put_5 rfl ?_
  refine a_gi (pc := 6) dX11_put_6 fX11_25 rfl ?_
  simp only [gF_pF, gF_pA, gF_pL, gA_pF, gA_pA, gA_pL, gL_pF, gL_pA, gL_pL, reduceIte, Nat.reduceEqDiff, and_false, false_and, and_true, true_and, and_self, hk]
  refine a_if_geN (pc := 9) 19 dX11_put_9 (by decide) (by omega) (fun c1 => ?_) (fun c1 => ?_)
  · refine a_iload_n (pc := 19) dX11_put_19 rfl ?_
    refine a_iconst (pc := 20) (nI 0) dX11_put_20 (by decide) ?_
    refine a_iconst (pc := 21) (nI 2) dX11_put_21 (by decide) ?_
    refine a_S3i (pc := 22) dX11_put_22 lcX11_in lX11_110 (fit_of hR (by omega) rfl) (c_in (d := d0) (nI k) (nI 0) (nI 2)) rfl rfl (ex_i ?_)
    refine a_if_neB (pc := 25) 34 dX11_put_25 (by decide) (fun cc => ?_) (fun cc => ?_)
    · refine a_aload_n (pc := 34) dX11_put_34 rfl ?_
      refine a_iconst (pc := 35) (nI 0) dX11_put_35 (by decide) ?_
      refine a_aload_n (pc := 36) dX11_put_36 rfl ?_
      refine a_gi (pc := 37) dX11_put_37 fX11_25 rfl ?_
      simp only [gF_pF, gF_pA, gF_pL, gA_pF, gA_pA, gA_pL, gL_pF, gL_pA, gL_pL, reduceIte, Nat.reduceEqDiff, and_false, false_and, and_true, true_and, and_self, hk]
      refine a_iload_n (pc := 40) dX11_put_40 rfl ?_
      refine a_lload_n (pc := 41) dX11_put_41 rfl ?_
      refine a_bipush (pc := 42) (-9) dX11_put_42 (by decide) ?_
      refine a_lconst (pc := 44) 0 dX11_put_44 (by decide) ?_
      refine a_V6v (pc := 45) 10 dX11_put_45 lcX11_planChange lX11_214 rfl rfl rfl (fit_of hR (by omega) rfl) (c_planChange (d0 := d0) 0 st k n v none (by decide) hst hk3 (fun l h => by cases h) hn (by omega)) rfl rfl (ex_v ?_)
      refine a_aload_n (pc := 48) dX11_put_48 rfl ?_
      refine a_V0i (pc := 49) 10 dX11_put_49 lcX11_takePlan lX11_218 rfl rfl rfl (fit_of hR (by omega) rfl) (c_takePlanR (d0 := d0) (g := th0 g) (putL g st n k v none) n (by omega) hn hn60 hf) rfl rfl (ex_i ?_)
      refine ret _ _ 52 _ _ dX11_put_52 rfl ?_
      exact ⟨rfl, rfl, rfl⟩
    · exact absurd (hs.symm.trans cc) (by decide)
  · exact absurd c1 (by omega)
