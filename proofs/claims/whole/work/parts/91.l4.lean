def f0 (a i : Nat) : Int32 := match (Nat.beq a 0 && Nat.beq i 8) || (Nat.beq a 76 && Nat.beq i 6) || ((Nat.beq a 8 || Nat.beq a 34) && (Nat.beq i 12 || Nat.beq i 13)) with
  | true => -1
  | false => match (Nat.beq a 8 || Nat.beq a 34) && (Nat.beq i 10 || Nat.beq i 11) with
    | true => 1
    | false => 0
def g0 : GH := (f0, fun _ _ => 0, fun _ _ => 0)
def y0 : Sy := ((fun _ => 0, []), -1, [], fun _ => 0, fun _ => 0, 0, 0, (fun _ => 0, []))
theorem y0_ok : Yok y0 := ⟨Or.inl rfl, fun st _ => Nat.two_pow_pos _, ⟨by decide, by decide, by decide, by decide, by decide, by decide, by decide, rfl⟩⟩
theorem cd0 : CD 1 g0 (fun _ => 0, []) := ⟨⟨rfl, by decide, rfl, rfl, rfl, 0, rfl, by decide, fun s _ => ⟨fun z => (by rw [Nat.zero_testBit] at z; cases z), fun ⟨k, hk, _⟩ => absurd hk (Nat.not_lt_zero _)⟩⟩, fun _ _ => rfl, fun _ _ => rfl, fun k hk => absurd hk (Nat.not_lt_zero _), fun x hx => nomatch hx⟩
theorem cs0 : CSc g0 [] := ⟨rfl, by decide, fun n a h => by cases n <;> cases h⟩
theorem rc0 : RpC 64 g0 (fun _ => 0, []) := ⟨fun _ _ => rfl, rfl, rfl, fun i row h => by cases i <;> cases h⟩
theorem ci0 : CI (SS 63 64 67) g0 y0 0 := ⟨63, 64, 67, Or.inl ⟨rfl, rfl⟩, rfl, cd0, ⟨0, Nat.le_refl _, rfl, rfl, Or.inl rfl⟩, ⟨rfl, rfl, rfl⟩, fun _ _ => rfl, fun _ _ => rfl, cs0, ⟨(fun _ => 0, []), 0, Nat.le_refl _, rfl, rfl, Or.inl rfl⟩, rc0⟩
theorem md0 : MD g0 0 (fun _ => 0, []) := ⟨rfl, by decide, fun _ _ => rfl, fun k hk => absurd hk (Nat.not_lt_zero _), fun k hk => absurd hk (Nat.not_lt_zero _)⟩
theorem ms0 : MSc g0 [] := ⟨rfl, by decide, fun n a h => by cases n <;> cases h⟩
theorem rk0 : RpK g0 (fun _ => 0, []) := ⟨fun _ _ => rfl, rfl, fun i row h => by cases i <;> cases h⟩
theorem mi0 : MI g0 y0 := ⟨md0, ⟨rfl, rfl, rfl⟩, fun st _ f _ => by
  show (0 : Int32) = bI (Nat.testBit 0 f)
  rw [Nat.zero_testBit]
  rfl, fun _ _ => rfl, ms0, rk0⟩
/-- all below n -/
def andN (p : Nat → Prop) : Nat → Prop
  | 0 => True
  | n + 1 => andN p n ∧ p n
theorem andN.at {p : Nat → Prop} : ∀ {n : Nat}, andN p n → ∀ k, k < n → p k
  | n + 1, h, k, hk => if e : k = n then e ▸ h.2 else h.1.at k (by omega)
theorem row70 : (va_up (va_up (va_up (fun _ => none) 0 (some 71)) 1 (some 72)) 2 (some 73) : Nat → Option Nat) = fun j => if j < 3 then some (71 + j) else none := by
  funext j
  match j with
  | 0 => rfl
  | 1 => rfl
  | 2 => rfl
  | j + 3 =>
    show (if j + 3 = 2 then _ else if j + 3 = 1 then _ else if j + 3 = 0 then _ else _) = (if j + 3 < 3 then _ else _)
    rw [if_neg (by omega), if_neg (by omega), if_neg (by omega), if_neg (by omega)]
def t107 : List sE := (tX10 0 ++ tX11 76) ++ [.inl (1, 1, .inr (.inl (fun _ => 0)))]
set_option maxRecDepth 100000 in
theorem t107_l : t107.length = 107 := rfl
set_option maxHeartbeats 1000000 in
set_option maxRecDepth 100000 in
theorem t107_c : andN (fun k => t107.getD k zE = cg g0 k ((SS 63 64 67).2 k)) 107 := by
  refine ⟨?_, rfl⟩
  refine ⟨?_, rfl⟩
  refine ⟨?_, rfl⟩
  refine ⟨?_, rfl⟩
  refine ⟨?_, rfl⟩
  refine ⟨?_, rfl⟩
  refine ⟨?_, rfl⟩
  refine ⟨?_, rfl⟩
  refine ⟨?_, rfl⟩
  refine ⟨?_, rfl⟩
  refine ⟨?_, rfl⟩
  refine ⟨?_, rfl⟩
  refine ⟨?_, rfl⟩
  refine ⟨?_, rfl⟩
  refine ⟨?_, rfl⟩
  refine ⟨?_, rfl⟩
  refine ⟨?_, rfl⟩
  refine ⟨?_, rfl⟩
  refine ⟨?_, rfl⟩
  refine ⟨?_, rfl⟩
  refine ⟨?_, rfl⟩
  refine ⟨?_, rfl⟩
  refine ⟨?_, rfl⟩
  refine ⟨?_, rfl⟩
  refine ⟨?_, rfl⟩
  refine ⟨?_, rfl⟩
  refine ⟨?_, rfl⟩
  refine ⟨?_, rfl⟩
  refine ⟨?_, rfl⟩
  refine ⟨?_, rfl⟩
  refine ⟨?_, rfl⟩
  refine ⟨?_, rfl⟩
  refine ⟨?_, rfl⟩
  refine ⟨?_, rfl⟩
  refine ⟨?_, rfl⟩
  refine ⟨?_, rfl⟩
  refine ⟨?_, congrArg (fun f => (.inl (3, 3, .inr (.inr (.inr (.inr f)))) : sE)) row70⟩
  refine ⟨?_, rfl⟩
  refine ⟨?_, rfl⟩
  refine ⟨?_, rfl⟩
  refine ⟨?_, rfl⟩
  refine ⟨?_, rfl⟩
  refine ⟨?_, rfl⟩
  refine ⟨?_, rfl⟩
  refine ⟨?_, rfl⟩
  refine ⟨?_, rfl⟩
  refine ⟨?_, rfl⟩
  refine ⟨?_, rfl⟩
  refine ⟨?_, rfl⟩
  refine ⟨?_, rfl⟩
  refine ⟨?_, rfl⟩
  refine ⟨?_, rfl⟩
  refine ⟨?_, rfl⟩
  refine ⟨?_, rfl⟩
  refine ⟨?_, rfl⟩
  refine ⟨?_, rfl⟩
  refine ⟨?_, rfl⟩
  refine ⟨?_, rfl⟩
  refine ⟨?_, rfl⟩
  refine ⟨?_, rfl⟩
  refine ⟨?_, rfl⟩
  refine ⟨?_, rfl⟩
  refine ⟨?_, rfl⟩
  refine ⟨?_, rfl⟩
  refine ⟨?_, rfl⟩
  refine ⟨?_, rfl⟩
  refine ⟨?_, rfl⟩
  refine ⟨?_, rfl⟩
  refine ⟨?_, rfl⟩
  refine ⟨?_, rfl⟩
  refine ⟨?_, rfl⟩
  refine ⟨?_, rfl⟩
  refine ⟨?_, rfl⟩
  refine ⟨?_, rfl⟩
  refine ⟨?_, rfl⟩
  refine ⟨?_, rfl⟩
  refine ⟨?_, rfl⟩
  refine ⟨?_, rfl⟩
  refine ⟨?_, rfl⟩
  refine ⟨?_, rfl⟩
  refine ⟨?_, rfl⟩
  refine ⟨?_, rfl⟩
  refine ⟨?_, rfl⟩
  refine ⟨?_, rfl⟩
  refine ⟨?_, rfl⟩
  refine ⟨?_, rfl⟩
  refine ⟨?_, rfl⟩
  refine ⟨?_, rfl⟩
  refine ⟨?_, rfl⟩
  refine ⟨?_, rfl⟩
  refine ⟨?_, rfl⟩
  refine ⟨?_, rfl⟩
  refine ⟨?_, rfl⟩
  refine ⟨?_, rfl⟩
  refine ⟨?_, rfl⟩
  refine ⟨?_, rfl⟩
  refine ⟨?_, rfl⟩
  refine ⟨?_, rfl⟩
  refine ⟨?_, rfl⟩
  refine ⟨?_, rfl⟩
  refine ⟨?_, rfl⟩
  refine ⟨?_, rfl⟩
  refine ⟨?_, rfl⟩
  refine ⟨?_, rfl⟩
  refine ⟨?_, rfl⟩
  refine ⟨?_, rfl⟩
  refine ⟨?_, rfl⟩
  trivial
theorem sw107 (dA : Nat → ClassId) (ad : Nat → Nat) : sw dA ad (hp [] t107) = sw dA ad (conc (SS 63 64 67) g0) := by
  unfold sw
  have e : (hp [] t107).1 = 107 := by
    show 0 + t107.length = 107
    rw [t107_l]
  rw [e]
  show _ = (List.range 107).map _
  refine List.map_congr_left (fun k hk => ?_)
  have h := t107_c.at k (List.mem_range.mp hk)
  show (ad k, se dA ad (t107.getD k zE)) = _
  rw [h]
  rfl
theorem Lw.mv {b L : Nat} {zs : Nat → Int32} {X : Cx} {ad ad' : Nat → Nat} (h : Lw b L zs X ad) (ha : agr 0 ad ad') : Lw b L zs X ad' := ⟨h.1, h.2.1, h.2.2.1, h.2.2.2.1, (ha 107 (Or.inr (Nat.le_refl _))).trans h.2.2.2.2.1, h.2.2.2.2.2⟩
set_option maxHeartbeats 1000000 in
set_option maxRecDepth 100000 in
theorem w_alloc {X : Cx} {Q : State → Prop} {ad : Nat → Nat} {b L : Nat} {zs : Nat → Int32} (hL : Lw b L zs X ad) (hx : Kx (xs X)) (hend : ∀ (ad : Nat → Nat) (k n : Nat) (h : sH) (ls : List (Option Value)), k ≤ 601024 → n ≤ 7293034 → AW mL_law X Q ad k n h 1100 ls [.int 1]) : AW mL_law X Q ad 0 0 (hp [] []) 0 [some (.ref 107), none, none, none, none, none, none, none] [] := by
  have hsP : Sc (([] : List sE).length + 1) [] := fun c hc => nomatch hc
  have ha : agr 0 ad ad := agr.rf
  have hR := hL.1.1
  refine m_new (pc := 0) (P := []) (T := []) (T' := [frX10]) 0 [.null, .null, .null, .null, .null, .null, .null, .null, .int 0, .int 0] dL_law_0 klX10 (gW_in 71 (by decide +kernel) rfl) (gW_in 72 (by decide +kernel) rfl) (gW_in 50 (by decide +kernel) rfl) dfX10 (fun _ => rfl) (fun _ => sfX10 _) (by rw [hR]; decide) (by rw [hR]; decide) rfl rfl hsP (Or.inr rfl) (fun c hc => nomatch hc) (by decide) ⟨Or.inr (Nat.le_refl _), trivial⟩ trivial ha (by decide) (fun ad ha hs => ?_)
  refine a_dup (pc := 3) dL_law_3 rfl ?_
  refine n_init (pc := 4) (P := []) (j := 0) (T := []) (T' := tX10 0) dL_law_4 lcX10_init rfl rfl (gW_in 74 (by decide +kernel) rfl) (Or.inl (gW_in 73 (by decide +kernel) rfl)) (by rw [hR]; exact ⟨by decide, by decide⟩) (by rw [hR]; exact ⟨by decide, by decide⟩) hx i_X10 rfl rfl rfl hsP hs s_X10 (by show 0 + (0 + 76) ≤ 107; decide) rfl ⟨Or.inr (Nat.le_refl _), trivial⟩ ⟨Or.inl (by decide), trivial⟩ ha (by decide) (fun ad ha hs => ?_)
  obtain ⟨T1, eT⟩ : ∃ T : List sE, T = tX10 0 := ⟨_, rfl⟩
  have l1 : T1.length = 76 := by rw [eT]; rfl
  rw [← eT] at hs ⊢
  replace hs : Sc (([] : List sE).length + 76) T1 := hs
  refine a_astore_n (pc := 7) (ls' := [some (.ref 107), some (.ref 0), none, none, none, none, none, none]) dL_law_7 (Nat.le_of_ble_eq_true rfl) rfl ?_
  refine m_new (pc := 8) (P := []) (T := T1) (T' := T1 ++ [frX11]) 76 [.int 0, .null, .null, .null, .null, .null, .int 0, .null, .int 0, .int 0, .null, .int 0, .null, .null, .null, .null, .null, .null, .null, .null, .null, .int 0, .int 0, .null, .null, .null, .null, .null, .null, .null, .null, .null, .int 0, .int 0, .null, .null, .null, .null] dL_law_8 klX11 (gW_in 952 (by decide +kernel) rfl) (gW_in 953 (by decide +kernel) rfl) (gW_in 61 (by decide +kernel) rfl) dfX11 (fun _ => rfl) (fun _ => sfX11 _) (by rw [hR]; decide) (by rw [hR]; decide) l1 rfl hsP (Or.inr rfl) hs (by decide) ⟨Or.inr (Nat.le_refl _), Or.inl (by decide), trivial⟩ trivial ha (by decide) (fun ad ha hs => ?_)
  refine a_dup (pc := 11) dL_law_11 rfl ?_
  refine n_init (pc := 12) (P := []) (j := 76) (T := T1) (T' := T1 ++ tX11 76) dL_law_12 lcX11_init rfl rfl (gW_in 955 (by decide +kernel) rfl) (Or.inl (gW_in 954 (by decide +kernel) rfl)) (by rw [hR]; exact ⟨by decide, by decide⟩) (by rw [hR]; exact ⟨by decide, by decide⟩) hx i_X11 l1 rfl rfl hsP hs s_X11 (by show 0 + (76 + 30) ≤ 107; decide) rfl ⟨Or.inr (Nat.le_refl _), Or.inl (by decide), trivial⟩ ⟨Or.inl (by decide), trivial⟩ ha (by decide) (fun ad ha hs => ?_)
  obtain ⟨T2, eT2⟩ : ∃ T : List sE, T = T1 ++ tX11 76 := ⟨_, rfl⟩
  have l2 : T2.length = 106 := by rw [eT2, List.length_append, l1]; rfl
  rw [← eT2] at hs ⊢
  replace hs : Sc (([] : List sE).length + 106) T2 := hs
  refine a_astore_n (pc := 15) (ls' := [some (.ref 107), some (.ref 0), some (.ref 76), none, none, none, none, none]) dL_law_15 (Nat.le_of_ble_eq_true rfl) rfl ?_
  refine a_iconst (pc := 16) (nI 1) dL_law_16 (by decide) ?_
  refine m_naL (pc := 17) (P := []) (m := 1) (T := T2) (T' := T2 ++ [.inl (1, 1, .inr (.inl (fun _ => 0)))]) 106 dL_law_17 rfl (by decide) (by rw [hR]; decide) (by rw [hR]; decide) l2 rfl hsP (Or.inr rfl) hs (by decide) ⟨Or.inr (Nat.le_refl _), Or.inl (by decide), Or.inl (by decide), trivial⟩ trivial ha (by decide) (fun ad ha hs => ?_)
  refine a_astore_n (pc := 19) (ls' := [some (.ref 107), some (.ref 0), some (.ref 76), some (.ref 106), none, none, none, none]) dL_law_19 (Nat.le_of_ble_eq_true rfl) rfl ?_
  subst eT2
  subst eT
  show AW mL_law X Q ad _ _ (hp [] t107) 20 _ []
  refine AW_sw sw107 ?_
  refine a_iconst (pc := 20) (nI 0) dL_law_20 (by decide) ?_
  refine a_istore (pc := 21) (ls' := lls (4 * 0)) dL_law_21 (Nat.le_of_ble_eq_true rfl) rfl ?_
  have hL' := hL.mv ha
  exact w_loop hL' (hend ad) 512 0 _ _ _ _ y0 (by have := hL.2.2.2.2.2; omega) (by decide) (Nat.le_of_ble_eq_true rfl) (Nat.le_of_ble_eq_true rfl) ci0 mi0 y0_ok
