set_option maxRecDepth 100000 in
theorem i_X1 (f : sE) : NCI mX1_init 1 0 0 f (fun _ => [f]) := by
  intro P hsP hsf hlen
  refine NC.of lcX1_init rfl rfl (fun X Q ad hR hx ret => ?_)
  refine AW_ls (ls' := [some (.ref P.length)]) rfl ?_
  refine a_aload_n (pc := 0) dX1_init_0 rfl ?_
  refine n_obj (pc := 1) dX1_init_1 (gW_in 277 (by decide +kernel) rfl) (by rw [hR]; exact ⟨by decide, by decide⟩) rfl ?_
  exact ret _ 4 _ _ _ agr.rf (by decide) (by decide) dX1_init_4
theorem dfX7 : ∀ j, j < 5 → defaultValue (tyX7 j) = vp_V [.null, .null, .null, .null, .int 0] j := by decide
theorem sfX7 (N : Nat) : scL N [.null, .null, .null, .null, .int 0] := ⟨trivial, trivial, trivial, trivial, trivial, trivial⟩
abbrev frX7 : sE := .inr (6, [.null, .null, .null, .null, .int 0])
theorem dfX6 : ∀ j, j < 3 → defaultValue (tyX6 j) = vp_V [.null, .null, .int 0] j := by decide
theorem sfX6 (N : Nat) : scL N [.null, .null, .int 0] := ⟨trivial, trivial, trivial, trivial⟩
abbrev frX6 : sE := .inr (5, [.null, .null, .int 0])
theorem dfX4 : ∀ j, j < 0 → defaultValue (tyX4 j) = vp_V [] j := fun j h => absurd h (by omega)
theorem sfX4 (N : Nat) : scL N [] := trivial
abbrev frX4 : sE := .inr (3, [])
theorem dfX2 : ∀ j, j < 0 → defaultValue (tyX2 j) = vp_V [] j := fun j h => absurd h (by omega)
theorem sfX2 (N : Nat) : scL N [] := trivial
abbrev frX2 : sE := .inr (1, [])
theorem dfX8 : ∀ j, j < 0 → defaultValue (tyX8 j) = vp_V [] j := fun j h => absurd h (by omega)
theorem sfX8 (N : Nat) : scL N [] := trivial
abbrev frX8 : sE := .inr (7, [])
def tX7 (b : Nat) : List sE := ((.inr (6, [.ref (b + 1), .ref (b + 2), .ref (b + 3), .ref (b + 4), .int (nI 0)]) : sE) :: [.inl (0, 8, .inl (fun _ => 0)), .inl (0, 8, .inl (fun _ => 0)), .inl (0, 8, .inl (fun _ => 0)), .inl (1, 8, .inr (.inl (fun _ => 0)))])
set_option maxHeartbeats 1000000 in
set_option maxRecDepth 100000 in
theorem i_X7 : NCI mX7_init 1 4 32 frX7 tX7 := by
  intro P hsP hsf hlen
  replace hlen : P.length + 5 ≤ 107 := hlen
  refine NC.of lcX7_init rfl rfl (fun X Q ad hR hx ret => ?_)
  have hs : Sc (P.length + 1) [frX7] := fun c hc => by rw [List.mem_singleton] at hc; subst hc; exact hsf
  have ha : agr (P.length + 1) ad ad := agr.rf
  refine AW_ls (ls' := [some (.ref P.length)]) rfl ?_
  refine a_aload_n (pc := 0) dX7_init_0 rfl ?_
  refine n_obj (pc := 1) dX7_init_1 (gW_in 231 (by decide +kernel) rfl) (by rw [hR]; exact ⟨by decide, by decide⟩) rfl ?_
  refine a_aload_n (pc := 4) dX7_init_4 rfl ?_
  refine a_bipush (pc := 5) (nI 8) dX7_init_5 (by decide) ?_
  refine m_naI (pc := 7) (m := 8) (T' := ((.inr (6, [.null, .null, .null, .null, .int 0]) : sE) :: [.inl (0, 8, .inl (fun _ => 0))])) 1 dX7_init_7 (by first | rfl | decide) (by decide) (by rw [hR]; decide) (by rw [hR]; decide) rfl rfl hsP (Or.inl (by decide)) hs (by omega) ⟨scr0 rfl, trivial⟩ ⟨(scr0 rfl), trivial⟩ ha (by omega) (fun ad ha hs => ?_)
  refine m_putF (pc := 9) (i := 0) (T' := ((.inr (6, [.ref (P.length + 1), .null, .null, .null, .int 0]) : sE) :: [.inl (0, 8, .inl (fun _ => 0))])) dX7_init_9 eX7_9 rfl rfl rfl rfl rfl rfl hs (scr (i := 1) rfl) (fun hs => ?_)
  refine a_aload_n (pc := 12) dX7_init_12 rfl ?_
  refine a_bipush (pc := 13) (nI 8) dX7_init_13 (by decide) ?_
  refine m_naI (pc := 15) (m := 8) (T' := ((.inr (6, [.ref (P.length + 1), .null, .null, .null, .int 0]) : sE) :: [.inl (0, 8, .inl (fun _ => 0)), .inl (0, 8, .inl (fun _ => 0))])) 2 dX7_init_15 (by first | rfl | decide) (by decide) (by rw [hR]; decide) (by rw [hR]; decide) rfl rfl hsP (Or.inl (by decide)) hs (by omega) ⟨scr0 rfl, trivial⟩ ⟨(scr0 rfl), trivial⟩ ha (by omega) (fun ad ha hs => ?_)
  refine m_putF (pc := 17) (i := 0) (T' := ((.inr (6, [.ref (P.length + 1), .ref (P.length + 2), .null, .null, .int 0]) : sE) :: [.inl (0, 8, .inl (fun _ => 0)), .inl (0, 8, .inl (fun _ => 0))])) dX7_init_17 eX7_15 rfl rfl rfl rfl rfl rfl hs (scr (i := 2) rfl) (fun hs => ?_)
  refine a_aload_n (pc := 20) dX7_init_20 rfl ?_
  refine a_bipush (pc := 21) (nI 8) dX7_init_21 (by decide) ?_
  refine m_naI (pc := 23) (m := 8) (T' := ((.inr (6, [.ref (P.length + 1), .ref (P.length + 2), .null, .null, .int 0]) : sE) :: [.inl (0, 8, .inl (fun _ => 0)), .inl (0, 8, .inl (fun _ => 0)), .inl (0, 8, .inl (fun _ => 0))])) 3 dX7_init_23 (by first | rfl | decide) (by decide) (by rw [hR]; decide) (by rw [hR]; decide) rfl rfl hsP (Or.inl (by decide)) hs (by omega) ⟨scr0 rfl, trivial⟩ ⟨(scr0 rfl), trivial⟩ ha (by omega) (fun ad ha hs => ?_)
  refine m_putF (pc := 25) (i := 0) (T' := ((.inr (6, [.ref (P.length + 1), .ref (P.length + 2), .ref (P.length + 3), .null, .int 0]) : sE) :: [.inl (0, 8, .inl (fun _ => 0)), .inl (0, 8, .inl (fun _ => 0)), .inl (0, 8, .inl (fun _ => 0))])) dX7_init_25 eX7_18 rfl rfl rfl rfl rfl rfl hs (scr (i := 3) rfl) (fun hs => ?_)
  refine a_aload_n (pc := 28) dX7_init_28 rfl ?_
  refine a_bipush (pc := 29) (nI 8) dX7_init_29 (by decide) ?_
  refine m_naL (pc := 31) (m := 8) (T' := ((.inr (6, [.ref (P.length + 1), .ref (P.length + 2), .ref (P.length + 3), .null, .int 0]) : sE) :: [.inl (0, 8, .inl (fun _ => 0)), .inl (0, 8, .inl (fun _ => 0)), .inl (0, 8, .inl (fun _ => 0)), .inl (1, 8, .inr (.inl (fun _ => 0)))])) 4 dX7_init_31 (by first | rfl | decide) (by decide) (by rw [hR]; decide) (by rw [hR]; decide) rfl rfl hsP (Or.inl (by decide)) hs (by omega) ⟨scr0 rfl, trivial⟩ ⟨(scr0 rfl), trivial⟩ ha (by omega) (fun ad ha hs => ?_)
  refine m_putF (pc := 33) (i := 0) (T' := ((.inr (6, [.ref (P.length + 1), .ref (P.length + 2), .ref (P.length + 3), .ref (P.length + 4), .int 0]) : sE) :: [.inl (0, 8, .inl (fun _ => 0)), .inl (0, 8, .inl (fun _ => 0)), .inl (0, 8, .inl (fun _ => 0)), .inl (1, 8, .inr (.inl (fun _ => 0)))])) dX7_init_33 eX7_21 rfl rfl rfl rfl rfl rfl hs (scr (i := 4) rfl) (fun hs => ?_)
  refine a_aload_n (pc := 36) dX7_init_36 rfl ?_
  refine a_iconst (pc := 37) (nI 0) dX7_init_37 (by decide) ?_
  refine m_putf (pc := 38) (i := 0) (T' := ((.inr (6, [.ref (P.length + 1), .ref (P.length + 2), .ref (P.length + 3), .ref (P.length + 4), .int (nI 0)]) : sE) :: [.inl (0, 8, .inl (fun _ => 0)), .inl (0, 8, .inl (fun _ => 0)), .inl (0, 8, .inl (fun _ => 0)), .inl (1, 8, .inr (.inl (fun _ => 0)))])) dX7_init_38 fX7_25 rfl rfl rfl rfl rfl hs trivial (fun hs => ?_)
  exact ret _ 41 _ _ _ ha (by decide) (by decide) dX7_init_41
set_option maxRecDepth 100000 in
theorem s_X7 : ∀ b, Sc (b + (tX7 b).length) (tX7 b) ∧ 0 < (tX7 b).length := by
  intro b
  refine ⟨?_, (by decide : 0 < 5)⟩
  show Sc (b + 5) _
  have hL : scL (b + 5) [.ref (b + 1), .ref (b + 2), .ref (b + 3), .ref (b + 4), .int (nI 0)] := ⟨scr (i := 1) rfl, ⟨scr (i := 2) rfl, ⟨scr (i := 3) rfl, ⟨scr (i := 4) rfl, ⟨trivial, trivial⟩⟩⟩⟩⟩
  refine Sc.cons (fun v hv => hL.all v hv) ?_
  intro c hc
  simp only [List.mem_cons, List.not_mem_nil, or_false] at hc
  rcases hc with rfl | rfl | rfl | rfl
  all_goals trivial
def tX6 (b : Nat) : List sE := ((.inr (5, [.ref (b + 1), .ref (b + 2), .int (nI 0)]) : sE) :: [.inl (0, 7, .inl (fun _ => 0)), .inl (0, 500, .inl (fun _ => 0))])
set_option maxHeartbeats 1000000 in
set_option maxRecDepth 100000 in
theorem i_X6 : NCI mX6_init 1 2 507 frX6 tX6 := by
  intro P hsP hsf hlen
  replace hlen : P.length + 3 ≤ 107 := hlen
  refine NC.of lcX6_init rfl rfl (fun X Q ad hR hx ret => ?_)
  have hs : Sc (P.length + 1) [frX6] := fun c hc => by rw [List.mem_singleton] at hc; subst hc; exact hsf
  have ha : agr (P.length + 1) ad ad := agr.rf
  refine AW_ls (ls' := [some (.ref P.length)]) rfl ?_
  refine a_aload_n (pc := 0) dX6_init_0 rfl ?_
  refine n_obj (pc := 1) dX6_init_1 (gW_in 284 (by decide +kernel) rfl) (by rw [hR]; exact ⟨by decide, by decide⟩) rfl ?_
  refine a_aload_n (pc := 4) dX6_init_4 rfl ?_
  refine a_bipush (pc := 5) (nI 7) dX6_init_5 (by decide) ?_
  refine m_naI (pc := 7) (m := 7) (T' := ((.inr (5, [.null, .null, .int 0]) : sE) :: [.inl (0, 7, .inl (fun _ => 0))])) 1 dX6_init_7 (by first | rfl | decide) (by decide) (by rw [hR]; decide) (by rw [hR]; decide) rfl rfl hsP (Or.inl (by decide)) hs (by omega) ⟨scr0 rfl, trivial⟩ ⟨(scr0 rfl), trivial⟩ ha (by omega) (fun ad ha hs => ?_)
  refine m_putF (pc := 9) (i := 0) (T' := ((.inr (5, [.ref (P.length + 1), .null, .int 0]) : sE) :: [.inl (0, 7, .inl (fun _ => 0))])) dX6_init_9 eX6_11 rfl rfl rfl rfl rfl rfl hs (scr (i := 1) rfl) (fun hs => ?_)
  refine a_aload_n (pc := 12) dX6_init_12 rfl ?_
  refine a_sipush (pc := 13) (nI 500) dX6_init_13 (by decide) ?_
  refine m_naI (pc := 16) (m := 500) (T' := ((.inr (5, [.ref (P.length + 1), .null, .int 0]) : sE) :: [.inl (0, 7, .inl (fun _ => 0)), .inl (0, 500, .inl (fun _ => 0))])) 2 dX6_init_16 (by first | rfl | decide) (by decide) (by rw [hR]; decide) (by rw [hR]; decide) rfl rfl hsP (Or.inl (by decide)) hs (by omega) ⟨scr0 rfl, trivial⟩ ⟨(scr0 rfl), trivial⟩ ha (by omega) (fun ad ha hs => ?_)
  refine m_putF (pc := 18) (i := 0) (T' := ((.inr (5, [.ref (P.length + 1), .ref (P.length + 2), .int 0]) : sE) :: [.inl (0, 7, .inl (fun _ => 0)), .inl (0, 500, .inl (fun _ => 0))])) dX6_init_18 eX6_15 rfl rfl rfl rfl rfl rfl hs (scr (i := 2) rfl) (fun hs => ?_)
  refine a_aload_n (pc := 21) dX6_init_21 rfl ?_
  refine a_iconst (pc := 22) (nI 0) dX6_init_22 (by decide) ?_
  refine m_putf (pc := 23) (i := 0) (T' := ((.inr (5, [.ref (P.length + 1), .ref (P.length + 2), .int (nI 0)]) : sE) :: [.inl (0, 7, .inl (fun _ => 0)), .inl (0, 500, .inl (fun _ => 0))])) dX6_init_23 fX6_18 rfl rfl rfl rfl rfl hs trivial (fun hs => ?_)
  exact ret _ 26 _ _ _ ha (by decide) (by decide) dX6_init_26
set_option maxRecDepth 100000 in
theorem s_X6 : ∀ b, Sc (b + (tX6 b).length) (tX6 b) ∧ 0 < (tX6 b).length := by
  intro b
  refine ⟨?_, (by decide : 0 < 3)⟩
  show Sc (b + 3) _
  have hL : scL (b + 3) [.ref (b + 1), .ref (b + 2), .int (nI 0)] := ⟨scr (i := 1) rfl, ⟨scr (i := 2) rfl, ⟨trivial, trivial⟩⟩⟩
  refine Sc.cons (fun v hv => hL.all v hv) ?_
  intro c hc
  simp only [List.mem_cons, List.not_mem_nil, or_false] at hc
  rcases hc with rfl | rfl
  all_goals trivial
def tX4 (b : Nat) : List sE := ((.inr (3, []) : sE) :: [])
set_option maxHeartbeats 1000000 in
set_option maxRecDepth 100000 in
theorem i_X4 : NCI mX4_init 2 0 0 frX4 tX4 := by
  intro P hsP hsf hlen
  replace hlen : P.length + 1 ≤ 107 := hlen
  refine NC.of lcX4_init rfl rfl (fun X Q ad hR hx ret => ?_)
  have hs : Sc (P.length + 1) [frX4] := fun c hc => by rw [List.mem_singleton] at hc; subst hc; exact hsf
  have ha : agr (P.length + 1) ad ad := agr.rf
  refine AW_ls (ls' := [some (.ref P.length)]) rfl ?_
  refine a_aload_n (pc := 0) dX4_init_0 rfl ?_
  refine n_init (pc := 1) (j := 0) (T := []) (T1 := [frX4]) (T' := [frX4]) dX4_init_1 lcX1_init rfl rfl (gW_in 275 (by decide +kernel) rfl) (Or.inr ⟨RX10, nW_in 274 (by decide +kernel) rfl⟩) (by rw [hR]; exact ⟨by decide, by decide⟩) (by rw [hR]; exact ⟨by decide, by decide⟩) hx (i_X1 frX4) rfl rfl rfl hsP hs (fun b => ⟨fun d hd => (by rw [List.mem_singleton] at hd; subst hd; exact fun v hv => (by cases hv)), Nat.zero_lt_one⟩) (by show P.length + (0 + 1) ≤ 107; omega) rfl ⟨scr0 rfl, trivial⟩ trivial ha (by omega) (fun ad ha hs => ?_)
  exact ret _ 4 _ _ _ ha (by decide) (by decide) dX4_init_4
set_option maxRecDepth 100000 in
theorem s_X4 : ∀ b, Sc (b + (tX4 b).length) (tX4 b) ∧ 0 < (tX4 b).length := by
  intro b
  refine ⟨?_, (by decide : 0 < 1)⟩
  show Sc (b + 1) _
  have hL : scL (b + 1) [] := trivial
  refine Sc.cons (fun v hv => hL.all v hv) ?_
  intro c hc
  cases hc
def tX2 (b : Nat) : List sE := ((.inr (1, []) : sE) :: [])
set_option maxHeartbeats 1000000 in
set_option maxRecDepth 100000 in
theorem i_X2 : NCI mX2_init 2 0 0 frX2 tX2 := by
  intro P hsP hsf hlen
  replace hlen : P.length + 1 ≤ 107 := hlen
  refine NC.of lcX2_init rfl rfl (fun X Q ad hR hx ret => ?_)
  have hs : Sc (P.length + 1) [frX2] := fun c hc => by rw [List.mem_singleton] at hc; subst hc; exact hsf
  have ha : agr (P.length + 1) ad ad := agr.rf
  refine AW_ls (ls' := [some (.ref P.length)]) rfl ?_
  refine a_aload_n (pc := 0) dX2_init_0 rfl ?_
  refine n_init (pc := 1) (j := 0) (T := []) (T1 := [frX2]) (T' := [frX2]) dX2_init_1 lcX1_init rfl rfl (gW_in 275 (by decide +kernel) rfl) (Or.inr ⟨RX10, nW_in 355 (by decide +kernel) rfl⟩) (by rw [hR]; exact ⟨by decide, by decide⟩) (by rw [hR]; exact ⟨by decide, by decide⟩) hx (i_X1 frX2) rfl rfl rfl hsP hs (fun b => ⟨fun d hd => (by rw [List.mem_singleton] at hd; subst hd; exact fun v hv => (by cases hv)), Nat.zero_lt_one⟩) (by show P.length + (0 + 1) ≤ 107; omega) rfl ⟨scr0 rfl, trivial⟩ trivial ha (by omega) (fun ad ha hs => ?_)
  exact ret _ 4 _ _ _ ha (by decide) (by decide) dX2_init_4
set_option maxRecDepth 100000 in
theorem s_X2 : ∀ b, Sc (b + (tX2 b).length) (tX2 b) ∧ 0 < (tX2 b).length := by
  intro b
  refine ⟨?_, (by decide : 0 < 1)⟩
  show Sc (b + 1) _
  have hL : scL (b + 1) [] := trivial
  refine Sc.cons (fun v hv => hL.all v hv) ?_
  intro c hc
  cases hc
def tX8 (b : Nat) : List sE := ((.inr (7, []) : sE) :: [])
set_option maxHeartbeats 1000000 in
set_option maxRecDepth 100000 in
theorem i_X8 : NCI mX8_init 2 0 0 frX8 tX8 := by
  intro P hsP hsf hlen
  replace hlen : P.length + 1 ≤ 107 := hlen
  refine NC.of lcX8_init rfl rfl (fun X Q ad hR hx ret => ?_)
  have hs : Sc (P.length + 1) [frX8] := fun c hc => by rw [List.mem_singleton] at hc; subst hc; exact hsf
  have ha : agr (P.length + 1) ad ad := agr.rf
  refine AW_ls (ls' := [some (.ref P.length)]) rfl ?_
  refine a_aload_n (pc := 0) dX8_init_0 rfl ?_
  refine n_init (pc := 1) (j := 0) (T := []) (T1 := [frX8]) (T' := [frX8]) dX8_init_1 lcX1_init rfl rfl (gW_in 275 (by decide +kernel) rfl) (Or.inr ⟨RX10, nW_in 362 (by decide +kernel) rfl⟩) (by rw [hR]; exact ⟨by decide, by decide⟩) (by rw [hR]; exact ⟨by decide, by decide⟩) hx (i_X1 frX8) rfl rfl rfl hsP hs (fun b => ⟨fun d hd => (by rw [List.mem_singleton] at hd; subst hd; exact fun v hv => (by cases hv)), Nat.zero_lt_one⟩) (by show P.length + (0 + 1) ≤ 107; omega) rfl ⟨scr0 rfl, trivial⟩ trivial ha (by omega) (fun ad ha hs => ?_)
  exact ret _ 4 _ _ _ ha (by decide) (by decide) dX8_init_4
set_option maxRecDepth 100000 in
theorem s_X8 : ∀ b, Sc (b + (tX8 b).length) (tX8 b) ∧ 0 < (tX8 b).length := by
  intro b
  refine ⟨?_, (by decide : 0 < 1)⟩
  show Sc (b + 1) _
  have hL : scL (b + 1) [] := trivial
  refine Sc.cons (fun v hv => hL.all v hv) ?_
  intro c hc
  cases hc
