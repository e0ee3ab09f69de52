/-! the constructors -/
theorem scr {p i j : Nat} (h : Nat.blt i j = true) : scV (p + j) (.ref (p + i)) := Or.inl (Nat.add_lt_add_left (blt_lt h) p)
theorem scr0 {p j : Nat} (h : Nat.blt 0 j = true) : scV (p + j) (.ref p) := Or.inl (Nat.lt_add_of_pos_right (blt_lt h))
theorem Sc.cons {N : Nat} {c : sE} {L : List sE} (h : scE N c) (h2 : Sc N L) : Sc N (c :: L) := fun d hd => (List.mem_cons.mp hd).elim (fun e => e ▸ h) (h2 d)
theorem s_row9 {b N : Nat} (h : b + 9 ≤ N) : Sc N (row9 b) := by
  intro c hc
  simp only [row9, List.mem_cons, List.not_mem_nil, or_false, inn6] at hc
  rcases hc with rfl | rfl | rfl | rfl | rfl | rfl | rfl | rfl | rfl | rfl
  · intro i x hx
    have hx : (if i < 9 then some (b + i) else none) = some x := hx
    split at hx
    · cases hx
      omega
    · cases hx
  all_goals trivial
theorem s_kin {x y z N : Nat} (h1 : x < N) (h2 : y < N) (h3 : z < N) : Sc N [.inl (3, 3, .inr (.inr (.inr (.inr (va_up (va_up (va_up (fun _ => none) 0 (some x)) 1 (some y)) 2 (some z))))))] := by
  intro c hc
  rw [List.mem_singleton] at hc
  subst hc
  intro i w hw
  have hw : va_up (va_up (va_up (fun _ => none) 0 (some x)) 1 (some y)) 2 (some z) i = some w := hw
  unfold va_up at hw
  split at hw
  · cases hw
    exact h3
  · split at hw
    · cases hw
      exact h2
    · split at hw
      · cases hw
        exact h1
      · cases hw
theorem dfX0 : ∀ j, j < 13 → defaultValue (tyX0 j) = vp_V [.null, .null, .null, .null, .null, .null, .int 0, .int 0, .int 0, .int 0, .int 0, .int 0, .int 0] j := by decide
theorem sfX0 (N : Nat) : scL N [.null, .null, .null, .null, .null, .null, .int 0, .int 0, .int 0, .int 0, .int 0, .int 0, .int 0] := ⟨trivial, trivial, trivial, trivial, trivial, trivial, trivial, trivial, trivial, trivial, trivial, trivial, trivial, trivial⟩
abbrev frX0 : sE := .inr (0, [.null, .null, .null, .null, .null, .null, .int 0, .int 0, .int 0, .int 0, .int 0, .int 0, .int 0])
theorem dfX9 : ∀ j, j < 14 → defaultValue (tyX9 j) = vp_V [.null, .null, .null, .null, .null, .null, .null, .null, .int 0, .int 0, .int 0, .int 0, .int 0, .int 0] j := by decide
theorem sfX9 (N : Nat) : scL N [.null, .null, .null, .null, .null, .null, .null, .null, .int 0, .int 0, .int 0, .int 0, .int 0, .int 0] := ⟨trivial, trivial, trivial, trivial, trivial, trivial, trivial, trivial, trivial, trivial, trivial, trivial, trivial, trivial, trivial⟩
abbrev frX9 : sE := .inr (8, [.null, .null, .null, .null, .null, .null, .null, .null, .int 0, .int 0, .int 0, .int 0, .int 0, .int 0])
theorem dfX5 : ∀ j, j < 5 → defaultValue (tyX5 j) = vp_V [.null, .null, .null, .int 0, .int 0] j := by decide
theorem sfX5 (N : Nat) : scL N [.null, .null, .null, .int 0, .int 0] := ⟨trivial, trivial, trivial, trivial, trivial, trivial⟩
abbrev frX5 : sE := .inr (4, [.null, .null, .null, .int 0, .int 0])
def tX0 (b : Nat) : List sE := ((.inr (0, [.ref (b + 1), .ref (b + 2), .ref (b + 3), .ref (b + 4), .ref (b + 5), .ref (b + 6), .int (nI 0), .int (nI 0), .int (nI 0), .int (nI 0), .int (nI 0), .int (nI 0), .int (nI 0)]) : sE) :: [.inl (0, 32, .inl (fun _ => 0)), .inl (0, 32, .inl (fun _ => 0)), .inl (0, 60, .inl (fun _ => 0)), .inl (0, 60, .inl (fun _ => 0)), .inl (0, 60, .inl (fun _ => 0)), .inl (0, 60, .inl (fun _ => 0))])
set_option maxHeartbeats 1000000 in
set_option maxRecDepth 100000 in
theorem i_X0 : NCI mX0_init 1 6 304 frX0 tX0 := by
  intro P hsP hsf hlen
  replace hlen : P.length + 7 ≤ 107 := hlen
  refine NC.of lcX0_init rfl rfl (fun X Q ad hR hx ret => ?_)
  have hs : Sc (P.length + 1) [frX0] := fun c hc => by rw [List.mem_singleton] at hc; subst hc; exact hsf
  have ha : agr (P.length + 1) ad ad := agr.rf
  refine AW_ls (ls' := [some (.ref P.length)]) rfl ?_
  refine a_aload_n (pc := 0) dX0_init_0 rfl ?_
  refine n_obj (pc := 1) dX0_init_1 (gW_in 84 (by decide +kernel) rfl) (by rw [hR]; exact ⟨by decide, by decide⟩) rfl ?_
  refine a_aload_n (pc := 4) dX0_init_4 rfl ?_
  refine a_bipush (pc := 5) (nI 32) dX0_init_5 (by decide) ?_
  refine m_naI (pc := 7) (m := 32) (T' := ((.inr (0, [.null, .null, .null, .null, .null, .null, .int 0, .int 0, .int 0, .int 0, .int 0, .int 0, .int 0]) : sE) :: [.inl (0, 32, .inl (fun _ => 0))])) 1 dX0_init_7 (by first | rfl | decide) (by decide) (by rw [hR]; decide) (by rw [hR]; decide) rfl rfl hsP (Or.inl (by decide)) hs (by omega) ⟨scr0 rfl, trivial⟩ ⟨(scr0 rfl), trivial⟩ ha (by omega) (fun ad ha hs => ?_)
  refine m_putF (pc := 9) (i := 0) (T' := ((.inr (0, [.ref (P.length + 1), .null, .null, .null, .null, .null, .int 0, .int 0, .int 0, .int 0, .int 0, .int 0, .int 0]) : sE) :: [.inl (0, 32, .inl (fun _ => 0))])) dX0_init_9 eX0_9 rfl rfl rfl rfl rfl rfl hs (scr (i := 1) rfl) (fun hs => ?_)
  refine a_aload_n (pc := 12) dX0_init_12 rfl ?_
  refine a_bipush (pc := 13) (nI 32) dX0_init_13 (by decide) ?_
  refine m_naI (pc := 15) (m := 32) (T' := ((.inr (0, [.ref (P.length + 1), .null, .null, .null, .null, .null, .int 0, .int 0, .int 0, .int 0, .int 0, .int 0, .int 0]) : sE) :: [.inl (0, 32, .inl (fun _ => 0)), .inl (0, 32, .inl (fun _ => 0))])) 2 dX0_init_15 (by first | rfl | decide) (by decide) (by rw [hR]; decide) (by rw [hR]; decide) rfl rfl hsP (Or.inl (by decide)) hs (by omega) ⟨scr0 rfl, trivial⟩ ⟨(scr0 rfl), trivial⟩ ha (by omega) (fun ad ha hs => ?_)
  refine m_putF (pc := 17) (i := 0) (T' := ((.inr (0, [.ref (P.length + 1), .ref (P.length + 2), .null, .null, .null, .null, .int 0, .int 0, .int 0, .int 0, .int 0, .int 0, .int 0]) : sE) :: [.inl (0, 32, .inl (fun _ => 0)), .inl (0, 32, .inl (fun _ => 0))])) dX0_init_17 eX0_15 rfl rfl rfl rfl rfl rfl hs (scr (i := 2) rfl) (fun hs => ?_)
  refine a_aload_n (pc := 20) dX0_init_20 rfl ?_
  refine a_bipush (pc := 21) (nI 60) dX0_init_21 (by decide) ?_
  refine m_naI (pc := 23) (m := 60) (T' := ((.inr (0, [.ref (P.length + 1), .ref (P.length + 2), .null, .null, .null, .null, .int 0, .int 0, .int 0, .int 0, .int 0, .int 0, .int 0]) : sE) :: [.inl (0, 32, .inl (fun _ => 0)), .inl (0, 32, .inl (fun _ => 0)), .inl (0, 60, .inl (fun _ => 0))])) 3 dX0_init_23 (by first | rfl | decide) (by decide) (by rw [hR]; decide) (by rw [hR]; decide) rfl rfl hsP (Or.inl (by decide)) hs (by omega) ⟨scr0 rfl, trivial⟩ ⟨(scr0 rfl), trivial⟩ ha (by omega) (fun ad ha hs => ?_)
  refine m_putF (pc := 25) (i := 0) (T' := ((.inr (0, [.ref (P.length + 1), .ref (P.length + 2), .ref (P.length + 3), .null, .null, .null, .int 0, .int 0, .int 0, .int 0, .int 0, .int 0, .int 0]) : sE) :: [.inl (0, 32, .inl (fun _ => 0)), .inl (0, 32, .inl (fun _ => 0)), .inl (0, 60, .inl (fun _ => 0))])) dX0_init_25 eX0_18 rfl rfl rfl rfl rfl rfl hs (scr (i := 3) rfl) (fun hs => ?_)
  refine a_aload_n (pc := 28) dX0_init_28 rfl ?_
  refine a_bipush (pc := 29) (nI 60) dX0_init_29 (by decide) ?_
  refine m_naI (pc := 31) (m := 60) (T' := ((.inr (0, [.ref (P.length + 1), .ref (P.length + 2), .ref (P.length + 3), .null, .null, .null, .int 0, .int 0, .int 0, .int 0, .int 0, .int 0, .int 0]) : sE) :: [.inl (0, 32, .inl (fun _ => 0)), .inl (0, 32, .inl (fun _ => 0)), .inl (0, 60, .inl (fun _ => 0)), .inl (0, 60, .inl (fun _ => 0))])) 4 dX0_init_31 (by first | rfl | decide) (by decide) (by rw [hR]; decide) (by rw [hR]; decide) rfl rfl hsP (Or.inl (by decide)) hs (by omega) ⟨scr0 rfl, trivial⟩ ⟨(scr0 rfl), trivial⟩ ha (by omega) (fun ad ha hs => ?_)
  refine m_putF (pc := 33) (i := 0) (T' := ((.inr (0, [.ref (P.length + 1), .ref (P.length + 2), .ref (P.length + 3), .ref (P.length + 4), .null, .null, .int 0, .int 0, .int 0, .int 0, .int 0, .int 0, .int 0]) : sE) :: [.inl (0, 32, .inl (fun _ => 0)), .inl (0, 32, .inl (fun _ => 0)), .inl (0, 60, .inl (fun _ => 0)), .inl (0, 60, .inl (fun _ => 0))])) dX0_init_33 eX0_21 rfl rfl rfl rfl rfl rfl hs (scr (i := 4) rfl) (fun hs => ?_)
  refine a_aload_n (pc := 36) dX0_init_36 rfl ?_
  refine a_bipush (pc := 37) (nI 60) dX0_init_37 (by decide) ?_
  refine m_naI (pc := 39) (m := 60) (T' := ((.inr (0, [.ref (P.length + 1), .ref (P.length + 2), .ref (P.length + 3), .ref (P.length + 4), .null, .null, .int 0, .int 0, .int 0, .int 0, .int 0, .int 0, .int 0]) : sE) :: [.inl (0, 32, .inl (fun _ => 0)), .inl (0, 32, .inl (fun _ => 0)), .inl (0, 60, .inl (fun _ => 0)), .inl (0, 60, .inl (fun _ => 0)), .inl (0, 60, .inl (fun _ => 0))])) 5 dX0_init_39 (by first | rfl | decide) (by decide) (by rw [hR]; decide) (by rw [hR]; decide) rfl rfl hsP (Or.inl (by decide)) hs (by omega) ⟨scr0 rfl, trivial⟩ ⟨(scr0 rfl), trivial⟩ ha (by omega) (fun ad ha hs => ?_)
  refine m_putF (pc := 41) (i := 0) (T' := ((.inr (0, [.ref (P.length + 1), .ref (P.length + 2), .ref (P.length + 3), .ref (P.length + 4), .ref (P.length + 5), .null, .int 0, .int 0, .int 0, .int 0, .int 0, .int 0, .int 0]) : sE) :: [.inl (0, 32, .inl (fun _ => 0)), .inl (0, 32, .inl (fun _ => 0)), .inl (0, 60, .inl (fun _ => 0)), .inl (0, 60, .inl (fun _ => 0)), .inl (0, 60, .inl (fun _ => 0))])) dX0_init_41 eX0_24 rfl rfl rfl rfl rfl rfl hs (scr (i := 5) rfl) (fun hs => ?_)
  refine a_aload_n (pc := 44) dX0_init_44 rfl ?_
  refine a_bipush (pc := 45) (nI 60) dX0_init_45 (by decide) ?_
  refine m_naI (pc := 47) (m := 60) (T' := ((.inr (0, [.ref (P.length + 1), .ref (P.length + 2), .ref (P.length + 3), .ref (P.length + 4), .ref (P.length + 5), .null, .int 0, .int 0, .int 0, .int 0, .int 0, .int 0, .int 0]) : sE) :: [.inl (0, 32, .inl (fun _ => 0)), .inl (0, 32, .inl (fun _ => 0)), .inl (0, 60, .inl (fun _ => 0)), .inl (0, 60, .inl (fun _ => 0)), .inl (0, 60, .inl (fun _ => 0)), .inl (0, 60, .inl (fun _ => 0))])) 6 dX0_init_47 (by first | rfl | decide) (by decide) (by rw [hR]; decide) (by rw [hR]; decide) rfl rfl hsP (Or.inl (by decide)) hs (by omega) ⟨scr0 rfl, trivial⟩ ⟨(scr0 rfl), trivial⟩ ha (by omega) (fun ad ha hs => ?_)
  refine m_putF (pc := 49) (i := 0) (T' := ((.inr (0, [.ref (P.length + 1), .ref (P.length + 2), .ref (P.length + 3), .ref (P.length + 4), .ref (P.length + 5), .ref (P.length + 6), .int 0, .int 0, .int 0, .int 0, .int 0, .int 0, .int 0]) : sE) :: [.inl (0, 32, .inl (fun _ => 0)), .inl (0, 32, .inl (fun _ => 0)), .inl (0, 60, .inl (fun _ => 0)), .inl (0, 60, .inl (fun _ => 0)), .inl (0, 60, .inl (fun _ => 0)), .inl (0, 60, .inl (fun _ => 0))])) dX0_init_49 eX0_27 rfl rfl rfl rfl rfl rfl hs (scr (i := 6) rfl) (fun hs => ?_)
  refine a_aload_n (pc := 52) dX0_init_52 rfl ?_
  refine a_iconst (pc := 53) (nI 0) dX0_init_53 (by decide) ?_
  refine m_putf (pc := 54) (i := 0) (T' := ((.inr (0, [.ref (P.length + 1), .ref (P.length + 2), .ref (P.length + 3), .ref (P.length + 4), .ref (P.length + 5), .ref (P.length + 6), .int (nI 0), .int 0, .int 0, .int 0, .int 0, .int 0, .int 0]) : sE) :: [.inl (0, 32, .inl (fun _ => 0)), .inl (0, 32, .inl (fun _ => 0)), .inl (0, 60, .inl (fun _ => 0)), .inl (0, 60, .inl (fun _ => 0)), .inl (0, 60, .inl (fun _ => 0)), .inl (0, 60, .inl (fun _ => 0))])) dX0_init_54 fX0_30 rfl rfl rfl rfl rfl hs trivial (fun hs => ?_)
  refine a_aload_n (pc := 57) dX0_init_57 rfl ?_
  refine a_iconst (pc := 58) (nI 0) dX0_init_58 (by decide) ?_
  refine m_putf (pc := 59) (i := 0) (T' := ((.inr (0, [.ref (P.length + 1), .ref (P.length + 2), .ref (P.length + 3), .ref (P.length + 4), .ref (P.length + 5), .ref (P.length + 6), .int (nI 0), .int (nI 0), .int 0, .int 0, .int 0, .int 0, .int 0]) : sE) :: [.inl (0, 32, .inl (fun _ => 0)), .inl (0, 32, .inl (fun _ => 0)), .inl (0, 60, .inl (fun _ => 0)), .inl (0, 60, .inl (fun _ => 0)), .inl (0, 60, .inl (fun _ => 0)), .inl (0, 60, .inl (fun _ => 0))])) dX0_init_59 fX0_34 rfl rfl rfl rfl rfl hs trivial (fun hs => ?_)
  refine a_aload_n (pc := 62) dX0_init_62 rfl ?_
  refine a_iconst (pc := 63) (nI 0) dX0_init_63 (by decide) ?_
  refine m_putf (pc := 64) (i := 0) (T' := ((.inr (0, [.ref (P.length + 1), .ref (P.length + 2), .ref (P.length + 3), .ref (P.length + 4), .ref (P.length + 5), .ref (P.length + 6), .int (nI 0), .int (nI 0), .int (nI 0), .int 0, .int 0, .int 0, .int 0]) : sE) :: [.inl (0, 32, .inl (fun _ => 0)), .inl (0, 32, .inl (fun _ => 0)), .inl (0, 60, .inl (fun _ => 0)), .inl (0, 60, .inl (fun _ => 0)), .inl (0, 60, .inl (fun _ => 0)), .inl (0, 60, .inl (fun _ => 0))])) dX0_init_64 fX0_37 rfl rfl rfl rfl rfl hs trivial (fun hs => ?_)
  refine a_aload_n (pc := 67) dX0_init_67 rfl ?_
  refine a_iconst (pc := 68) (nI 0) dX0_init_68 (by decide) ?_
  refine m_putf (pc := 69) (i := 0) (T' := ((.inr (0, [.ref (P.length + 1), .ref (P.length + 2), .ref (P.length + 3), .ref (P.length + 4), .ref (P.length + 5), .ref (P.length + 6), .int (nI 0), .int (nI 0), .int (nI 0), .int (nI 0), .int 0, .int 0, .int 0]) : sE) :: [.inl (0, 32, .inl (fun _ => 0)), .inl (0, 32, .inl (fun _ => 0)), .inl (0, 60, .inl (fun _ => 0)), .inl (0, 60, .inl (fun _ => 0)), .inl (0, 60, .inl (fun _ => 0)), .inl (0, 60, .inl (fun _ => 0))])) dX0_init_69 fX0_40 rfl rfl rfl rfl rfl hs trivial (fun hs => ?_)
  refine a_aload_n (pc := 72) dX0_init_72 rfl ?_
  refine a_iconst (pc := 73) (nI 0) dX0_init_73 (by decide) ?_
  refine m_putf (pc := 74) (i := 0) (T' := ((.inr (0, [.ref (P.length + 1), .ref (P.length + 2), .ref (P.length + 3), .ref (P.length + 4), .ref (P.length + 5), .ref (P.length + 6), .int (nI 0), .int (nI 0), .int (nI 0), .int (nI 0), .int (nI 0), .int 0, .int 0]) : sE) :: [.inl (0, 32, .inl (fun _ => 0)), .inl (0, 32, .inl (fun _ => 0)), .inl (0, 60, .inl (fun _ => 0)), .inl (0, 60, .inl (fun _ => 0)), .inl (0, 60, .inl (fun _ => 0)), .inl (0, 60, .inl (fun _ => 0))])) dX0_init_74 fX0_44 rfl rfl rfl rfl rfl hs trivial (fun hs => ?_)
  refine a_aload_n (pc := 77) dX0_init_77 rfl ?_
  refine a_iconst (pc := 78) (nI 0) dX0_init_78 (by decide) ?_
  refine m_putf (pc := 79) (i := 0) (T' := ((.inr (0, [.ref (P.length + 1), .ref (P.length + 2), .ref (P.length + 3), .ref (P.length + 4), .ref (P.length + 5), .ref (P.length + 6), .int (nI 0), .int (nI 0), .int (nI 0), .int (nI 0), .int (nI 0), .int (nI 0), .int 0]) : sE) :: [.inl (0, 32, .inl (fun _ => 0)), .inl (0, 32, .inl (fun _ => 0)), .inl (0, 60, .inl (fun _ => 0)), .inl (0, 60, .inl (fun _ => 0)), .inl (0, 60, .inl (fun _ => 0)), .inl (0, 60, .inl (fun _ => 0))])) dX0_init_79 fX0_47 rfl rfl rfl rfl rfl hs trivial (fun hs => ?_)
  refine a_aload_n (pc := 82) dX0_init_82 rfl ?_
  refine a_iconst (pc := 83) (nI 0) dX0_init_83 (by decide) ?_
  refine m_putf (pc := 84) (i := 0) (T' := ((.inr (0, [.ref (P.length + 1), .ref (P.length + 2), .ref (P.length + 3), .ref (P.length + 4), .ref (P.length + 5), .ref (P.length + 6), .int (nI 0), .int (nI 0), .int (nI 0), .int (nI 0), .int (nI 0), .int (nI 0), .int (nI 0)]) : sE) :: [.inl (0, 32, .inl (fun _ => 0)), .inl (0, 32, .inl (fun _ => 0)), .inl (0, 60, .inl (fun _ => 0)), .inl (0, 60, .inl (fun _ => 0)), .inl (0, 60, .inl (fun _ => 0)), .inl (0, 60, .inl (fun _ => 0))])) dX0_init_84 fX0_50 rfl rfl rfl rfl rfl hs trivial (fun hs => ?_)
  exact ret _ 87 _ _ _ ha (by decide) (by decide) dX0_init_87
set_option maxRecDepth 100000 in
theorem s_X0 : ∀ b, Sc (b + (tX0 b).length) (tX0 b) ∧ 0 < (tX0 b).length := by
  intro b
  refine ⟨?_, (by decide : 0 < 7)⟩
  show Sc (b + 7) _
  have hL : scL (b + 7) [.ref (b + 1), .ref (b + 2), .ref (b + 3), .ref (b + 4), .ref (b + 5), .ref (b + 6), .int (nI 0), .int (nI 0), .int (nI 0), .int (nI 0), .int (nI 0), .int (nI 0), .int (nI 0)] := ⟨scr (i := 1) rfl, ⟨scr (i := 2) rfl, ⟨scr (i := 3) rfl, ⟨scr (i := 4) rfl, ⟨scr (i := 5) rfl, ⟨scr (i := 6) rfl, ⟨trivial, ⟨trivial, ⟨trivial, ⟨trivial, ⟨trivial, ⟨trivial, ⟨trivial, trivial⟩⟩⟩⟩⟩⟩⟩⟩⟩⟩⟩⟩⟩
  refine Sc.cons (fun v hv => hL.all v hv) ?_
  intro c hc
  simp only [List.mem_cons, List.not_mem_nil, or_false] at hc
  rcases hc with rfl | rfl | rfl | rfl | rfl | rfl
  all_goals trivial
def tX9 (b : Nat) : List sE := ((.inr (8, [.ref (b + 1), .ref (b + 2), .ref (b + 3), .ref (b + 4), .ref (b + 5), .ref (b + 6), .ref (b + 7), .ref (b + 8), .int (nI 0), .int (nI 0), .int (nI 1), .int (nI 1), .int (-1), .int (-1)]) : sE) :: [.inl (0, 32, .inl (fun _ => 0)), .inl (0, 32, .inl (fun _ => 0)), .inl (0, 33, .inl (fun _ => 0)), .inl (0, 152, .inl (fun _ => 0)), .inl (0, 152, .inl (fun _ => 0)), .inl (0, 990, .inl (fun _ => 0)), .inl (0, 32, .inl (fun _ => 0)), .inl (0, 33, .inl (fun _ => 0))])
set_option maxHeartbeats 1000000 in
set_option maxRecDepth 100000 in
theorem i_X9 : NCI mX9_init 1 8 1456 frX9 tX9 := by
  intro P hsP hsf hlen
  replace hlen : P.length + 9 ≤ 107 := hlen
  refine NC.of lcX9_init rfl rfl (fun X Q ad hR hx ret => ?_)
  have hs : Sc (P.length + 1) [frX9] := fun c hc => by rw [List.mem_singleton] at hc; subst hc; exact hsf
  have ha : agr (P.length + 1) ad ad := agr.rf
  refine AW_ls (ls' := [some (.ref P.length)]) rfl ?_
  refine a_aload_n (pc := 0) dX9_init_0 rfl ?_
  refine n_obj (pc := 1) dX9_init_1 (gW_in 151 (by decide +kernel) rfl) (by rw [hR]; exact ⟨by decide, by decide⟩) rfl ?_
  refine a_aload_n (pc := 4) dX9_init_4 rfl ?_
  refine a_bipush (pc := 5) (nI 32) dX9_init_5 (by decide) ?_
  refine m_naI (pc := 7) (m := 32) (T' := ((.inr (8, [.null, .null, .null, .null, .null, .null, .null, .null, .int 0, .int 0, .int 0, .int 0, .int 0, .int 0]) : sE) :: [.inl (0, 32, .inl (fun _ => 0))])) 1 dX9_init_7 (by first | rfl | decide) (by decide) (by rw [hR]; decide) (by rw [hR]; decide) rfl rfl hsP (Or.inl (by decide)) hs (by omega) ⟨scr0 rfl, trivial⟩ ⟨(scr0 rfl), trivial⟩ ha (by omega) (fun ad ha hs => ?_)
  refine m_putF (pc := 9) (i := 0) (T' := ((.inr (8, [.ref (P.length + 1), .null, .null, .null, .null, .null, .null, .null, .int 0, .int 0, .int 0, .int 0, .int 0, .int 0]) : sE) :: [.inl (0, 32, .inl (fun _ => 0))])) dX9_init_9 eX9_9 rfl rfl rfl rfl rfl rfl hs (scr (i := 1) rfl) (fun hs => ?_)
  refine a_aload_n (pc := 12) dX9_init_12 rfl ?_
  refine a_bipush (pc := 13) (nI 32) dX9_init_13 (by decide) ?_
  refine m_naI (pc := 15) (m := 32) (T' := ((.inr (8, [.ref (P.length + 1), .null, .null, .null, .null, .null, .null, .null, .int 0, .int 0, .int 0, .int 0, .int 0, .int 0]) : sE) :: [.inl (0, 32, .inl (fun _ => 0)), .inl (0, 32, .inl (fun _ => 0))])) 2 dX9_init_15 (by first | rfl | decide) (by decide) (by rw [hR]; decide) (by rw [hR]; decide) rfl rfl hsP (Or.inl (by decide)) hs (by omega) ⟨scr0 rfl, trivial⟩ ⟨(scr0 rfl), trivial⟩ ha (by omega) (fun ad ha hs => ?_)
  refine m_putF (pc := 17) (i := 0) (T' := ((.inr (8, [.ref (P.length + 1), .ref (P.length + 2), .null, .null, .null, .null, .null, .null, .int 0, .int 0, .int 0, .int 0, .int 0, .int 0]) : sE) :: [.inl (0, 32, .inl (fun _ => 0)), .inl (0, 32, .inl (fun _ => 0))])) dX9_init_17 eX9_15 rfl rfl rfl rfl rfl rfl hs (scr (i := 2) rfl) (fun hs => ?_)
  refine a_aload_n (pc := 20) dX9_init_20 rfl ?_
  refine a_bipush (pc := 21) (nI 33) dX9_init_21 (by decide) ?_
  refine m_naI (pc := 23) (m := 33) (T' := ((.inr (8, [.ref (P.length + 1), .ref (P.length + 2), .null, .null, .null, .null, .null, .null, .int 0, .int 0, .int 0, .int 0, .int 0, .int 0]) : sE) :: [.inl (0, 32, .inl (fun _ => 0)), .inl (0, 32, .inl (fun _ => 0)), .inl (0, 33, .inl (fun _ => 0))])) 3 dX9_init_23 (by first | rfl | decide) (by decide) (by rw [hR]; decide) (by rw [hR]; decide) rfl rfl hsP (Or.inl (by decide)) hs (by omega) ⟨scr0 rfl, trivial⟩ ⟨(scr0 rfl), trivial⟩ ha (by omega) (fun ad ha hs => ?_)
  refine m_putF (pc := 25) (i := 0) (T' := ((.inr (8, [.ref (P.length + 1), .ref (P.length + 2), .ref (P.length + 3), .null, .null, .null, .null, .null, .int 0, .int 0, .int 0, .int 0, .int 0, .int 0]) : sE) :: [.inl (0, 32, .inl (fun _ => 0)), .inl (0, 32, .inl (fun _ => 0)), .inl (0, 33, .inl (fun _ => 0))])) dX9_init_25 eX9_18 rfl rfl rfl rfl rfl rfl hs (scr (i := 3) rfl) (fun hs => ?_)
  refine a_aload_n (pc := 28) dX9_init_28 rfl ?_
  refine a_sipush (pc := 29) (nI 152) dX9_init_29 (by decide) ?_
  refine m_naI (pc := 32) (m := 152) (T' := ((.inr (8, [.ref (P.length + 1), .ref (P.length + 2), .ref (P.length + 3), .null, .null, .null, .null, .null, .int 0, .int 0, .int 0, .int 0, .int 0, .int 0]) : sE) :: [.inl (0, 32, .inl (fun _ => 0)), .inl (0, 32, .inl (fun _ => 0)), .inl (0, 33, .inl (fun _ => 0)), .inl (0, 152, .inl (fun _ => 0))])) 4 dX9_init_32 (by first | rfl | decide) (by decide) (by rw [hR]; decide) (by rw [hR]; decide) rfl rfl hsP (Or.inl (by decide)) hs (by omega) ⟨scr0 rfl, trivial⟩ ⟨(scr0 rfl), trivial⟩ ha (by omega) (fun ad ha hs => ?_)
  refine m_putF (pc := 34) (i := 0) (T' := ((.inr (8, [.ref (P.length + 1), .ref (P.length + 2), .ref (P.length + 3), .ref (P.length + 4), .null, .null, .null, .null, .int 0, .int 0, .int 0, .int 0, .int 0, .int 0]) : sE) :: [.inl (0, 32, .inl (fun _ => 0)), .inl (0, 32, .inl (fun _ => 0)), .inl (0, 33, .inl (fun _ => 0)), .inl (0, 152, .inl (fun _ => 0))])) dX9_init_34 eX9_21 rfl rfl rfl rfl rfl rfl hs (scr (i := 4) rfl) (fun hs => ?_)
  refine a_aload_n (pc := 37) dX9_init_37 rfl ?_
  refine a_sipush (pc := 38) (nI 152) dX9_init_38 (by decide) ?_
  refine m_naI (pc := 41) (m := 152) (T' := ((.inr (8, [.ref (P.length + 1), .ref (P.length + 2), .ref (P.length + 3), .ref (P.length + 4), .null, .null, .null, .null, .int 0, .int 0, .int 0, .int 0, .int 0, .int 0]) : sE) :: [.inl (0, 32, .inl (fun _ => 0)), .inl (0, 32, .inl (fun _ => 0)), .inl (0, 33, .inl (fun _ => 0)), .inl (0, 152, .inl (fun _ => 0)), .inl (0, 152, .inl (fun _ => 0))])) 5 dX9_init_41 (by first | rfl | decide) (by decide) (by rw [hR]; decide) (by rw [hR]; decide) rfl rfl hsP (Or.inl (by decide)) hs (by omega) ⟨scr0 rfl, trivial⟩ ⟨(scr0 rfl), trivial⟩ ha (by omega) (fun ad ha hs => ?_)
  refine m_putF (pc := 43) (i := 0) (T' := ((.inr (8, [.ref (P.length + 1), .ref (P.length + 2), .ref (P.length + 3), .ref (P.length + 4), .ref (P.length + 5), .null, .null, .null, .int 0, .int 0, .int 0, .int 0, .int 0, .int 0]) : sE) :: [.inl (0, 32, .inl (fun _ => 0)), .inl (0, 32, .inl (fun _ => 0)), .inl (0, 33, .inl (fun _ => 0)), .inl (0, 152, .inl (fun _ => 0)), .inl (0, 152, .inl (fun _ => 0))])) dX9_init_43 eX9_24 rfl rfl rfl rfl rfl rfl hs (scr (i := 5) rfl) (fun hs => ?_)
  refine a_aload_n (pc := 46) dX9_init_46 rfl ?_
  refine a_sipush (pc := 47) (nI 990) dX9_init_47 (by decide) ?_
  refine m_naI (pc := 50) (m := 990) (T' := ((.inr (8, [.ref (P.length + 1), .ref (P.length + 2), .ref (P.length + 3), .ref (P.length + 4), .ref (P.length + 5), .null, .null, .null, .int 0, .int 0, .int 0, .int 0, .int 0, .int 0]) : sE) :: [.inl (0, 32, .inl (fun _ => 0)), .inl (0, 32, .inl (fun _ => 0)), .inl (0, 33, .inl (fun _ => 0)), .inl (0, 152, .inl (fun _ => 0)), .inl (0, 152, .inl (fun _ => 0)), .inl (0, 990, .inl (fun _ => 0))])) 6 dX9_init_50 (by first | rfl | decide) (by decide) (by rw [hR]; decide) (by rw [hR]; decide) rfl rfl hsP (Or.inl (by decide)) hs (by omega) ⟨scr0 rfl, trivial⟩ ⟨(scr0 rfl), trivial⟩ ha (by omega) (fun ad ha hs => ?_)
  refine m_putF (pc := 52) (i := 0) (T' := ((.inr (8, [.ref (P.length + 1), .ref (P.length + 2), .ref (P.length + 3), .ref (P.length + 4), .ref (P.length + 5), .ref (P.length + 6), .null, .null, .int 0, .int 0, .int 0, .int 0, .int 0, .int 0]) : sE) :: [.inl (0, 32, .inl (fun _ => 0)), .inl (0, 32, .inl (fun _ => 0)), .inl (0, 33, .inl (fun _ => 0)), .inl (0, 152, .inl (fun _ => 0)), .inl (0, 152, .inl (fun _ => 0)), .inl (0, 990, .inl (fun _ => 0))])) dX9_init_52 eX9_27 rfl rfl rfl rfl rfl rfl hs (scr (i := 6) rfl) (fun hs => ?_)
  refine a_aload_n (pc := 55) dX9_init_55 rfl ?_
  refine a_bipush (pc := 56) (nI 32) dX9_init_56 (by decide) ?_
  refine m_naI (pc := 58) (m := 32) (T' := ((.inr (8, [.ref (P.length + 1), .ref (P.length + 2), .ref (P.length + 3), .ref (P.length + 4), .ref (P.length + 5), .ref (P.length + 6), .null, .null, .int 0, .int 0, .int 0, .int 0, .int 0, .int 0]) : sE) :: [.inl (0, 32, .inl (fun _ => 0)), .inl (0, 32, .inl (fun _ => 0)), .inl (0, 33, .inl (fun _ => 0)), .inl (0, 152, .inl (fun _ => 0)), .inl (0, 152, .inl (fun _ => 0)), .inl (0, 990, .inl (fun _ => 0)), .inl (0, 32, .inl (fun _ => 0))])) 7 dX9_init_58 (by first | rfl | decide) (by decide) (by rw [hR]; decide) (by rw [hR]; decide) rfl rfl hsP (Or.inl (by decide)) hs (by omega) ⟨scr0 rfl, trivial⟩ ⟨(scr0 rfl), trivial⟩ ha (by omega) (fun ad ha hs => ?_)
  refine m_putF (pc := 60) (i := 0) (T' := ((.inr (8, [.ref (P.length + 1), .ref (P.length + 2), .ref (P.length + 3), .ref (P.length + 4), .ref (P.length + 5), .ref (P.length + 6), .ref (P.length + 7), .null, .int 0, .int 0, .int 0, .int 0, .int 0, .int 0]) : sE) :: [.inl (0, 32, .inl (fun _ => 0)), .inl (0, 32, .inl (fun _ => 0)), .inl (0, 33, .inl (fun _ => 0)), .inl (0, 152, .inl (fun _ => 0)), .inl (0, 152, .inl (fun _ => 0)), .inl (0, 990, .inl (fun _ => 0)), .inl (0, 32, .inl (fun _ => 0))])) dX9_init_60 eX9_30 rfl rfl rfl rfl rfl rfl hs (scr (i := 7) rfl) (fun hs => ?_)
  refine a_aload_n (pc := 63) dX9_init_63 rfl ?_
  refine a_bipush (pc := 64) (nI 33) dX9_init_64 (by decide) ?_
  refine m_naI (pc := 66) (m := 33) (T' := ((.inr (8, [.ref (P.length + 1), .ref (P.length + 2), .ref (P.length + 3), .ref (P.length + 4), .ref (P.length + 5), .ref (P.length + 6), .ref (P.length + 7), .null, .int 0, .int 0, .int 0, .int 0, .int 0, .int 0]) : sE) :: [.inl (0, 32, .inl (fun _ => 0)), .inl (0, 32, .inl (fun _ => 0)), .inl (0, 33, .inl (fun _ => 0)), .inl (0, 152, .inl (fun _ => 0)), .inl (0, 152, .inl (fun _ => 0)), .inl (0, 990, .inl (fun _ => 0)), .inl (0, 32, .inl (fun _ => 0)), .inl (0, 33, .inl (fun _ => 0))])) 8 dX9_init_66 (by first | rfl | decide) (by decide) (by rw [hR]; decide) (by rw [hR]; decide) rfl rfl hsP (Or.inl (by decide)) hs (by omega) ⟨scr0 rfl, trivial⟩ ⟨(scr0 rfl), trivial⟩ ha (by omega) (fun ad ha hs => ?_)
  refine m_putF (pc := 68) (i := 0) (T' := ((.inr (8, [.ref (P.length + 1), .ref (P.length + 2), .ref (P.length + 3), .ref (P.length + 4), .ref (P.length + 5), .ref (P.length + 6), .ref (P.length + 7), .ref (P.length + 8), .int 0, .int 0, .int 0, .int 0, .int 0, .int 0]) : sE) :: [.inl (0, 32, .inl (fun _ => 0)), .inl (0, 32, .inl (fun _ => 0)), .inl (0, 33, .inl (fun _ => 0)), .inl (0, 152, .inl (fun _ => 0)), .inl (0, 152, .inl (fun _ => 0)), .inl (0, 990, .inl (fun _ => 0)), .inl (0, 32, .inl (fun _ => 0)), .inl (0, 33, .inl (fun _ => 0))])) dX9_init_68 eX9_33 rfl rfl rfl rfl rfl rfl hs (scr (i := 8) rfl) (fun hs => ?_)
  refine a_aload_n (pc := 71) dX9_init_71 rfl ?_
  refine a_iconst (pc := 72) (nI 0) dX9_init_72 (by decide) ?_
  refine m_putf (pc := 73) (i := 0) (T' := ((.inr (8, [.ref (P.length + 1), .ref (P.length + 2), .ref (P.length + 3), .ref (P.length + 4), .ref (P.length + 5), .ref (P.length + 6), .ref (P.length + 7), .ref (P.length + 8), .int (nI 0), .int 0, .int 0, .int 0, .int 0, .int 0]) : sE) :: [.inl (0, 32, .inl (fun _ => 0)), .inl (0, 32, .inl (fun _ => 0)), .inl (0, 33, .inl (fun _ => 0)), .inl (0, 152, .inl (fun _ => 0)), .inl (0, 152, .inl (fun _ => 0)), .inl (0, 990, .inl (fun _ => 0)), .inl (0, 32, .inl (fun _ => 0)), .inl (0, 33, .inl (fun _ => 0))])) dX9_init_73 fX9_36 rfl rfl rfl rfl rfl hs trivial (fun hs => ?_)
  refine a_aload_n (pc := 76) dX9_init_76 rfl ?_
  refine a_iconst (pc := 77) (nI 0) dX9_init_77 (by decide) ?_
  refine m_putf (pc := 78) (i := 0) (T' := ((.inr (8, [.ref (P.length + 1), .ref (P.length + 2), .ref (P.length + 3), .ref (P.length + 4), .ref (P.length + 5), .ref (P.length + 6), .ref (P.length + 7), .ref (P.length + 8), .int (nI 0), .int (nI 0), .int 0, .int 0, .int 0, .int 0]) : sE) :: [.inl (0, 32, .inl (fun _ => 0)), .inl (0, 32, .inl (fun _ => 0)), .inl (0, 33, .inl (fun _ => 0)), .inl (0, 152, .inl (fun _ => 0)), .inl (0, 152, .inl (fun _ => 0)), .inl (0, 990, .inl (fun _ => 0)), .inl (0, 32, .inl (fun _ => 0)), .inl (0, 33, .inl (fun _ => 0))])) dX9_init_78 fX9_40 rfl rfl rfl rfl rfl hs trivial (fun hs => ?_)
  refine a_aload_n (pc := 81) dX9_init_81 rfl ?_
  refine a_iconst (pc := 82) (nI 1) dX9_init_82 (by decide) ?_
  refine m_putf (pc := 83) (i := 0) (T' := ((.inr (8, [.ref (P.length + 1), .ref (P.length + 2), .ref (P.length + 3), .ref (P.length + 4), .ref (P.length + 5), .ref (P.length + 6), .ref (P.length + 7), .ref (P.length + 8), .int (nI 0), .int (nI 0), .int (nI 1), .int 0, .int 0, .int 0]) : sE) :: [.inl (0, 32, .inl (fun _ => 0)), .inl (0, 32, .inl (fun _ => 0)), .inl (0, 33, .inl (fun _ => 0)), .inl (0, 152, .inl (fun _ => 0)), .inl (0, 152, .inl (fun _ => 0)), .inl (0, 990, .inl (fun _ => 0)), .inl (0, 32, .inl (fun _ => 0)), .inl (0, 33, .inl (fun _ => 0))])) dX9_init_83 fX9_43 rfl rfl rfl rfl rfl hs trivial (fun hs => ?_)
  refine a_aload_n (pc := 86) dX9_init_86 rfl ?_
  refine a_iconst (pc := 87) (nI 1) dX9_init_87 (by decide) ?_
  refine m_putf (pc := 88) (i := 0) (T' := ((.inr (8, [.ref (P.length + 1), .ref (P.length + 2), .ref (P.length + 3), .ref (P.length + 4), .ref (P.length + 5), .ref (P.length + 6), .ref (P.length + 7), .ref (P.length + 8), .int (nI 0), .int (nI 0), .int (nI 1), .int (nI 1), .int 0, .int 0]) : sE) :: [.inl (0, 32, .inl (fun _ => 0)), .inl (0, 32, .inl (fun _ => 0)), .inl (0, 33, .inl (fun _ => 0)), .inl (0, 152, .inl (fun _ => 0)), .inl (0, 152, .inl (fun _ => 0)), .inl (0, 990, .inl (fun _ => 0)), .inl (0, 32, .inl (fun _ => 0)), .inl (0, 33, .inl (fun _ => 0))])) dX9_init_88 fX9_46 rfl rfl rfl rfl rfl hs trivial (fun hs => ?_)
  refine a_aload_n (pc := 91) dX9_init_91 rfl ?_
  refine a_iconst (pc := 92) (-1) dX9_init_92 (by decide) ?_
  refine m_putf (pc := 93) (i := 0) (T' := ((.inr (8, [.ref (P.length + 1), .ref (P.length + 2), .ref (P.length + 3), .ref (P.length + 4), .ref (P.length + 5), .ref (P.length + 6), .ref (P.length + 7), .ref (P.length + 8), .int (nI 0), .int (nI 0), .int (nI 1), .int (nI 1), .int (-1), .int 0]) : sE) :: [.inl (0, 32, .inl (fun _ => 0)), .inl (0, 32, .inl (fun _ => 0)), .inl (0, 33, .inl (fun _ => 0)), .inl (0, 152, .inl (fun _ => 0)), .inl (0, 152, .inl (fun _ => 0)), .inl (0, 990, .inl (fun _ => 0)), .inl (0, 32, .inl (fun _ => 0)), .inl (0, 33, .inl (fun _ => 0))])) dX9_init_93 fX9_49 rfl rfl rfl rfl rfl hs trivial (fun hs => ?_)
  refine a_aload_n (pc := 96) dX9_init_96 rfl ?_
  refine a_iconst (pc := 97) (-1) dX9_init_97 (by decide) ?_
  refine m_putf (pc := 98) (i := 0) (T' := ((.inr (8, [.ref (P.length + 1), .ref (P.length + 2), .ref (P.length + 3), .ref (P.length + 4), .ref (P.length + 5), .ref (P.length + 6), .ref (P.length + 7), .ref (P.length + 8), .int (nI 0), .int (nI 0), .int (nI 1), .int (nI 1), .int (-1), .int (-1)]) : sE) :: [.inl (0, 32, .inl (fun _ => 0)), .inl (0, 32, .inl (fun _ => 0)), .inl (0, 33, .inl (fun _ => 0)), .inl (0, 152, .inl (fun _ => 0)), .inl (0, 152, .inl (fun _ => 0)), .inl (0, 990, .inl (fun _ => 0)), .inl (0, 32, .inl (fun _ => 0)), .inl (0, 33, .inl (fun _ => 0))])) dX9_init_98 fX9_52 rfl rfl rfl rfl rfl hs trivial (fun hs => ?_)
  exact ret _ 101 _ _ _ ha (by decide) (by decide) dX9_init_101
set_option maxRecDepth 100000 in
theorem s_X9 : ∀ b, Sc (b + (tX9 b).length) (tX9 b) ∧ 0 < (tX9 b).length := by
  intro b
  refine ⟨?_, (by decide : 0 < 9)⟩
  show Sc (b + 9) _
  have hL : scL (b + 9) [.ref (b + 1), .ref (b + 2), .ref (b + 3), .ref (b + 4), .ref (b + 5), .ref (b + 6), .ref (b + 7), .ref (b + 8), .int (nI 0), .int (nI 0), .int (nI 1), .int (nI 1), .int (-1), .int (-1)] := ⟨scr (i := 1) rfl, ⟨scr (i := 2) rfl, ⟨scr (i := 3) rfl, ⟨scr (i := 4) rfl, ⟨scr (i := 5) rfl, ⟨scr (i := 6) rfl, ⟨scr (i := 7) rfl, ⟨scr (i := 8) rfl, ⟨trivial, ⟨trivial, ⟨trivial, ⟨trivial, ⟨trivial, ⟨trivial, trivial⟩⟩⟩⟩⟩⟩⟩⟩⟩⟩⟩⟩⟩⟩
  refine Sc.cons (fun v hv => hL.all v hv) ?_
  intro c hc
  simp only [List.mem_cons, List.not_mem_nil, or_false] at hc
  rcases hc with rfl | rfl | rfl | rfl | rfl | rfl | rfl | rfl
  all_goals trivial
def tX5 (b : Nat) : List sE := ((.inr (4, [.ref (b + 1), .ref (b + 2), .ref (b + 3), .int (nI 0), .int (nI 0)]) : sE) :: [.inl (0, 11, .inl (fun _ => 0)), .inl (0, 11, .inl (fun _ => 0)), .inl (0, 11, .inl (fun _ => 0))])
set_option maxHeartbeats 1000000 in
set_option maxRecDepth 100000 in
theorem i_X5 : NCI mX5_init 1 3 33 frX5 tX5 := by
  intro P hsP hsf hlen
  replace hlen : P.length + 4 ≤ 107 := hlen
  refine NC.of lcX5_init rfl rfl (fun X Q ad hR hx ret => ?_)
  have hs : Sc (P.length + 1) [frX5] := fun c hc => by rw [List.mem_singleton] at hc; subst hc; exact hsf
  have ha : agr (P.length + 1) ad ad := agr.rf
  refine AW_ls (ls' := [some (.ref P.length)]) rfl ?_
  refine a_aload_n (pc := 0) dX5_init_0 rfl ?_
  refine n_obj (pc := 1) dX5_init_1 (gW_in 204 (by decide +kernel) rfl) (by rw [hR]; exact ⟨by decide, by decide⟩) rfl ?_
  refine a_aload_n (pc := 4) dX5_init_4 rfl ?_
  refine a_bipush (pc := 5) (nI 11) dX5_init_5 (by decide) ?_
  refine m_naI (pc := 7) (m := 11) (T' := ((.inr (4, [.null, .null, .null, .int 0, .int 0]) : sE) :: [.inl (0, 11, .inl (fun _ => 0))])) 1 dX5_init_7 (by first | rfl | decide) (by decide) (by rw [hR]; decide) (by rw [hR]; decide) rfl rfl hsP (Or.inl (by decide)) hs (by omega) ⟨scr0 rfl, trivial⟩ ⟨(scr0 rfl), trivial⟩ ha (by omega) (fun ad ha hs => ?_)
  refine m_putF (pc := 9) (i := 0) (T' := ((.inr (4, [.ref (P.length + 1), .null, .null, .int 0, .int 0]) : sE) :: [.inl (0, 11, .inl (fun _ => 0))])) dX5_init_9 eX5_9 rfl rfl rfl rfl rfl rfl hs (scr (i := 1) rfl) (fun hs => ?_)
  refine a_aload_n (pc := 12) dX5_init_12 rfl ?_
  refine a_bipush (pc := 13) (nI 11) dX5_init_13 (by decide) ?_
  refine m_naI (pc := 15) (m := 11) (T' := ((.inr (4, [.ref (P.length + 1), .null, .null, .int 0, .int 0]) : sE) :: [.inl (0, 11, .inl (fun _ => 0)), .inl (0, 11, .inl (fun _ => 0))])) 2 dX5_init_15 (by first | rfl | decide) (by decide) (by rw [hR]; decide) (by rw [hR]; decide) rfl rfl hsP (Or.inl (by decide)) hs (by omega) ⟨scr0 rfl, trivial⟩ ⟨(scr0 rfl), trivial⟩ ha (by omega) (fun ad ha hs => ?_)
  refine m_putF (pc := 17) (i := 0) (T' := ((.inr (4, [.ref (P.length + 1), .ref (P.length + 2), .null, .int 0, .int 0]) : sE) :: [.inl (0, 11, .inl (fun _ => 0)), .inl (0, 11, .inl (fun _ => 0))])) dX5_init_17 eX5_13 rfl rfl rfl rfl rfl rfl hs (scr (i := 2) rfl) (fun hs => ?_)
  refine a_aload_n (pc := 20) dX5_init_20 rfl ?_
  refine a_bipush (pc := 21) (nI 11) dX5_init_21 (by decide) ?_
  refine m_naI (pc := 23) (m := 11) (T' := ((.inr (4, [.ref (P.length + 1), .ref (P.length + 2), .null, .int 0, .int 0]) : sE) :: [.inl (0, 11, .inl (fun _ => 0)), .inl (0, 11, .inl (fun _ => 0)), .inl (0, 11, .inl (fun _ => 0))])) 3 dX5_init_23 (by first | rfl | decide) (by decide) (by rw [hR]; decide) (by rw [hR]; decide) rfl rfl hsP (Or.inl (by decide)) hs (by omega) ⟨scr0 rfl, trivial⟩ ⟨(scr0 rfl), trivial⟩ ha (by omega) (fun ad ha hs => ?_)
  refine m_putF (pc := 25) (i := 0) (T' := ((.inr (4, [.ref (P.length + 1), .ref (P.length + 2), .ref (P.length + 3), .int 0, .int 0]) : sE) :: [.inl (0, 11, .inl (fun _ => 0)), .inl (0, 11, .inl (fun _ => 0)), .inl (0, 11, .inl (fun _ => 0))])) dX5_init_25 eX5_16 rfl rfl rfl rfl rfl rfl hs (scr (i := 3) rfl) (fun hs => ?_)
  refine a_aload_n (pc := 28) dX5_init_28 rfl ?_
  refine a_iconst (pc := 29) (nI 0) dX5_init_29 (by decide) ?_
  refine m_putf (pc := 30) (i := 0) (T' := ((.inr (4, [.ref (P.length + 1), .ref (P.length + 2), .ref (P.length + 3), .int (nI 0), .int 0]) : sE) :: [.inl (0, 11, .inl (fun _ => 0)), .inl (0, 11, .inl (fun _ => 0)), .inl (0, 11, .inl (fun _ => 0))])) dX5_init_30 fX5_19 rfl rfl rfl rfl rfl hs trivial (fun hs => ?_)
  refine a_aload_n (pc := 33) dX5_init_33 rfl ?_
  refine a_iconst (pc := 34) (nI 0) dX5_init_34 (by decide) ?_
  refine m_putf (pc := 35) (i := 0) (T' := ((.inr (4, [.ref (P.length + 1), .ref (P.length + 2), .ref (P.length + 3), .int (nI 0), .int (nI 0)]) : sE) :: [.inl (0, 11, .inl (fun _ => 0)), .inl (0, 11, .inl (fun _ => 0)), .inl (0, 11, .inl (fun _ => 0))])) dX5_init_35 fX5_23 rfl rfl rfl rfl rfl hs trivial (fun hs => ?_)
  exact ret _ 38 _ _ _ ha (by decide) (by decide) dX5_init_38
set_option maxRecDepth 100000 in
theorem s_X5 : ∀ b, Sc (b + (tX5 b).length) (tX5 b) ∧ 0 < (tX5 b).length := by
  intro b
  refine ⟨?_, (by decide : 0 < 4)⟩
  show Sc (b + 4) _
  have hL : scL (b + 4) [.ref (b + 1), .ref (b + 2), .ref (b + 3), .int (nI 0), .int (nI 0)] := ⟨scr (i := 1) rfl, ⟨scr (i := 2) rfl, ⟨scr (i := 3) rfl, ⟨trivial, ⟨trivial, trivial⟩⟩⟩⟩⟩
  refine Sc.cons (fun v hv => hL.all v hv) ?_
  intro c hc
  simp only [List.mem_cons, List.not_mem_nil, or_false] at hc
  rcases hc with rfl | rfl | rfl
  all_goals trivial
