/-! fences in a plan are all alike -/
def okF (x : En) : Prop := x.1 = -1 → x.2 = (nI 0, nI 0)
theorem fz_n {s : Nat} (h : s < 16) (a b : Int32) : okF (nI s, a, b) := fun z => absurd z (nI_m1 (by omega))
theorem fnc_fz (sp : Nat → Int32) (i : Nat) : ∀ x ∈ fnc sp i, okF x := by
  intro x hx
  unfold fnc at hx
  split at hx
  · simp at hx
    subst hx
    exact fun _ => rfl
  · simp at hx
theorem ch0_fz {k : Nat} {v : Int64} {lw : Option Nat} (hk : k < 3) (hl : ∀ l, lw = some l → l < 3) : ∀ x ∈ ch0 k v lw, okF x := by
  intro x hx
  cases lw with
  | none =>
    simp [ch0] at hx
    subst hx
    exact fz_n (by omega) _ _
  | some l =>
    have := hl l rfl
    simp [ch0] at hx
    rcases hx with rfl | rfl
    · exact fz_n (by omega) _ _
    · exact fz_n (by omega) _ _
theorem ch1_fz {sp : Nat → Int32} {k : Nat} {v : Int64} {lw : Option Nat} (hk : k < 3) (hl : ∀ l, lw = some l → l < 3) : ∀ x ∈ ch1 sp k v lw, okF x := by
  intro x hx
  cases lw with
  | none =>
    simp only [ch1, List.mem_append, List.mem_cons, List.not_mem_nil, or_false] at hx
    rcases hx with (((((((rfl | rfl | rfl) | h) | rfl) | h) | rfl) | h) | rfl) | h
    · exact fz_n (by omega) _ _
    · exact fz_n (by omega) _ _
    · exact fz_n (by omega) _ _
    · exact fnc_fz _ _ x h
    · exact fz_n (by omega) _ _
    · exact fnc_fz _ _ x h
    · exact fz_n (by omega) _ _
    · exact fnc_fz _ _ x h
    · exact fz_n (by omega) _ _
    · exact fnc_fz _ _ x h
  | some l =>
    have := hl l rfl
    simp only [ch1, List.mem_append, List.mem_cons, List.not_mem_nil, or_false] at hx
    rcases hx with ((((((((rfl | rfl | rfl) | h) | rfl) | h) | rfl) | rfl) | h) | rfl) | h
    · exact fz_n (by omega) _ _
    · exact fz_n (by omega) _ _
    · exact fz_n (by omega) _ _
    · exact fnc_fz _ _ x h
    · exact fz_n (by omega) _ _
    · exact fnc_fz _ _ x h
    · exact fz_n (by omega) _ _
    · exact fz_n (by omega) _ _
    · exact fnc_fz _ _ x h
    · exact fz_n (by omega) _ _
    · exact fnc_fz _ _ x h
theorem ch2_fz {sp : Nat → Int32} {n : Int32} {key : Nat → Int64} {k : Nat} {v : Int64} {lw : Option Nat} : ∀ x ∈ ch2 sp n key k v lw, okF x := by
  intro x hx
  have h8 : ∀ y, y < 3 → okF (shE n key k v lw y) := fun y hy => fz_n (plc_lt hy n) _ _
  simp only [ch2, List.mem_append, List.mem_cons, List.not_mem_nil, or_false] at hx
  rcases hx with (((rfl | rfl | rfl) | h) | rfl) | h
  · exact h8 0 (by decide)
  · exact h8 1 (by decide)
  · exact h8 2 (by decide)
  · exact fnc_fz _ _ x h
  · by_cases q : n &&& nI 1 = nI 1
    · rw [if_pos q]; exact fz_n (by decide) _ _
    · rw [if_neg q]; exact fz_n (by decide) _ _
  · exact fnc_fz _ _ x h
theorem chg_fz {st : Nat} {sp : Nat → Int32} {ver : Int32} {key : Nat → Int64} {k : Nat} {v : Int64} {lw : Option Nat} (hk : k < 3) (hl : ∀ l, lw = some l → l < 3) : ∀ x ∈ chg st sp ver key k v lw, okF x := by
  unfold chg
  split
  · exact ch0_fz hk hl
  · exact ch1_fz hk hl
  · exact ch2_fz
theorem ris_fz (st : Nat) (sp : Nat → Int32) (n m k kh kl l lh ll : Int32) : ∀ x ∈ risL st sp n m k kh kl l lh ll, okF x := by
  intro x hx
  unfold risL at hx
  split at hx
  · unfold ris1 at hx
    split at hx
    · rename_i h
      obtain ⟨h1, h2, h3, h4⟩ := h
      obtain ⟨j, hj, rfl⟩ := (insQ_ok (by decide)).mp h3
      simp only [List.mem_append, List.mem_cons, List.not_mem_nil, or_false] at hx
      rcases hx with (((rfl | h) | h) | rfl) | h
      · exact fz_n (by omega) _ _
      · split at h
        · rename_i h5
          rcases h4 with h6 | h6
          · rw [h6] at h5
            exact absurd h5 (by decide)
          · obtain ⟨j2, hj2, rfl⟩ := (insQ_ok (by decide)).mp h6
            simp at h
            subst h
            exact fz_n (by omega) _ _
        · simp at h
      · exact fnc_fz _ _ x h
      · exact fz_n (by omega) _ _
      · exact fnc_fz _ _ x h
    · split at hx
      · simp only [List.mem_append, List.mem_cons, List.not_mem_nil, or_false] at hx
        rcases hx with rfl | h
        · exact fz_n (by omega) _ _
        · exact fnc_fz _ _ x h
      · simp at hx
  · simp at hx
theorem actL_fz {st : Nat} {sp : Nat → Int32} {a : Ac} {q : Qd} (ha : okA a) (h2 : a.1 ≠ 2) : ∀ x ∈ actL st sp a q, okF x := by
  obtain ⟨h3, h4, h5⟩ := ha
  unfold actL
  split
  · rename_i h
    exact chg_fz (h4 h) (fun l hl => by cases hl)
  · have h1 : a.1 = 1 := by omega
    obtain ⟨o1, o2, o3⟩ := h5 h1
    exact chg_fz o2 (fun l hl => by cases hl; exact o1)
theorem chgQ_congr {F F' : Nat → Int32} (h : eq32 F F') (st : Nat) (sp : Nat → Int32) (k : Nat) (v : Int64) (lw : Option Nat) : chgQ (F, []) st sp k v lw = chgQ (F', []) st sp k v lw := by
  unfold chgQ
  rw [show verQ (F, []) = verQ (F', []) by rw [verQ_nil, verQ_nil, h 6 (by decide), h 7 (by decide), h 14 (by decide), h 15 (by decide)]]
  exact chg_congr (fun x hx => keyQ0_congr h 2 hx)
/-- a CHANGE by what is READ now -/
theorem chgQ_now {F : Nat → Int32} {q : Qd} (ho : okQ q) (h : eq32 F (flQ q)) (st : Nat) (sp : Nat → Int32) (k : Nat) (v : Int64) (lw : Option Nat) : chgQ (F, []) st sp k v lw = chgQ q st sp k v lw := by
  rw [chgQ_fl ho, chgQ_congr h]
theorem keyQ_now {F : Nat → Int32} {q : Qd} (ho : okQ q) (h : eq32 F (flQ q)) (st : Nat) {k : Nat} (hk : k < 3) : keyQ (F, []) st k = keyQ q st k := by
  rw [keyQ_fl ho st hk]
  exact keyQ0_congr h st hk
theorem RpC.tick {r : Nat} {g : GH} {rp : Rp} (h : RpC r g rp) (j : Nat) (hj : j ≠ 2) : RpC r (pA g (r + 1) (upd (gA g (r + 1)) j (nI (rp.1 j + 1)))) (tk rp j) := by
  obtain ⟨h1, h2, h3, h4⟩ := h
  refine ⟨fun i hi => ?_, h2, ?_, fun i row hr w hw => ?_⟩
  · rw [gA_pA, if_pos rfl]
    show upd _ j _ i = nI (tu rp.1 j (rp.1 j + 1) i)
    simp only [upd, tu]
    by_cases z : i = j
    · rw [if_pos z, if_pos z]
    · rw [if_neg z, if_neg z]
      exact h1 i hi
  · show rp.2.length = min (tu rp.1 j (rp.1 j + 1) 2) 50
    rw [tu, if_neg (fun z => hj z.symm)]
    exact h3
  · rw [gA_pA, if_neg (by omega)]
    exact h4 i row hr w hw
/-- another edit: what was seen is older -/
theorem SeD.next {g g' : GH} {q q' : Qd} {Ed : Nat} (h : SeD 34 27 g q Ed) (e : gF g' 27 12 = nI (Ed + 1)) (e3 : gA g' 37 = gA g 37) (e13 : gF g' 34 13 = gF g 34 13) : SeD 34 27 g' q' (Ed + 1) := by
  obtain ⟨h1, h2, h3⟩ := h
  refine ⟨e, by rw [e3]; exact h2, ?_⟩
  rw [e13]
  rcases h3 with z | ⟨e', z, z2, -⟩
  · exact Or.inl z
  · exact Or.inr ⟨e', z, by omega, fun y => by omega⟩
theorem SeD.fr {g g' : GH} {q : Qd} {Ed : Nat} {B : List Nat} (h : SeD 34 27 g q Ed) (f : Fr B g g') (h27 : 27 ∉ B) (hB : ∀ i, i < 9 → 34 + i ∉ B) : SeD 34 27 g' q Ed := by
  obtain ⟨h1, h2, h3⟩ := h
  refine ⟨(f.f h27 12).trans h1, by rw [f.a (hB 3 (by decide))]; exact h2, ?_⟩
  rw [f.f (hB 0 (by decide))]
  rcases h3 with z | ⟨e', z, z2, z3⟩
  · exact Or.inl z
  · exact Or.inr ⟨e', z, z2, fun y => (z3 y).fr f hB⟩
theorem entO_w {A : List Ac} {st : Nat} {sp : Nat → Int32} {su be : Nat} {w : Ws} {x : En} (h : w.1.2.length < 60) (hx : x.1 ≠ -1) : entO A st sp su be w x = momO A st sp su be (w.1.1, w.1.2 ++ [x]) (tk w.2 3) := by
  rw [entO, if_pos h, if_neg hx]
theorem entO_f {A : List Ac} {st : Nat} {sp : Nat → Int32} {su be : Nat} {w : Ws} {x : En} (h : w.1.2.length < 60) (hx : x.1 = -1) : entO A st sp su be w x = some ((w.1.1, w.1.2 ++ [x]), tk w.2 4) := by
  rw [entO, if_pos h, if_pos hx]
theorem entsO_c {A : List Ac} {st : Nat} {sp : Nat → Int32} {su be : Nat} {w w' : Ws} {x : En} {L : List En} (h : entO A st sp su be w x = some w') : entsO A st sp su be (x :: L) w = entsO A st sp su be L w' := by
  rw [entsO, h]
  rfl
abbrev chL_67 : List Nat := [27, 28, 29, 30, 31, 32, 33, 34, 35, 36, 37, 38, 39, 40, 41, 42, 43, 44, 45, 46, 47, 48, 49, 50, 61, 62, 67, 68, 69]
set_option maxHeartbeats 1000000 in
set_option maxRecDepth 100000 in
theorem c_change_67 {d0 : Nat} {g : GH} (A : List Ac) (a : Ac) (w : Ws) (st m su n Ed c : Nat) (nb : Bool) (hst : st < 3) (hm : m < 16) (hA : CSc g A) (ha : A[n]? = some a) (ha2 : a.1 ≠ 2) (hq : CD 27 g w.1) (hs : SeD 34 27 g w.1 Ed) (hEd : Ed + 20 < 2147483648) (hD : DuC g A) (hsu : su ≤ n + 1) (h10 : gF g 26 10 = nI m) (h11 : gF g 26 11 = nI (n + 1)) (h12 : gF g 26 12 = nI su) (h13 : gF g 26 13 = bI nb) (hr : RpC 67 g w.2) (hN : RpN c w.2) (hc : c ≤ 900) (hnb : nb = true → w.2.1 2 = 0) : ACi mX3_change (d0 + 37) (SS (71 + st) 64 67) g [.ref 26, .ref 21, .int (nI n)] (fun rr S' g' => S' = SS (71 + st) 64 67 ∧ Fr chL_67 g g' ∧ ∃ (b : Bool) (Ed' : Nat) (q' : Qd), rr = bI b ∧ Ed ≤ Ed' ∧ Ed' ≤ Ed + 11 ∧ CD 27 g' q' ∧ SeD 34 27 g' q' Ed' ∧ (b = true → ∃ w', entsO A st (spB st m) su (n + 1) (actL st (spB st m) a w.1) w = some w' ∧ q' = w'.1 ∧ RpC 67 g' w'.2 ∧ (nb = true → w'.2.1 2 = 0)) ∧ (b = false → entsO A st (spB st m) su (n + 1) (actL st (spB st m) a w.1) w = none ∨ (nb = true ∧ ∀ w', entsO A st (spB st m) su (n + 1) (actL st (spB st m) a w.1) w = some w' → w'.2.1 2 ≠ 0))) := by
  obtain ⟨oka, e22, e0, e1⟩ := hA.2.2 n a ha
  have h8 := hA.2.1
  have hn : n < A.length := (List.getElem?_eq_some_iff.mp ha).1
  have hok := hq.ok
  have hLl := actL_len st (spB st m) a w.1
  have hLo := actL_ok (st := st) (sp := spB st m) (q := w.1) oka ha2
  have hLz := actL_fz (st := st) (sp := spB st m) (q := w.1) oka ha2
  have h60 := hq.1.2.1
  refine ACz.of lcX3_change rfl rfl (fun X Q ad hR ret => ?_)
  refine AW_ls (ls' := [_, _, _, _, _]) rfl ?_
  refine a_aload_n (pc := 0) dX3_change_0 rfl ?_
  refine a_gr (pc := 1) dX3_change_1 fX3_28 rfl ?_
  refine a_aload_n (pc := 4) dX3_change_4 rfl ?_
  refine a_gi (pc := 5) dX3_change_5 fX3_64 rfl ?_
  rw [h10]
  refine a_V1v (pc := 8) 4 dX3_change_8 lcX5_begin lX3_114 rfl rfl rfl (fit_of hR (by omega) rfl) (c_pbegin_43 (d0 := d0) (nI m)) rfl rfl (fun S' g1 hS hp => ?_)
  obtain ⟨rfl, hP0, e4, f1⟩ := hp
  have mid : ∀ (g2 : GH), PL 43 g2 (actL st (spB st m) a w.1) → Fr [43, 44, 45, 46] g g2 → AW mX3_change X Q ad 0 0 (conc (SS (71 + st) 64 67) g2) 83 [some (.ref 26), some (.ref 21), some (.int (nI n)), none, none] [] := by
    intro g2 hP f2
    generalize hL : actL st (spB st m) a w.1 = L at *
    have q2 : CD 27 g2 w.1 := hq.fr f2 (by decide)
    have s2 : SeD 34 27 g2 w.1 Ed := hs.fr f2 (by decide) (by decide)
    refine a_aload_n (pc := 83) dX3_change_83 rfl ?_
    refine a_gr (pc := 84) dX3_change_84 fX3_12 rfl ?_
    refine a_aload_n (pc := 87) dX3_change_87 rfl ?_
    refine a_gr (pc := 88) dX3_change_88 fX3_28 rfl ?_
    refine a_gi (pc := 91) dX3_change_91 fX3_140 rfl ?_
    rw [hP.1]
    refine a_V1i (pc := 94) 0 dX3_change_94 lcX0_hasRoom lX3_143 rfl rfl rfl (fit_of hR (by omega) rfl) (c_hasRoom_27 (d0 := d0) w.1.2.length L.length q2.1.1 h60 (by omega)) rfl rfl (ex_i ?_)
    refine a_istore_n (pc := 97) (ls' := [_, _, _, _, _]) dX3_change_97 (Nat.le_of_ble_eq_true rfl) rfl ?_
    refine a_iconst (pc := 98) (nI 0) dX3_change_98 (by decide) ?_
    refine a_istore (pc := 99) (ls' := [_, _, _, _, _]) dX3_change_99 (Nat.le_of_ble_eq_true rfl) rfl ?_
    have stop : ∀ (g3 : GH) (j Ed' : Nat) (q' : Qd), j ≤ L.length → PL 43 g3 L → Fr chL_67 g g3 → Ed ≤ Ed' → Ed' ≤ Ed + 11 → CD 27 g3 q' → SeD 34 27 g3 q' Ed' → (entsO A st (spB st m) su (n + 1) L w = none ∨ (nb = true ∧ ∀ w', entsO A st (spB st m) su (n + 1) L w = some w' → w'.2.1 2 ≠ 0)) → AW mX3_change X Q ad 0 0 (conc (SS (71 + st) 64 67) g3) 101 [some (.ref 26), some (.ref 21), some (.int (nI n)), some (.int (bI false)), some (.int (nI j))] [] := by
      intro g3 j Ed' q' hj hP3 f3 d1 d2 q3 s3 hres
      have out : AW mX3_change X Q ad 0 0 (conc (SS (71 + st) 64 67) g3) 182 [some (.ref 26), some (.ref 21), some (.int (nI n)), some (.int (bI false)), some (.int (nI j))] [] := by
        refine a_iload_n (pc := 182) dX3_change_182 rfl ?_
        refine ret _ _ 183 _ _ dX3_change_183 rfl (by first | exact Or.inl rfl | exact Or.inr rfl | exact bI_01 _) ?_
        exact ⟨rfl, f3, false, Ed', q', rfl, d1, d2, q3, s3, (fun z => by cases z), fun _ => hres⟩
      refine a_iload (pc := 101) dX3_change_101 rfl ?_
      refine a_aload_n (pc := 103) dX3_change_103 rfl ?_
      refine a_gr (pc := 104) dX3_change_104 fX3_28 rfl ?_
      refine a_gi (pc := 107) dX3_change_107 fX3_140 rfl ?_
      rw [hP3.1]
      refine a_icmp_geN (pc := 110) 182 dX3_change_110 (by decide) (by omega) (by omega) (fun c1 => ?_) (fun c1 => ?_)
      · exact out
      · refine a_iload_n (pc := 113) dX3_change_113 rfl ?_
        refine a_if_eqB (pc := 114) 182 dX3_change_114 (by decide) (fun c2 => ?_) (fun c2 => ?_)
        · exact out
        · cases c2
    by_cases hroom : w.1.2.length + L.length ≤ 60
    · rw [decide_eq_true hroom]
      have loop : ∀ t j, L.length = j + t → ∀ (g3 : GH) (w1 : Ws), PL 43 g3 L → Fr chL_67 g g3 → CD 27 g3 w1.1 → SeD 34 27 g3 w1.1 (Ed + j) → RpC 67 g3 w1.2 → RpN (c + j) w1.2 → w1.1.2.length + t ≤ 60 → entsO A st (spB st m) su (n + 1) L w = entsO A st (spB st m) su (n + 1) (L.drop j) w1 → (nb = true → w1.2.1 2 = 0) → AW mX3_change X Q ad 0 0 (conc (SS (71 + st) 64 67) g3) 101 [some (.ref 26), some (.ref 21), some (.int (nI n)), some (.int (bI true)), some (.int (nI j))] [] := by
        intro t
        induction t with
        | zero =>
          intro j hj g3 w1 hP3 f3 q3 s3 r3 n3 l3 e3 b3
          rw [List.drop_of_length_le (by omega)] at e3
          refine a_iload (pc := 101) dX3_change_101 rfl ?_
          refine a_aload_n (pc := 103) dX3_change_103 rfl ?_
          refine a_gr (pc := 104) dX3_change_104 fX3_28 rfl ?_
          refine a_gi (pc := 107) dX3_change_107 fX3_140 rfl ?_
          rw [hP3.1]
          refine a_icmp_geN (pc := 110) 182 dX3_change_110 (by decide) (by omega) (by omega) (fun c1 => ?_) (fun c1 => ?_)
          · refine a_iload_n (pc := 182) dX3_change_182 rfl ?_
            refine ret _ _ 183 _ _ dX3_change_183 rfl (by first | exact Or.inl rfl | exact Or.inr rfl | exact bI_01 _) ?_
            exact ⟨rfl, f3, true, Ed + j, w1.1, rfl, by omega, by omega, q3, s3, (fun _ => ⟨w1, e3, rfl, r3, b3⟩), (fun z => by cases z)⟩
          · exact absurd c1 (by omega)
        | succ t ih =>
          intro j hj g3 w1 hP3 f3 q3 s3 r3 n3 l3 e3 b3
          have hx : L[j]? = some L[j] := List.getElem?_eq_getElem (by omega)
          have hxo : okE L[j] := hLo _ (List.getElem_mem _)
          have hxz : okF L[j] := hLz _ (List.getElem_mem _)
          have hdr : L.drop j = L[j] :: L.drop (j + 1) := List.drop_eq_getElem_cons (by omega)
          generalize L[j] = x at hx hxo hxz hdr
          rw [hdr] at e3
          refine a_iload (pc := 101) dX3_change_101 rfl ?_
          refine a_aload_n (pc := 103) dX3_change_103 rfl ?_
          refine a_gr (pc := 104) dX3_change_104 fX3_28 rfl ?_
          refine a_gi (pc := 107) dX3_change_107 fX3_140 rfl ?_
          rw [hP3.1]
          refine a_icmp_geN (pc := 110) 182 dX3_change_110 (by decide) (by omega) (by omega) (fun c1 => ?_) (fun c1 => ?_)
          · exact absurd c1 (by omega)
          · refine a_iload_n (pc := 113) dX3_change_113 rfl ?_
            refine a_if_eqB (pc := 114) 182 dX3_change_114 (by decide) (fun c2 => ?_) (fun c2 => ?_)
            · cases c2
            · refine a_aload_n (pc := 117) dX3_change_117 rfl ?_
              refine a_gr (pc := 118) dX3_change_118 fX3_12 rfl ?_
              refine a_aload_n (pc := 121) dX3_change_121 rfl ?_
              refine a_gr (pc := 122) dX3_change_122 fX3_28 rfl ?_
              refine a_iload (pc := 125) dX3_change_125 rfl ?_
              refine a_V2v (pc := 127) 0 dX3_change_127 lcX0_enqueuePlanned lX3_147 rfl rfl rfl (fit_of hR (by omega) rfl) (c_enqP_27 (d0 := d0) w1.1 L j x q3 (by omega) hP3 hx hxo hxz) rfl rfl (fun S' g4 hS hp => ?_)
              obtain ⟨rfl, q4, -, ed4, f4⟩ := hp
              have ed4 : gF g4 27 12 = nI (Ed + j + 1) := by rw [ed4, s3.1, nI_add]
              have s4 : SeD 34 27 g4 (w1.1.1, w1.1.2 ++ [x]) (Ed + j + 1) := s3.next ed4 (f4.a (by decide)) (f4.f (by decide) 13)
              have f34 := f3.tr (f4.mono (by decide))
              have hP4 : PL 43 g4 L := hP3.fr f4 (by decide)
              have r4 := r3.fr f4 (by decide) (by decide) (by decide)
              refine a_aload_n (pc := 130) dX3_change_130 rfl ?_
              refine a_gr (pc := 131) dX3_change_131 fX3_28 rfl ?_
              refine a_iload (pc := 134) dX3_change_134 rfl ?_
              refine a_V1i (pc := 136) 4 dX3_change_136 lcX5_isFence lX3_151 rfl rfl rfl (fit_of hR (by omega) rfl) (c_isFence_43 (d0 := d0) L j x hP4 hx) rfl rfl (ex_i ?_)
              refine a_if_eqB (pc := 139) 158 dX3_change_139 (by decide) (fun c3 => ?_) (fun c3 => ?_)
              · have hx1 := of_decide_eq_false c3
                have hent := entO_w (A := A) (st := st) (sp := spB st m) (su := su) (be := n + 1) (w := w1) (x := x) (by omega) hx1
                have r5 := r4.tick 3 (by decide)
                have n5 := n3.tk3 3 (by decide)
                have n5B := n5.b (by omega)
                refine a_aload_n (pc := 158) dX3_change_158 rfl ?_
                refine a_gr (pc := 159) dX3_change_159 fX3_61 rfl ?_
                refine a_gr (pc := 162) dX3_change_162 fX3_111 rfl ?_
                refine a_iconst (pc := 165) (nI 3) dX3_change_165 (by decide) ?_
                refine a_dup2 (pc := 166) dX3_change_166 rfl rfl ?_
                refine a_ial (pc := 167) _ dX3_change_167 rfl rfl (by omega) ?_
                rw [r4.1 3 (by decide)]
                refine a_iconst (pc := 168) (nI 1) dX3_change_168 (by decide) ?_
                refine a_iadd (pc := 169) dX3_change_169 ?_
                try rw [nI_add]
                refine a_ast (pc := 170) _ dX3_change_170 rfl rfl (by omega) ?_
                refine a_aload_n (pc := 171) dX3_change_171 rfl ?_
                have f5 := f34.sA (a := 68) (by decide) (upd (gA g4 68) 3 (nI (w1.2.1 3 + 1)))
                have f45 := (Fr.rf [68] g4).sA (a := 68) (by decide) (upd (gA g4 68) 3 (nI (w1.2.1 3 + 1)))
                refine a_V0i (pc := 172) 2 dX3_change_172 lcX3_lookAround lX3_91 rfl rfl rfl (fit_of hR (by omega) rfl) (c_look_67 (d0 := d0) A (w1.1.1, w1.1.2 ++ [x]) st m su (n + 1) (Ed + j + 1) nb (tk w1.2 3) hst hm (q4.fr f45 (by decide)) (s4.fr f45 (by decide) (by decide)) (by omega) (hD.fr h8 f5 (by decide)) h8 (by omega) hsu ((f5.f (by decide) 10).trans h10) ((f5.f (by decide) 11).trans h11) ((f5.f (by decide) 12).trans h12) ((f5.f (by decide) 13).trans h13) r5 n5B (by have := n5.1; have e := tk_0 w1.2 3 0 (by decide); have := n3.1; omega)) rfl rfl (fun rr S' g6 hS hp => ?_)
                obtain ⟨rfl, s6, f6, b, rfl, hy, hno⟩ := hp
                have f56 := f5.tr (f6.mono (by decide))
                have q6 : CD 27 g6 (w1.1.1, w1.1.2 ++ [x]) := (q4.fr f45 (by decide)).fr f6 (by decide)
                have hP6 : PL 43 g6 L := (hP4.fr f45 (by decide)).fr f6 (by decide)
                refine a_istore_n (pc := 175) (ls' := [_, _, _, _, _]) dX3_change_175 (Nat.le_of_ble_eq_true rfl) rfl ?_
                refine a_iinc (pc := 176) (ls' := [_, _, _, _, _]) (nI 1) dX3_change_176 (by decide) rfl (Nat.le_of_ble_eq_true rfl) rfl ?_
                try rw [nI_add]
                refine a_goto (pc := 179) 101 dX3_change_179 (by decide) ?_
                by_cases hfit : FitQ (w1.1.1, w1.1.2 ++ [x])
                · obtain ⟨r6, hb6⟩ := hy hfit
                  have ent2 : entO A st (spB st m) su (n + 1) w1 x = some ((w1.1.1, w1.1.2 ++ [x]), momP A (w1.1.1, w1.1.2 ++ [x]) st (spB st m) su (n + 1) (tk w1.2 3)) := by rw [hent, momO_y hfit]
                  have n6 := (entO_N n3 ent2).1
                  have e6 : entsO A st (spB st m) su (n + 1) L w = entsO A st (spB st m) su (n + 1) (L.drop (j + 1)) ((w1.1.1, w1.1.2 ++ [x]), momP A (w1.1.1, w1.1.2 ++ [x]) st (spB st m) su (n + 1) (tk w1.2 3)) := by rw [e3, entsO_c ent2]
                  cases b with
                  | true =>
                    refine ih (j + 1) (by omega) g6 ((w1.1.1, w1.1.2 ++ [x]), momP A (w1.1.1, w1.1.2 ++ [x]) st (spB st m) su (n + 1) (tk w1.2 3)) hP6 f56 q6 s6 r6 n6 (by simp; omega) e6 (fun z => ?_)
                    rw [z] at hb6
                    exact of_decide_eq_true (by simpa using hb6.symm)
                  | false =>
                    refine stop g6 (j + 1) (Ed + j + 1) _ (by omega) hP6 f56 (by omega) (by omega) q6 s6 (Or.inr ?_)
                    cases nb with
                    | false => cases hb6
                    | true =>
                      refine ⟨rfl, fun w' hw' => ?_⟩
                      have hne : ¬ (momP A (w1.1.1, w1.1.2 ++ [x]) st (spB st m) su (n + 1) (tk w1.2 3)).1 2 = 0 := of_decide_eq_false (by simpa using hb6.symm)
                      rw [e6] at hw'
                      have h9 : (momP A (w1.1.1, w1.1.2 ++ [x]) st (spB st m) su (n + 1) (tk w1.2 3)).1 2 ≤ w'.2.1 2 := (entsO_N _ _ _ _ n6 hw').2
                      exact fun z => hne (by omega)
                · have hb6 := hno hfit
                  subst hb6
                  refine stop g6 (j + 1) (Ed + j + 1) _ (by omega) hP6 f56 (by omega) (by omega) q6 s6 (Or.inl ?_)
                  rw [e3, entsO, hent, momO_n hfit]
                  rfl
              · have hx1 := of_decide_eq_true c3
                have hent := entO_f (A := A) (st := st) (sp := spB st m) (su := su) (be := n + 1) (w := w1) (x := x) (by omega) hx1
                have r5 := r4.tick 4 (by decide)
                have n5 := n3.tk3 4 (by decide)
                refine a_aload_n (pc := 142) dX3_change_142 rfl ?_
                refine a_gr (pc := 143) dX3_change_143 fX3_61 rfl ?_
                refine a_gr (pc := 146) dX3_change_146 fX3_111 rfl ?_
                refine a_iconst (pc := 149) (nI 4) dX3_change_149 (by decide) ?_
                refine a_dup2 (pc := 150) dX3_change_150 rfl rfl ?_
                refine a_ial (pc := 151) _ dX3_change_151 rfl rfl (by omega) ?_
                rw [r4.1 4 (by decide)]
                refine a_iconst (pc := 152) (nI 1) dX3_change_152 (by decide) ?_
                refine a_iadd (pc := 153) dX3_change_153 ?_
                try rw [nI_add]
                refine a_ast (pc := 154) _ dX3_change_154 rfl rfl (by omega) ?_
                refine a_goto (pc := 155) 176 dX3_change_155 (by decide) ?_
                refine a_iinc (pc := 176) (ls' := [_, _, _, _, _]) (nI 1) dX3_change_176 (by decide) rfl (Nat.le_of_ble_eq_true rfl) rfl ?_
                try rw [nI_add]
                refine a_goto (pc := 179) 101 dX3_change_179 (by decide) ?_
                have f5 := f34.sA (a := 68) (by decide) (upd (gA g4 68) 4 (nI (w1.2.1 4 + 1)))
                have f45 := (Fr.rf [68] g4).sA (a := 68) (by decide) (upd (gA g4 68) 4 (nI (w1.2.1 4 + 1)))
                refine ih (j + 1) (by omega) _ ((w1.1.1, w1.1.2 ++ [x]), tk w1.2 4) (hP4.fr f45 (by decide)) f5 (q4.fr f45 (by decide)) (s4.fr f45 (by decide) (by decide)) r5 n5 (by simp; omega) (by rw [e3, entsO_c hent]) (fun z => ?_)
                show (tk w1.2 4).1 2 = 0
                rw [tk_0 _ 4 2 (by decide)]
                exact b3 z
      exact loop L.length 0 (by omega) g2 w hP (f2.mono (by decide)) q2 s2 (hr.fr f2 (by decide) (by decide) (by decide)) hN (by omega) rfl hnb
    · rw [decide_eq_false hroom]
      exact stop g2 0 Ed w.1 (by omega) hP (f2.mono (by decide)) (by omega) (by omega) q2 s2 (Or.inl (entsO_full _ _ h60 (by omega)))
  have e29 : eq32 (gA g1 29) (flQ w.1) := fun p hp => by
    rw [f1.a (by decide)]
    exact hq.2.2.1 p hp
  have e221 : gA g1 22 n = nI a.1 := by rw [f1.a (by decide)]; exact e22
  refine a_aload_n (pc := 11) dX3_change_11 rfl ?_
  refine a_gr (pc := 12) dX3_change_12 fX3_98 rfl ?_
  refine a_iload_n (pc := 15) dX3_change_15 rfl ?_
  refine a_ial (pc := 16) _ dX3_change_16 rfl rfl (by omega) ?_
  rw [e221]
  by_cases z0 : a.1 = 0
  · obtain ⟨k0, v0⟩ := e0 z0
    have hk := oka.2.1 z0
    rw [z0]
    refine a_if_neN (pc := 17) 53 dX3_change_17 (by decide) (by omega) (fun c1 => ?_) (fun c1 => ?_)
    · exact absurd rfl c1
    · refine a_aload_n (pc := 20) dX3_change_20 rfl ?_
      refine a_gr (pc := 21) dX3_change_21 fX3_50 rfl ?_
      refine a_aload_n (pc := 24) dX3_change_24 rfl ?_
      refine a_gr (pc := 25) dX3_change_25 fX3_12 rfl ?_
      refine a_gr (pc := 28) dX3_change_28 fX3_117 rfl ?_
      refine a_aload_n (pc := 31) dX3_change_31 rfl ?_
      refine a_gr (pc := 32) dX3_change_32 fX3_120 rfl ?_
      refine a_iload_n (pc := 35) dX3_change_35 rfl ?_
      refine a_ial (pc := 36) _ dX3_change_36 rfl rfl (by omega) ?_
      rw [show gA g1 23 n = nI a.2.1 by rw [f1.a (by decide)]; exact k0]
      refine a_aload_n (pc := 37) dX3_change_37 rfl ?_
      refine a_gr (pc := 38) dX3_change_38 fX3_123 rfl ?_
      refine a_iload_n (pc := 41) dX3_change_41 rfl ?_
      refine a_lal (pc := 42) _ dX3_change_42 rfl rfl (by omega) ?_
      rw [show gL g1 25 n = a.2.2.2 by rw [f1.l (by decide)]; exact v0]
      refine a_aload_n (pc := 43) dX3_change_43 rfl ?_
      refine a_gr (pc := 44) dX3_change_44 fX3_28 rfl ?_
      have hact : actL st (spB st m) a w.1 = chgQ (gA g1 29, []) st (spB st m) a.2.1 a.2.2.2 none := by
        rw [actL, if_pos z0, chgQ_now hok e29]
      match st, hst, mid, hact with
      | 0, _, mid, hact =>
        refine a_U4v (pc := 47) 3 dX3_change_47 rfl lcX1_planPut lX3_127_X4 rfl (fit_of hR (by omega) rfl) (c_planPut_43 (d0 := d0) 0 m a.2.1 a.2.2.2 (by decide) hk hm hP0 e4) rfl rfl (fun S' g2 hS hp => ?_)
        obtain ⟨rfl, hP2, f2⟩ := hp
        refine a_goto (pc := 50) 83 dX3_change_50 (by decide) ?_
        exact mid g2 (by rw [hact]; exact hP2) (f1.tr f2)
      | 1, _, mid, hact =>
        refine a_U4v (pc := 47) 1 dX3_change_47 rfl lcX1_planPut lX3_127_X2 rfl (fit_of hR (by omega) rfl) (c_planPut_43 (d0 := d0) 1 m a.2.1 a.2.2.2 (by decide) hk hm hP0 e4) rfl rfl (fun S' g2 hS hp => ?_)
        obtain ⟨rfl, hP2, f2⟩ := hp
        refine a_goto (pc := 50) 83 dX3_change_50 (by decide) ?_
        exact mid g2 (by rw [hact]; exact hP2) (f1.tr f2)
      | 2, _, mid, hact =>
        refine a_U4v (pc := 47) 7 dX3_change_47 rfl lcX1_planPut lX3_127_X8 rfl (fit_of hR (by omega) rfl) (c_planPut_43 (d0 := d0) 2 m a.2.1 a.2.2.2 (by decide) hk hm hP0 e4) rfl rfl (fun S' g2 hS hp => ?_)
        obtain ⟨rfl, hP2, f2⟩ := hp
        refine a_goto (pc := 50) 83 dX3_change_50 (by decide) ?_
        exact mid g2 (by rw [hact]; exact hP2) (f1.tr f2)
  · have o1 := oka.1
    have z1 : a.1 = 1 := by omega
    obtain ⟨k0, l0⟩ := e1 z1
    have hk := oka.2.2 z1
    rw [z1]
    refine a_if_neN (pc := 17) 53 dX3_change_17 (by decide) (by omega) (fun c1 => ?_) (fun c1 => ?_)
    · refine a_aload_n (pc := 53) dX3_change_53 rfl ?_
      refine a_gr (pc := 54) dX3_change_54 fX3_50 rfl ?_
      refine a_aload_n (pc := 57) dX3_change_57 rfl ?_
      refine a_gr (pc := 58) dX3_change_58 fX3_12 rfl ?_
      refine a_gr (pc := 61) dX3_change_61 fX3_117 rfl ?_
      refine a_aload_n (pc := 64) dX3_change_64 rfl ?_
      refine a_gr (pc := 65) dX3_change_65 fX3_120 rfl ?_
      refine a_iload_n (pc := 68) dX3_change_68 rfl ?_
      refine a_ial (pc := 69) _ dX3_change_69 rfl rfl (by omega) ?_
      rw [show gA g1 23 n = nI a.2.1 by rw [f1.a (by decide)]; exact k0]
      refine a_aload_n (pc := 70) dX3_change_70 rfl ?_
      refine a_gr (pc := 71) dX3_change_71 fX3_133 rfl ?_
      refine a_iload_n (pc := 74) dX3_change_74 rfl ?_
      refine a_ial (pc := 75) _ dX3_change_75 rfl rfl (by omega) ?_
      rw [show gA g1 24 n = nI a.2.2.1 by rw [f1.a (by decide)]; exact l0]
      refine a_aload_n (pc := 76) dX3_change_76 rfl ?_
      refine a_gr (pc := 77) dX3_change_77 fX3_28 rfl ?_
      have hact : actL st (spB st m) a w.1 = chgQ (gA g1 29, []) st (spB st m) a.2.2.1 (keyQ (gA g1 29, []) st a.2.1) (some a.2.1) := by
        rw [actL, if_neg z0, chgQ_now hok e29, keyQ_now hok e29 st hk.1]
      match st, hst, mid, hact with
      | 0, _, mid, hact =>
        refine a_U4v (pc := 80) 3 dX3_change_80 rfl lcX1_planMove lX3_136_X4 rfl (fit_of hR (by omega) rfl) (c_planMove_43 (d0 := d0) 0 m a.2.1 a.2.2.1 (by decide) hk.1 hk.2.1 hm hP0 e4) rfl rfl (fun S' g2 hS hp => ?_)
        obtain ⟨rfl, hP2, f2⟩ := hp
        exact mid g2 (by rw [hact]; exact hP2) (f1.tr f2)
      | 1, _, mid, hact =>
        refine a_U4v (pc := 80) 1 dX3_change_80 rfl lcX1_planMove lX3_136_X2 rfl (fit_of hR (by omega) rfl) (c_planMove_43 (d0 := d0) 1 m a.2.1 a.2.2.1 (by decide) hk.1 hk.2.1 hm hP0 e4) rfl rfl (fun S' g2 hS hp => ?_)
        obtain ⟨rfl, hP2, f2⟩ := hp
        exact mid g2 (by rw [hact]; exact hP2) (f1.tr f2)
      | 2, _, mid, hact =>
        refine a_U4v (pc := 80) 7 dX3_change_80 rfl lcX1_planMove lX3_136_X8 rfl (fit_of hR (by omega) rfl) (c_planMove_43 (d0 := d0) 2 m a.2.1 a.2.2.1 (by decide) hk.1 hk.2.1 hm hP0 e4) rfl rfl (fun S' g2 hS hp => ?_)
        obtain ⟨rfl, hP2, f2⟩ := hp
        exact mid g2 (by rw [hact]; exact hP2) (f1.tr f2)
    · exact absurd c1 (by decide)
abbrev chL_64 : List Nat := [27, 28, 29, 30, 31, 32, 33, 34, 35, 36, 37, 38, 39, 40, 41, 42, 43, 44, 45, 46, 47, 48, 49, 50, 61, 62, 64, 65, 66]
set_option maxHeartbeats 1000000 in
set_option maxRecDepth 100000 in
theorem c_change_64 {d0 : Nat} {g : GH} (A : List Ac) (a : Ac) (w : Ws) (st m su n Ed c : Nat) (nb : Bool) (hst : st < 3) (hm : m < 16) (hA : CSc g A) (ha : A[n]? = some a) (ha2 : a.1 ≠ 2) (hq : CD 27 g w.1) (hs : SeD 34 27 g w.1 Ed) (hEd : Ed + 20 < 2147483648) (hD : DuC g A) (hsu : su ≤ n + 1) (h10 : gF g 26 10 = nI m) (h11 : gF g 26 11 = nI (n + 1)) (h12 : gF g 26 12 = nI su) (h13 : gF g 26 13 = bI nb) (hr : RpC 64 g w.2) (hN : RpN c w.2) (hc : c ≤ 900) (hnb : nb = true → w.2.1 2 = 0) : ACi mX3_change (d0 + 37) (SS (71 + st) 67 64) g [.ref 26, .ref 21, .int (nI n)] (fun rr S' g' => S' = SS (71 + st) 67 64 ∧ Fr chL_64 g g' ∧ ∃ (b : Bool) (Ed' : Nat) (q' : Qd), rr = bI b ∧ Ed ≤ Ed' ∧ Ed' ≤ Ed + 11 ∧ CD 27 g' q' ∧ SeD 34 27 g' q' Ed' ∧ (b = true → ∃ w', entsO A st (spB st m) su (n + 1) (actL st (spB st m) a w.1) w = some w' ∧ q' = w'.1 ∧ RpC 64 g' w'.2 ∧ (nb = true → w'.2.1 2 = 0)) ∧ (b = false → entsO A st (spB st m) su (n + 1) (actL st (spB st m) a w.1) w = none ∨ (nb = true ∧ ∀ w', entsO A st (spB st m) su (n + 1) (actL st (spB st m) a w.1) w = some w' → w'.2.1 2 ≠ 0))) := by
  obtain ⟨oka, e22, e0, e1⟩ := hA.2.2 n a ha
  have h8 := hA.2.1
  have hn : n < A.length := (List.getElem?_eq_some_iff.mp ha).1
  have hok := hq.ok
  have hLl := actL_len st (spB st m) a w.1
  have hLo := actL_ok (st := st) (sp := spB st m) (q := w.1) oka ha2
  have hLz := actL_fz (st := st) (sp := spB st m) (q := w.1) oka ha2
  have h60 := hq.1.2.1
  refine ACz.of lcX3_change rfl rfl (fun X Q ad hR ret => ?_)
  refine AW_ls (ls' := [_, _, _, _, _]) rfl ?_
  refine a_aload_n (pc := 0) dX3_change_0 rfl ?_
  refine a_gr (pc := 1) dX3_change_1 fX3_28 rfl ?_
  refine a_aload_n (pc := 4) dX3_change_4 rfl ?_
  refine a_gi (pc := 5) dX3_change_5 fX3_64 rfl ?_
  rw [h10]
  refine a_V1v (pc := 8) 4 dX3_change_8 lcX5_begin lX3_114 rfl rfl rfl (fit_of hR (by omega) rfl) (c_pbegin_43 (d0 := d0) (nI m)) rfl rfl (fun S' g1 hS hp => ?_)
  obtain ⟨rfl, hP0, e4, f1⟩ := hp
  have mid : ∀ (g2 : GH), PL 43 g2 (actL st (spB st m) a w.1) → Fr [43, 44, 45, 46] g g2 → AW mX3_change X Q ad 0 0 (conc (SS (71 + st) 67 64) g2) 83 [some (.ref 26), some (.ref 21), some (.int (nI n)), none, none] [] := by
    intro g2 hP f2
    generalize hL : actL st (spB st m) a w.1 = L at *
    have q2 : CD 27 g2 w.1 := hq.fr f2 (by decide)
    have s2 : SeD 34 27 g2 w.1 Ed := hs.fr f2 (by decide) (by decide)
    refine a_aload_n (pc := 83) dX3_change_83 rfl ?_
    refine a_gr (pc := 84) dX3_change_84 fX3_12 rfl ?_
    refine a_aload_n (pc := 87) dX3_change_87 rfl ?_
    refine a_gr (pc := 88) dX3_change_88 fX3_28 rfl ?_
    refine a_gi (pc := 91) dX3_change_91 fX3_140 rfl ?_
    rw [hP.1]
    refine a_V1i (pc := 94) 0 dX3_change_94 lcX0_hasRoom lX3_143 rfl rfl rfl (fit_of hR (by omega) rfl) (c_hasRoom_27 (d0 := d0) w.1.2.length L.length q2.1.1 h60 (by omega)) rfl rfl (ex_i ?_)
    refine a_istore_n (pc := 97) (ls' := [_, _, _, _, _]) dX3_change_97 (Nat.le_of_ble_eq_true rfl) rfl ?_
    refine a_iconst (pc := 98) (nI 0) dX3_change_98 (by decide) ?_
    refine a_istore (pc := 99) (ls' := [_, _, _, _, _]) dX3_change_99 (Nat.le_of_ble_eq_true rfl) rfl ?_
    have stop : ∀ (g3 : GH) (j Ed' : Nat) (q' : Qd), j ≤ L.length → PL 43 g3 L → Fr chL_64 g g3 → Ed ≤ Ed' → Ed' ≤ Ed + 11 → CD 27 g3 q' → SeD 34 27 g3 q' Ed' → (entsO A st (spB st m) su (n + 1) L w = none ∨ (nb = true ∧ ∀ w', entsO A st (spB st m) su (n + 1) L w = some w' → w'.2.1 2 ≠ 0)) → AW mX3_change X Q ad 0 0 (conc (SS (71 + st) 67 64) g3) 101 [some (.ref 26), some (.ref 21), some (.int (nI n)), some (.int (bI false)), some (.int (nI j))] [] := by
      intro g3 j Ed' q' hj hP3 f3 d1 d2 q3 s3 hres
      have out : AW mX3_change X Q ad 0 0 (conc (SS (71 + st) 67 64) g3) 182 [some (.ref 26), some (.ref 21), some (.int (nI n)), some (.int (bI false)), some (.int (nI j))] [] := by
        refine a_iload_n (pc := 182) dX3_change_182 rfl ?_
        refine ret _ _ 183 _ _ dX3_change_183 rfl (by first | exact Or.inl rfl | exact Or.inr rfl | exact bI_01 _) ?_
        exact ⟨rfl, f3, false, Ed', q', rfl, d1, d2, q3, s3, (fun z => by cases z), fun _ => hres⟩
      refine a_iload (pc := 101) dX3_change_101 rfl ?_
      refine a_aload_n (pc := 103) dX3_change_103 rfl ?_
      refine a_gr (pc := 104) dX3_change_104 fX3_28 rfl ?_
      refine a_gi (pc := 107) dX3_change_107 fX3_140 rfl ?_
      rw [hP3.1]
      refine a_icmp_geN (pc := 110) 182 dX3_change_110 (by decide) (by omega) (by omega) (fun c1 => ?_) (fun c1 => ?_)
      · exact out
      · refine a_iload_n (pc := 113) dX3_change_113 rfl ?_
        refine a_if_eqB (pc := 114) 182 dX3_change_114 (by decide) (fun c2 => ?_) (fun c2 => ?_)
        · exact out
        · cases c2
    by_cases hroom : w.1.2.length + L.length ≤ 60
    · rw [decide_eq_true hroom]
      have loop : ∀ t j, L.length = j + t → ∀ (g3 : GH) (w1 : Ws), PL 43 g3 L → Fr chL_64 g g3 → CD 27 g3 w1.1 → SeD 34 27 g3 w1.1 (Ed + j) → RpC 64 g3 w1.2 → RpN (c + j) w1.2 → w1.1.2.length + t ≤ 60 → entsO A st (spB st m) su (n + 1) L w = entsO A st (spB st m) su (n + 1) (L.drop j) w1 → (nb = true → w1.2.1 2 = 0) → AW mX3_change X Q ad 0 0 (conc (SS (71 + st) 67 64) g3) 101 [some (.ref 26), some (.ref 21), some (.int (nI n)), some (.int (bI true)), some (.int (nI j))] [] := by
        intro t
        induction t with
        | zero =>
          intro j hj g3 w1 hP3 f3 q3 s3 r3 n3 l3 e3 b3
          rw [List.drop_of_length_le (by omega)] at e3
          refine a_iload (pc := 101) dX3_change_101 rfl ?_
          refine a_aload_n (pc := 103) dX3_change_103 rfl ?_
          refine a_gr (pc := 104) dX3_change_104 fX3_28 rfl ?_
          refine a_gi (pc := 107) dX3_change_107 fX3_140 rfl ?_
          rw [hP3.1]
          refine a_icmp_geN (pc := 110) 182 dX3_change_110 (by decide) (by omega) (by omega) (fun c1 => ?_) (fun c1 => ?_)
          · refine a_iload_n (pc := 182) dX3_change_182 rfl ?_
            refine ret _ _ 183 _ _ dX3_change_183 rfl (by first | exact Or.inl rfl | exact Or.inr rfl | exact bI_01 _) ?_
            exact ⟨rfl, f3, true, Ed + j, w1.1, rfl, by omega, by omega, q3, s3, (fun _ => ⟨w1, e3, rfl, r3, b3⟩), (fun z => by cases z)⟩
          · exact absurd c1 (by omega)
        | succ t ih =>
          intro j hj g3 w1 hP3 f3 q3 s3 r3 n3 l3 e3 b3
          have hx : L[j]? = some L[j] := List.getElem?_eq_getElem (by omega)
          have hxo : okE L[j] := hLo _ (List.getElem_mem _)
          have hxz : okF L[j] := hLz _ (List.getElem_mem _)
          have hdr : L.drop j = L[j] :: L.drop (j + 1) := List.drop_eq_getElem_cons (by omega)
          generalize L[j] = x at hx hxo hxz hdr
          rw [hdr] at e3
          refine a_iload (pc := 101) dX3_change_101 rfl ?_
          refine a_aload_n (pc := 103) dX3_change_103 rfl ?_
          refine a_gr (pc := 104) dX3_change_104 fX3_28 rfl ?_
          refine a_gi (pc := 107) dX3_change_107 fX3_140 rfl ?_
          rw [hP3.1]
          refine a_icmp_geN (pc := 110) 182 dX3_change_110 (by decide) (by omega) (by omega) (fun c1 => ?_) (fun c1 => ?_)
          · exact absurd c1 (by omega)
          · refine a_iload_n (pc := 113) dX3_change_113 rfl ?_
            refine a_if_eqB (pc := 114) 182 dX3_change_114 (by decide) (fun c2 => ?_) (fun c2 => ?_)
            · cases c2
            · refine a_aload_n (pc := 117) dX3_change_117 rfl ?_
              refine a_gr (pc := 118) dX3_change_118 fX3_12 rfl ?_
              refine a_aload_n (pc := 121) dX3_change_121 rfl ?_
              refine a_gr (pc := 122) dX3_change_122 fX3_28 rfl ?_
              refine a_iload (pc := 125) dX3_change_125 rfl ?_
              refine a_V2v (pc := 127) 0 dX3_change_127 lcX0_enqueuePlanned lX3_147 rfl rfl rfl (fit_of hR (by omega) rfl) (c_enqP_27 (d0 := d0) w1.1 L j x q3 (by omega) hP3 hx hxo hxz) rfl rfl (fun S' g4 hS hp => ?_)
              obtain ⟨rfl, q4, -, ed4, f4⟩ := hp
              have ed4 : gF g4 27 12 = nI (Ed + j + 1) := by rw [ed4, s3.1, nI_add]
              have s4 : SeD 34 27 g4 (w1.1.1, w1.1.2 ++ [x]) (Ed + j + 1) := s3.next ed4 (f4.a (by decide)) (f4.f (by decide) 13)
              have f34 := f3.tr (f4.mono (by decide))
              have hP4 : PL 43 g4 L := hP3.fr f4 (by decide)
              have r4 := r3.fr f4 (by decide) (by decide) (by decide)
              refine a_aload_n (pc := 130) dX3_change_130 rfl ?_
              refine a_gr (pc := 131) dX3_change_131 fX3_28 rfl ?_
              refine a_iload (pc := 134) dX3_change_134 rfl ?_
              refine a_V1i (pc := 136) 4 dX3_change_136 lcX5_isFence lX3_151 rfl rfl rfl (fit_of hR (by omega) rfl) (c_isFence_43 (d0 := d0) L j x hP4 hx) rfl rfl (ex_i ?_)
              refine a_if_eqB (pc := 139) 158 dX3_change_139 (by decide) (fun c3 => ?_) (fun c3 => ?_)
              · have hx1 := of_decide_eq_false c3
                have hent := entO_w (A := A) (st := st) (sp := spB st m) (su := su) (be := n + 1) (w := w1) (x := x) (by omega) hx1
                have r5 := r4.tick 3 (by decide)
                have n5 := n3.tk3 3 (by decide)
                have n5B := n5.b (by omega)
                refine a_aload_n (pc := 158) dX3_change_158 rfl ?_
                refine a_gr (pc := 159) dX3_change_159 fX3_61 rfl ?_
                refine a_gr (pc := 162) dX3_change_162 fX3_111 rfl ?_
                refine a_iconst (pc := 165) (nI 3) dX3_change_165 (by decide) ?_
                refine a_dup2 (pc := 166) dX3_change_166 rfl rfl ?_
                refine a_ial (pc := 167) _ dX3_change_167 rfl rfl (by omega) ?_
                rw [r4.1 3 (by decide)]
                refine a_iconst (pc := 168) (nI 1) dX3_change_168 (by decide) ?_
                refine a_iadd (pc := 169) dX3_change_169 ?_
                try rw [nI_add]
                refine a_ast (pc := 170) _ dX3_change_170 rfl rfl (by omega) ?_
                refine a_aload_n (pc := 171) dX3_change_171 rfl ?_
                have f5 := f34.sA (a := 65) (by decide) (upd (gA g4 65) 3 (nI (w1.2.1 3 + 1)))
                have f45 := (Fr.rf [65] g4).sA (a := 65) (by decide) (upd (gA g4 65) 3 (nI (w1.2.1 3 + 1)))
                refine a_V0i (pc := 172) 2 dX3_change_172 lcX3_lookAround lX3_91 rfl rfl rfl (fit_of hR (by omega) rfl) (c_look_64 (d0 := d0) A (w1.1.1, w1.1.2 ++ [x]) st m su (n + 1) (Ed + j + 1) nb (tk w1.2 3) hst hm (q4.fr f45 (by decide)) (s4.fr f45 (by decide) (by decide)) (by omega) (hD.fr h8 f5 (by decide)) h8 (by omega) hsu ((f5.f (by decide) 10).trans h10) ((f5.f (by decide) 11).trans h11) ((f5.f (by decide) 12).trans h12) ((f5.f (by decide) 13).trans h13) r5 n5B (by have := n5.1; have e := tk_0 w1.2 3 0 (by decide); have := n3.1; omega)) rfl rfl (fun rr S' g6 hS hp => ?_)
                obtain ⟨rfl, s6, f6, b, rfl, hy, hno⟩ := hp
                have f56 := f5.tr (f6.mono (by decide))
                have q6 : CD 27 g6 (w1.1.1, w1.1.2 ++ [x]) := (q4.fr f45 (by decide)).fr f6 (by decide)
                have hP6 : PL 43 g6 L := (hP4.fr f45 (by decide)).fr f6 (by decide)
                refine a_istore_n (pc := 175) (ls' := [_, _, _, _, _]) dX3_change_175 (Nat.le_of_ble_eq_true rfl) rfl ?_
                refine a_iinc (pc := 176) (ls' := [_, _, _, _, _]) (nI 1) dX3_change_176 (by decide) rfl (Nat.le_of_ble_eq_true rfl) rfl ?_
                try rw [nI_add]
                refine a_goto (pc := 179) 101 dX3_change_179 (by decide) ?_
                by_cases hfit : FitQ (w1.1.1, w1.1.2 ++ [x])
                · obtain ⟨r6, hb6⟩ := hy hfit
                  have ent2 : entO A st (spB st m) su (n + 1) w1 x = some ((w1.1.1, w1.1.2 ++ [x]), momP A (w1.1.1, w1.1.2 ++ [x]) st (spB st m) su (n + 1) (tk w1.2 3)) := by rw [hent, momO_y hfit]
                  have n6 := (entO_N n3 ent2).1
                  have e6 : entsO A st (spB st m) su (n + 1) L w = entsO A st (spB st m) su (n + 1) (L.drop (j + 1)) ((w1.1.1, w1.1.2 ++ [x]), momP A (w1.1.1, w1.1.2 ++ [x]) st (spB st m) su (n + 1) (tk w1.2 3)) := by rw [e3, entsO_c ent2]
                  cases b with
                  | true =>
                    refine ih (j + 1) (by omega) g6 ((w1.1.1, w1.1.2 ++ [x]), momP A (w1.1.1, w1.1.2 ++ [x]) st (spB st m) su (n + 1) (tk w1.2 3)) hP6 f56 q6 s6 r6 n6 (by simp; omega) e6 (fun z => ?_)
                    rw [z] at hb6
                    exact of_decide_eq_true (by simpa using hb6.symm)
                  | false =>
                    refine stop g6 (j + 1) (Ed + j + 1) _ (by omega) hP6 f56 (by omega) (by omega) q6 s6 (Or.inr ?_)
                    cases nb with
                    | false => cases hb6
                    | true =>
                      refine ⟨rfl, fun w' hw' => ?_⟩
                      have hne : ¬ (momP A (w1.1.1, w1.1.2 ++ [x]) st (spB st m) su (n + 1) (tk w1.2 3)).1 2 = 0 := of_decide_eq_false (by simpa using hb6.symm)
                      rw [e6] at hw'
                      have h9 : (momP A (w1.1.1, w1.1.2 ++ [x]) st (spB st m) su (n + 1) (tk w1.2 3)).1 2 ≤ w'.2.1 2 := (entsO_N _ _ _ _ n6 hw').2
                      exact fun z => hne (by omega)
                · have hb6 := hno hfit
                  subst hb6
                  refine stop g6 (j + 1) (Ed + j + 1) _ (by omega) hP6 f56 (by omega) (by omega) q6 s6 (Or.inl ?_)
                  rw [e3, entsO, hent, momO_n hfit]
                  rfl
              · have hx1 := of_decide_eq_true c3
                have hent := entO_f (A := A) (st := st) (sp := spB st m) (su := su) (be := n + 1) (w := w1) (x := x) (by omega) hx1
                have r5 := r4.tick 4 (by decide)
                have n5 := n3.tk3 4 (by decide)
                refine a_aload_n (pc := 142) dX3_change_142 rfl ?_
                refine a_gr (pc := 143) dX3_change_143 fX3_61 rfl ?_
                refine a_gr (pc := 146) dX3_change_146 fX3_111 rfl ?_
                refine a_iconst (pc := 149) (nI 4) dX3_change_149 (by decide) ?_
                refine a_dup2 (pc := 150) dX3_change_150 rfl rfl ?_
                refine a_ial (pc := 151) _ dX3_change_151 rfl rfl (by omega) ?_
                rw [r4.1 4 (by decide)]
                refine a_iconst (pc := 152) (nI 1) dX3_change_152 (by decide) ?_
                refine a_iadd (pc := 153) dX3_change_153 ?_
                try rw [nI_add]
                refine a_ast (pc := 154) _ dX3_change_154 rfl rfl (by omega) ?_
                refine a_goto (pc := 155) 176 dX3_change_155 (by decide) ?_
                refine a_iinc (pc := 176) (ls' := [_, _, _, _, _]) (nI 1) dX3_change_176 (by decide) rfl (Nat.le_of_ble_eq_true rfl) rfl ?_
                try rw [nI_add]
                refine a_goto (pc := 179) 101 dX3_change_179 (by decide) ?_
                have f5 := f34.sA (a := 65) (by decide) (upd (gA g4 65) 4 (nI (w1.2.1 4 + 1)))
                have f45 := (Fr.rf [65] g4).sA (a := 65) (by decide) (upd (gA g4 65) 4 (nI (w1.2.1 4 + 1)))
                refine ih (j + 1) (by omega) _ ((w1.1.1, w1.1.2 ++ [x]), tk w1.2 4) (hP4.fr f45 (by decide)) f5 (q4.fr f45 (by decide)) (s4.fr f45 (by decide) (by decide)) r5 n5 (by simp; omega) (by rw [e3, entsO_c hent]) (fun z => ?_)
                show (tk w1.2 4).1 2 = 0
                rw [tk_0 _ 4 2 (by decide)]
                exact b3 z
      exact loop L.length 0 (by omega) g2 w hP (f2.mono (by decide)) q2 s2 (hr.fr f2 (by decide) (by decide) (by decide)) hN (by omega) rfl hnb
    · rw [decide_eq_false hroom]
      exact stop g2 0 Ed w.1 (by omega) hP (f2.mono (by decide)) (by omega) (by omega) q2 s2 (Or.inl (entsO_full _ _ h60 (by omega)))
  have e29 : eq32 (gA g1 29) (flQ w.1) := fun p hp => by
    rw [f1.a (by decide)]
    exact hq.2.2.1 p hp
  have e221 : gA g1 22 n = nI a.1 := by rw [f1.a (by decide)]; exact e22
  refine a_aload_n (pc := 11) dX3_change_11 rfl ?_
  refine a_gr (pc := 12) dX3_change_12 fX3_98 rfl ?_
  refine a_iload_n (pc := 15) dX3_change_15 rfl ?_
  refine a_ial (pc := 16) _ dX3_change_16 rfl rfl (by omega) ?_
  rw [e221]
  by_cases z0 : a.1 = 0
  · obtain ⟨k0, v0⟩ := e0 z0
    have hk := oka.2.1 z0
    rw [z0]
    refine a_if_neN (pc := 17) 53 dX3_change_17 (by decide) (by omega) (fun c1 => ?_) (fun c1 => ?_)
    · exact absurd rfl c1
    · refine a_aload_n (pc := 20) dX3_change_20 rfl ?_
      refine a_gr (pc := 21) dX3_change_21 fX3_50 rfl ?_
      refine a_aload_n (pc := 24) dX3_change_24 rfl ?_
      refine a_gr (pc := 25) dX3_change_25 fX3_12 rfl ?_
      refine a_gr (pc := 28) dX3_change_28 fX3_117 rfl ?_
      refine a_aload_n (pc := 31) dX3_change_31 rfl ?_
      refine a_gr (pc := 32) dX3_change_32 fX3_120 rfl ?_
      refine a_iload_n (pc := 35) dX3_change_35 rfl ?_
      refine a_ial (pc := 36) _ dX3_change_36 rfl rfl (by omega) ?_
      rw [show gA g1 23 n = nI a.2.1 by rw [f1.a (by decide)]; exact k0]
      refine a_aload_n (pc := 37) dX3_change_37 rfl ?_
      refine a_gr (pc := 38) dX3_change_38 fX3_123 rfl ?_
      refine a_iload_n (pc := 41) dX3_change_41 rfl ?_
      refine a_lal (pc := 42) _ dX3_change_42 rfl rfl (by omega) ?_
      rw [show gL g1 25 n = a.2.2.2 by rw [f1.l (by decide)]; exact v0]
      refine a_aload_n (pc := 43) dX3_change_43 rfl ?_
      refine a_gr (pc := 44) dX3_change_44 fX3_28 rfl ?_
      have hact : actL st (spB st m) a w.1 = chgQ (gA g1 29, []) st (spB st m) a.2.1 a.2.2.2 none := by
        rw [actL, if_pos z0, chgQ_now hok e29]
      match st, hst, mid, hact with
      | 0, _, mid, hact =>
        refine a_U4v (pc := 47) 3 dX3_change_47 rfl lcX1_planPut lX3_127_X4 rfl (fit_of hR (by omega) rfl) (c_planPut_43 (d0 := d0) 0 m a.2.1 a.2.2.2 (by decide) hk hm hP0 e4) rfl rfl (fun S' g2 hS hp => ?_)
        obtain ⟨rfl, hP2, f2⟩ := hp
        refine a_goto (pc := 50) 83 dX3_change_50 (by decide) ?_
        exact mid g2 (by rw [hact]; exact hP2) (f1.tr f2)
      | 1, _, mid, hact =>
        refine a_U4v (pc := 47) 1 dX3_change_47 rfl lcX1_planPut lX3_127_X2 rfl (fit_of hR (by omega) rfl) (c_planPut_43 (d0 := d0) 1 m a.2.1 a.2.2.2 (by decide) hk hm hP0 e4) rfl rfl (fun S' g2 hS hp => ?_)
        obtain ⟨rfl, hP2, f2⟩ := hp
        refine a_goto (pc := 50) 83 dX3_change_50 (by decide) ?_
        exact mid g2 (by rw [hact]; exact hP2) (f1.tr f2)
      | 2, _, mid, hact =>
        refine a_U4v (pc := 47) 7 dX3_change_47 rfl lcX1_planPut lX3_127_X8 rfl (fit_of hR (by omega) rfl) (c_planPut_43 (d0 := d0) 2 m a.2.1 a.2.2.2 (by decide) hk hm hP0 e4) rfl rfl (fun S' g2 hS hp => ?_)
        obtain ⟨rfl, hP2, f2⟩ := hp
        refine a_goto (pc := 50) 83 dX3_change_50 (by decide) ?_
        exact mid g2 (by rw [hact]; exact hP2) (f1.tr f2)
  · have o1 := oka.1
    have z1 : a.1 = 1 := by omega
    obtain ⟨k0, l0⟩ := e1 z1
    have hk := oka.2.2 z1
    rw [z1]
    refine a_if_neN (pc := 17) 53 dX3_change_17 (by decide) (by omega) (fun c1 => ?_) (fun c1 => ?_)
    · refine a_aload_n (pc := 53) dX3_change_53 rfl ?_
      refine a_gr (pc := 54) dX3_change_54 fX3_50 rfl ?_
      refine a_aload_n (pc := 57) dX3_change_57 rfl ?_
      refine a_gr (pc := 58) dX3_change_58 fX3_12 rfl ?_
      refine a_gr (pc := 61) dX3_change_61 fX3_117 rfl ?_
      refine a_aload_n (pc := 64) dX3_change_64 rfl ?_
      refine a_gr (pc := 65) dX3_change_65 fX3_120 rfl ?_
      refine a_iload_n (pc := 68) dX3_change_68 rfl ?_
      refine a_ial (pc := 69) _ dX3_change_69 rfl rfl (by omega) ?_
      rw [show gA g1 23 n = nI a.2.1 by rw [f1.a (by decide)]; exact k0]
      refine a_aload_n (pc := 70) dX3_change_70 rfl ?_
      refine a_gr (pc := 71) dX3_change_71 fX3_133 rfl ?_
      refine a_iload_n (pc := 74) dX3_change_74 rfl ?_
      refine a_ial (pc := 75) _ dX3_change_75 rfl rfl (by omega) ?_
      rw [show gA g1 24 n = nI a.2.2.1 by rw [f1.a (by decide)]; exact l0]
      refine a_aload_n (pc := 76) dX3_change_76 rfl ?_
      refine a_gr (pc := 77) dX3_change_77 fX3_28 rfl ?_
      have hact : actL st (spB st m) a w.1 = chgQ (gA g1 29, []) st (spB st m) a.2.2.1 (keyQ (gA g1 29, []) st a.2.1) (some a.2.1) := by
        rw [actL, if_neg z0, chgQ_now hok e29, keyQ_now hok e29 st hk.1]
      match st, hst, mid, hact with
      | 0, _, mid, hact =>
        refine a_U4v (pc := 80) 3 dX3_change_80 rfl lcX1_planMove lX3_136_X4 rfl (fit_of hR (by omega) rfl) (c_planMove_43 (d0 := d0) 0 m a.2.1 a.2.2.1 (by decide) hk.1 hk.2.1 hm hP0 e4) rfl rfl (fun S' g2 hS hp => ?_)
        obtain ⟨rfl, hP2, f2⟩ := hp
        exact mid g2 (by rw [hact]; exact hP2) (f1.tr f2)
      | 1, _, mid, hact =>
        refine a_U4v (pc := 80) 1 dX3_change_80 rfl lcX1_planMove lX3_136_X2 rfl (fit_of hR (by omega) rfl) (c_planMove_43 (d0 := d0) 1 m a.2.1 a.2.2.1 (by decide) hk.1 hk.2.1 hm hP0 e4) rfl rfl (fun S' g2 hS hp => ?_)
        obtain ⟨rfl, hP2, f2⟩ := hp
        exact mid g2 (by rw [hact]; exact hP2) (f1.tr f2)
      | 2, _, mid, hact =>
        refine a_U4v (pc := 80) 7 dX3_change_80 rfl lcX1_planMove lX3_136_X8 rfl (fit_of hR (by omega) rfl) (c_planMove_43 (d0 := d0) 2 m a.2.1 a.2.2.1 (by decide) hk.1 hk.2.1 hm hP0 e4) rfl rfl (fun S' g2 hS hp => ?_)
        obtain ⟨rfl, hP2, f2⟩ := hp
        exact mid g2 (by rw [hact]; exact hP2) (f1.tr f2)
    · exact absurd c1 (by decide)
