/-! THE CLAIM OUT OF ONE WALK OF THE LAW'S BODY. Your part is whole_start (and what it stands on); all else here is the same for every law, but numbers. -/
def R_law : String := "OrderedDiscLaw"
def lw_P (b : Addr) (xs : List Int32) (args : Array Value) (s : State) : Prop := args = #[.ref b] ∧ s.IntsAt b xs ∧ xs.length ≤ 2048 ∧ (Jvm.Cond.and given_1 narrow_1).before args s = true
def lw_Q (_ : Array Value) (s : State) (o : Outcome) (t : State) : Prop := o = .returned (some (.int 1)) ∧ Framed s o t [] 601024 7293034
def lw_Z (below : List Frame) (a : Array Value) (s : State) : State → Prop := fun t => ∃ o, t.status = .running ∧ Ended t below o ∧ lw_Q a s o t
/-- the law's own end, with 1 on the stack, nothing written that was there before, its room as the claim has it -/
theorem lw_ret {p : Program} {l : Launch} {e : Env} {s : State} {m : MethodId} {below : List Frame} {meth : Method} {c : Code} {b : Nat} (hx : p.tables.exec = Jvm.exec) (hb : c.code = code) (hr : meth.sig.returnType = ret) (hlocks : meth.locks = false) {pc : Nat} {H : Heap} {ls : Array Slot} (hdg : decode code pc = .ok (.ireturn, 1)) : W p l e room_1 s m #[Value.ref b] below meth c H [] 601024 7293034 (lw_Z below #[Value.ref b] s) (F0 m pc ls [.int 1]) := by
  intro T hT X
  obtain ⟨fs, hret, hrun, hended, hW, hframe⟩ := X.leave (v := some (.int 1)) (hlocks := hlocks) (fun h => by rw [hr] at h; cases h)
  have hmeth' : T.vm.method? m = some meth := X.method'
  refine ⟨T.setFrames fs, ?_, .returned (some (.int 1)), hrun, hended, rfl, ⟨_, rfl⟩, hW, hframe⟩
  jvm_step X.here [X.here.top, hx, hb, hdg, hmeth', hr, ret, narrow_b1]
  (try refine ⟨rfl, ?_⟩); (try refine ⟨rfl, ?_⟩)
  first | (intro acts; rw [hret _ acts rfl rfl rfl]) | rw [hret _ _ rfl rfl rfl]
  exact Steps.refl _
/-- what holds at the law's entry: the machine, the code, the tables' words (any of lw_tbl by 'hts w (by decide +kernel)'), the script of L ints xs at the cell b, what the Statement gives of the start (any of its parts by flat_of_before) -/
def lw_At (p : Program) (s : State) (m : MethodId) (meth : Method) (c : Code) (b L : Nat) (xs : Nat → Int32) : Prop :=
  p.tables.exec = Jvm.exec ∧ c.code = code ∧ meth.sig.returnType = ret ∧ c.maxLocals = 8 ∧ s.vm.findClass R_law = some m.cls ∧ (∀ w ∈ lw_tbl, w.before #[Value.ref b] s = true) ∧ va_X b L xs s s.heap ∧ b < s.heap.size ∧ meth.locks = false ∧ (Jvm.Cond.and given_1 narrow_1).before #[Value.ref b] s = true ∧ meth.name = "law"

theorem nW_tab {w : Cond} (h : isN w = true) : w.onTables = true := by
  cases w with
  | methodLinkNest => rfl
  | declares => rfl
  | _ => cases h
/-- what is known of the classes, at the law's entry -/
theorem kn_start {s : State} {A : Array Value} (hts : ∀ w ∈ lw_tbl, w.before A s = true) : ∃ (D : va_G) (dA : Nat → ClassId), Kn D dA s := by
  have hg : ∀ w ∈ gW, w.before A s = true := fun w hw => hts w (List.mem_filter.mp hw).1
  have hi : ∀ {w : Cond} (i : Nat), lw_tbl[i]? = some w → w.before A s = true := fun i h => hts _ (List.mem_of_getElem? h)
  have hc : ∀ c : Nat, ∃ (z : ClassId × (Nat → Nat)), ∀ q : vw_C, vwCl[c]? = some q → u_Kn s q.1 q.2.1 q.2.2 z.1 z.2 := by
    have one : ∀ {ci : Nat} {C : String} {T : u_T} {N : Nat} {ty : Nat → FieldType}, Cls ci C T N ty → (Cond.instantiable C N).before A s = true → ∃ (z : ClassId × (Nat → Nat)), ∀ q : vw_C, vwCl[ci]? = some q → u_Kn s q.1 q.2.1 q.2.2 z.1 z.2 := by
      intro ci C T N ty K h
      obtain ⟨cC, iS, hk⟩ := u_known hg K.2.1 h
      refine ⟨(cC, iS), fun q hq => ?_⟩
      rw [K.1] at hq
      cases hq
      exact hk
    intro c
    match c with
    | 0 => exact one klX0 (hi 80 (by decide +kernel))
    | 1 => exact one klX2 (hi 351 (by decide +kernel))
    | 2 => exact one klX3 (hi 256 (by decide +kernel))
    | 3 => exact one klX4 (hi 270 (by decide +kernel))
    | 4 => exact one klX5 (hi 200 (by decide +kernel))
    | 5 => exact one klX6 (hi 280 (by decide +kernel))
    | 6 => exact one klX7 (hi 227 (by decide +kernel))
    | 7 => exact one klX8 (hi 358 (by decide +kernel))
    | 8 => exact one klX9 (hi 147 (by decide +kernel))
    | 9 => exact one klX10 (hi 72 (by decide +kernel))
    | 10 => exact one klX11 (hi 953 (by decide +kernel))
    | c + 11 => exact ⟨(0, fun _ => 0), fun q hq => by cases hq⟩
  have ha : ∀ {ty : FieldType}, (Cond.arrayClass ty).before A s = true → (∀ cA : ClassId, s.vm.findClass ("[" ++ ty.toString) = some cA → va_RA s cA ty) → ∃ cA : ClassId, ArrOfT s cA ty ∧ va_RA s cA ty := by
    intro ty h h2
    obtain ⟨cA, kA, comp, f1, f2, f3⟩ := Cond.arrayClass_spec h
    exact ⟨cA, fun n z => ⟨(fun k hk => by cases hk), kA, f2, comp, f3⟩, h2 cA f1⟩
  have hAO : va_AO "OrderedDisc$Kind" s := va_AO.of (hi 347 (by decide +kernel))
  have hAA : va_AOA .int s := hi (w := .arrayOver (.array .int)) 268 (by decide +kernel)
  obtain ⟨c0, h0⟩ := ha (ty := .int) (hi 145 (by decide +kernel)) (fun _ h => h)
  obtain ⟨c1, h1⟩ := ha (ty := .long) (hi 254 (by decide +kernel)) (fun _ h => h)
  obtain ⟨c2, h2⟩ := ha (ty := .boolean) (hi 1074 (by decide +kernel)) (fun _ h => h)
  obtain ⟨c3, h3⟩ : ∃ cA : ClassId, ArrOfT s cA (.object "OrderedDisc$Kind") ∧ va_RA s cA (.object "OrderedDisc$Kind") := by
    obtain ⟨comp, cA, k, f1, f2, f3, f4, f5⟩ := Cond.arrayOver_spec hAO
    exact ⟨cA, fun n z => ⟨(fun k hk => by cases hk), k, f3, comp, f4⟩, ⟨k, comp, f3, f4, f1, f5⟩⟩
  obtain ⟨c4, h4⟩ : ∃ cA : ClassId, ArrOfT s cA (.array .int) ∧ va_RA s cA (.array .int) := by
    obtain ⟨comp, cA, k, f1, f2, f3, f4, f5⟩ := arrayOver_specA hAA
    exact ⟨cA, fun n z => ⟨(fun k hk => by cases hk), k, f3, comp, f4⟩, f5⟩
  refine ⟨(fun c => (Classical.choose (hc c)).1, fun c => (Classical.choose (hc c)).2), fun t => match t with | 0 => c0 | 1 => c1 | 2 => c2 | 3 => c3 | _ => c4, ⟨fun c q hq => Classical.choose_spec (hc c) q hq, fun k q hk => ?_⟩, fun w hw => va_Nw.of (nW_tab (List.mem_filter.mp hw).2) (hts w (List.mem_filter.mp hw).1), hAO, hAA⟩
  match k, hk with
  | 0, hk => cases hk; exact h0
  | 1, hk => cases hk; exact h1
  | 2, hk => cases hk; exact h2
  | 3, hk => cases hk; exact h3
  | 4, hk => cases hk; exact h4
  | k + 5, hk => cases hk
theorem tx_start {s : State} {b : Nat} {cX : ClassId} (hts : ∀ w ∈ lw_tbl, w.before #[Value.ref b] s = true) (hgv : (Jvm.Cond.and given_1 narrow_1).before #[Value.ref b] s = true) : Tx (fun q => s.heap.size ≤ q) s s.heap := by
  have hi : ∀ {w : Cond} (i : Nat), lw_tbl[i]? = some w → w.before #[Value.ref b] s = true := fun i h => hts _ (List.mem_of_getElem? h)
  have hs := flat_of_before _ hgv
  have hA : ∀ a : Nat, a < s.heap.size → ¬ s.heap.size ≤ a := fun a h => Nat.not_le.mpr h
  have str : ∀ {k : Nat} {tx : String}, (Cond.stringRef RX10 k tx).before #[Value.ref b] s = true → ∃ a, vk_R RX10 k tx a s := by
    intro k tx h
    have hf : ∃ c, s.vm.findClass RX10 = some c := by
      cases e : s.vm.findClass RX10 with
      | none =>
        simp only [Cond.before, Cond.holds, Cond.value, e] at h
        cases h
      | some c => exact ⟨c, rfl⟩
    obtain ⟨cc, hcc⟩ := hf
    obtain ⟨k, cf, i, a, hk, hcf, hcp, -, hr, hev⟩ := Cond.stringRef_spec hcc h
    exact ⟨a, vk_R.of h hev⟩
  refine ⟨⟨vx_Zqof (hi 871 (by decide +kernel)) (hi 62 (by decide +kernel)) (hs _ (by decide +kernel)) hA, vx_Zqof (hi 873 (by decide +kernel)) (hi 62 (by decide +kernel)) (hs _ (by decide +kernel)) hA⟩, ⟨va_Nw.of rfl (hi 846 (by decide +kernel)), va_Nw.of rfl (hi 936 (by decide +kernel)), va_Nc.of (hs (.not (.castable eI eS)) (by decide +kernel))⟩, str (hi 884 (by decide +kernel)), str (hi 925 (by decide +kernel)), str (hi 950 (by decide +kernel)), str (hi 943 (by decide +kernel))⟩
theorem whole_start {p : Program} {e : Env} {s : State} {m : MethodId} {below : List Frame} {meth : Method} {c : Code} (l : Launch) (hl : l.stackTraces = false) {b L : Nat} {xs : Nat → Int32} (hL : L ≤ 2048) (C0 : lw_At p s m meth c b L xs) : W p l e room_1 s m #[Value.ref b] below meth c s.heap [] 0 0 (lw_Z below #[Value.ref b] s) (entryFrame m ([Value.ref b] : List Value).toArray 8) := by
  obtain ⟨hx, hcd, hret, hml, hfc, hts, hX, hbl, hlk, hgv, hnm⟩ := C0
  obtain ⟨D, dA, hK⟩ := kn_start hts
  have hi : ∀ {w : Cond} (i : Nat), lw_tbl[i]? = some w → w.before #[Value.ref b] s = true := fun i h => hts _ (List.mem_of_getElem? h)
  have hKx : Kx s := ⟨va_Nw.of rfl (hi 1319 (by decide +kernel)), va_Nw.of rfl (hi 1320 (by decide +kernel)), va_Nw.of rfl (hi 1321 (by decide +kernel))⟩
  have hT : Tx (fun q => s.heap.size ≤ q) s s.heap := tx_start (cX := 0) hts hgv
  have C : XOk mL_law (p, l, e, room_1, s, m, #[Value.ref b], below, meth, c, D, dA, (fun q => s.heap.size ≤ q), s.heap) := ⟨hx, hcd, hml, hfc, fun w hw => hts w (List.mem_filter.mp hw).1, hlk, hnm, hret, hK, fun q h => h⟩
  rw [lg_entry_eq]
  have hw := w_alloc (X := (p, l, e, room_1, s, m, #[Value.ref b], below, meth, c, D, dA, (fun q => s.heap.size ≤ q), s.heap)) (Q := lw_Z below #[Value.ref b] s) (ad := fun _ => b) (b := b) (L := L) (zs := xs) ⟨⟨rfl, hl, hT⟩, hX, hbl, Nat.not_le.mpr hbl, rfl, hL⟩ hKx (by
    intro ad k n h ls hk hn C H locs lc r
    refine va_forget (fun q hq => r.2.2.1.2.2 q hq) ?_
    refine W.widen hk hn ?_
    exact lw_ret hx hcd hret hlk dL_law_1100)
  exact hw C s.heap [] _ ⟨(fun k q h => by cases k <;> cases h), ⟨(fun i j p q h => by cases i <;> cases h), (fun k q h => by cases k <;> cases h)⟩, va_S.rf, sen_has (fun _ => b) [.ref 107] (Nat.le_of_ble_eq_true rfl)⟩
set_option maxHeartbeats 4000000 in
theorem lw_walk (l : Launch) (hl : l.stackTraces = false) (b : Addr) (xs : List Int32) : MetFree l x (headSpec (Jvm.Cond.code x code maxLocals ret :: tables_1) room_1) (lw_P b xs) (fun _ _ _ _ _ => True) lw_Q := by
  refine MetFree.of_bodyS (code := code) (maxLocals := maxLocals) (ret := ret) (by decide) ?_ ?_
  · intro args s m h hn
    obtain ⟨meth, c, h1, h2, h3, h4, h5, h6, -, -⟩ := Cond.code_spec hn (atoms_spec (ws := Jvm.Cond.code x code maxLocals ret :: tables_1) h _ List.mem_cons_self)
    exact ⟨meth, c, h1, h2, h3, h4, h5, h6⟩
  · intro p e s m args below meth c s₁ B hml0 hP _
    obtain ⟨rfl, hx, hbd, hgv⟩ := hP
    obtain ⟨scr, harrAt, hlist, hof, hsmall⟩ := hx
    obtain ⟨hcb, hkn, -, -⟩ := State.arrayAt?_spec harrAt
    have hown : s.vm.findClass R_law = some m.cls := findClass_of_methodNamed B.named
    have hts0 : ∀ c ∈ (Jvm.Cond.code x code maxLocals ret :: tables_1), c.before #[Value.ref b] s = true := atoms_spec (ws := Jvm.Cond.code x code maxLocals ret :: tables_1) B.pre
    have hts : ∀ w ∈ lw_tbl, w.before #[Value.ref b] s = true := k2_hts_sels lw_privs (fun w hw => hts0 w (List.mem_cons_of_mem _ hw)) lw_privs_ok
    have hml : c.maxLocals = 8 := B.maxLocals_eq (hts0 _ List.mem_cons_self)
    have X₀ : Stand p l e room_1 s m #[Value.ref b] below meth c s₁ [] 0 0 := Stand.of_body B
    have hh0 : s₁.heap = s.heap := by rw [B.state]; rfl
    have hsz : scr.slots.size = xs.length := by rw [← Array.length_toList, hlist, List.length_map]
    have hval : ∀ j : Nat, j < xs.length → scr.slots[j]? = some (.int (xs.getD j 0)) := fun j hj => by
      rw [← Array.getElem?_toList, hlist]
      simp [hj]
    have hbl : b < s.heap.size := (Array.getElem?_eq_some_iff.mp hcb).1
    have hX : va_X b xs.length (fun j => xs.getD j 0) s s.heap := ⟨scr, hcb, hof, hkn, hsz, hval⟩
    have K : W p l e room_1 s m #[Value.ref b] below meth c s₁.heap [] 0 0 (lw_Z below #[Value.ref b] s) (entryFrame m ([Value.ref b] : List Value).toArray 8) := by
      rw [hh0]
      exact whole_start l hl hbd ⟨B.exec, B.bytes, B.returns, hml, hown, hts, hX, hbl, B.notSynchronized, hgv, (name_of_methodNamed B.named B.method).1⟩
    obtain ⟨t, a1, o, b1, b2, b3⟩ := K s₁ rfl X₀
    exact ⟨t, o, a1, b1, b2, b3⟩
theorem lw_pre_spec {args : Array Value} {s : State} (h : (Jvm.Cond.and given_1 narrow_1).before args s = true) (hr : rest_1_c.before args s = true) : ∃ (b : Addr) (xs : List Int32), lw_P b xs args s := by
  have hs := flat_of_before _ h
  have hq := flat_of_before _ hr
  have hc : (Cond.count 1).before args s = true := hs _ (by decide +kernel)
  have harr : (Cond.arrayOf (.arg 0) .int).before args s = true := hs _ (by decide +kernel)
  have hle : (Cond.le (.length (.arg 0)) (.int 2048)).before args s = true := hs _ (by decide +kernel)
  have hlen : (Cond.isInt (.length (.arg 0))).before args s = true := hq _ (by decide +kernel)
  have hall : (Cond.all (.arg 0) (.isInt (.elem (.arg 0) (.index 0)))).before args s = true := hq _ (by decide +kernel)
  obtain ⟨b, xs, hb, hx⟩ := State.ints_of_pre rfl harr hlen hall
  have hsm : xs.length < 2 ^ 31 := hx.choose_spec.2.2.2
  have hev : (Term.length (.arg 0)).eval args s none [] s = some (.int xs.length.toInt32) := hx.length_eval hb
  have hv := Cond.le_ints hev (show (Term.int 2048).eval args s none [] s = some (.int 2048) from rfl)
  have hd : xs.length.toInt32 ≤ 2048 := by
    simpa [Cond.before, Cond.holds, hv] using hle
  have hN : xs.length ≤ 2048 := (Int32.ofNat_le_ofNat hsm (by decide)).mp (show Int32.ofNat xs.length ≤ Int32.ofNat 2048 from hd)
  exact ⟨b, xs, Cond.one_arg hc (show args[0]? = some (.ref b) from hb), hx, hN, h⟩
theorem lw_comes (l : Launch) (hl : l.stackTraces = false) : Comes l x (Jvm.Cond.code x code maxLocals ret :: tables_1) room_1 (fun tb e args s => Calls_1 tb e args s ∧ rest_1 tb e args s ∧ Pre_1 tb e args s)
    (fun _ _ args s o t => lw_Q args s o t) := by
  intro p e ha hc hk s m args below hf hfit hheap happ hpre
  obtain ⟨b, xs, hP⟩ := lw_pre_spec hpre.2.2 hpre.2.1
  obtain ⟨k, o, h1, h2, h3, hQ⟩ := lw_walk l hl b xs p e ha hc hk s m args below hf ((Spec.applies_iff_loose hf).mp happ).1 hP trivial
  exact ⟨k, o, h1, h2, h3, hQ⟩
theorem lw_frame {s t : State} {o : Outcome} {args : Array Value} (h : Framed s o t [] 601024 7293034) :
    Framed s o t (fieldLocs frame_1_writes args s ++ arrayLocs frame_1_arrays args s ++ staticLocs frame_1_statics s) 601024 7293034 := h
theorem lw_limb (L : Cond) (hL : ∀ (args : Array Value) (s t : State), L.after args s (.returned (some (.int 1))) t = true) :
    ArmFor flags0 classFile x code maxLocals ret World_1 tables_1 room_1 Calls_1 rest_1 Pre_1
      (fun tb e a s o t => postC L tb e a s o t ∧ Framed s o t (fieldLocs frame_1_writes a s ++ arrayLocs frame_1_arrays a s ++ staticLocs frame_1_statics s) 601024 7293034) := by
  intro l z1 z2 z3 p e ha hc hk s m args below hf hfit hheap happ hpre
  have hl : l.stackTraces = false := by
    unfold Launch.stackTraces
    first
      | rw [show l.flags = flags0 from z1]; decide
      | rw [show l.flags = flags0 from z2]; decide
      | rw [show l.flags = flags0 from z3]; decide
  obtain ⟨k, o, h1, h2, h3, rfl, hF⟩ := lw_comes l hl p e ha hc hk s m args below hf hfit hheap happ hpre
  exact ⟨k, _, h1, h2, h3, hL args s _, lw_frame hF⟩
theorem i_vc : Claimed_1_1 ∧ Claimed_1_2 := ⟨lw_limb limb_1_1 (fun args s t => by simp [limb_1_1, Cond.after, Cond.holds, Cond.value]), lw_limb limb_1_2 (fun args s t => Cond.after_iff.mpr (by
  first | (rw [show limb_1_2 = Cond.eq .result (.int 1) from rfl, Cond.eq_ints (x := 1) (y := 1) rfl rfl]; simp; done) | (simp [limb_1_2, Cond.value, Term.eval]; done)))⟩
