/-! a static method that the named class inherits -/
section SU
theorem su_cold {Q : Unit → (Bool → List Action → State → Prop)} {E : Control → List Action → State → Prop} {e : Env} {d : Bool} {acts : List Action} {s s0 : State} {f : JFrame} {index ci n c : Nat} {m : MethodId} {dk ck : Class} {cf : ClassFile} {name desc : String} (hs : s.topJava?.isSome) (hp : e.platform.polymorphicOnlyByInvokevirtual = true)
    (hW : s0.WarmedH s.vm) (hE : s0.MethodEntryUp e s.vm f.method.cls index c m ci) (h1 : s0.vm.classes[f.method.cls]? = some dk) (h2 : dk.cf = some cf)
    (h3 : cf.constantPool[index]? = some (if false then .interfaceMethodref ci n else .methodref ci n)) (h4 : cf.constantPool.nameAndType? n = some (name, desc))
    (hck : s0.vm.classes[c]? = some ck) (hno : (ck.methods.any fun x => x.name == name && !x.isStatic && signaturePolymorphic ck x) = false) :
    Jvm.Sem.wp (Jvm.Op.invokestatic.sem index) Q E e d acts (s.setTop f) ↔ Jvm.Sem.wp (Jvm.Op.invokestatic.sem index) Q E e d acts ((s.setVm (s.vm.calledUp f.method.cls ci index c m)).setTop f) := by
  obtain ⟨hgc, hrc, hW1, hgm⟩ := hE.classFirst
  obtain ⟨ka, hka, ea⟩ := hW.alike.2.2 _ _ h1
  obtain ⟨kb, hkb, eb⟩ := hE.warmed.alike.2.2 _ _ h1
  obtain ⟨ca, hca, eca⟩ := hW1.alike.2.2 _ _ hck
  obtain ⟨cb, hcb, ecb⟩ := hE.warmed.alike.2.2 _ _ hck
  have ra := memberRef_ask_via (e := e) hka (by rw [ea]; exact h2) h3 h4
  have rb := memberRef_ask_via (e := e) hkb (by rw [eb]; exact h2) h3 h4
  have na : (ca.methods.any fun x => x.name == name && !x.isStatic && signaturePolymorphic ca x) = false := by rw [eca]; exact hno
  have nb : (cb.methods.any fun x => x.name == name && !x.isStatic && signaturePolymorphic cb x) = false := by rw [ecb]; exact hno
  have t1 : (s.setVm (s.vm.noted f.method.cls ci (.cls c))).topJava?.isSome := hs
  have t2 : (s.setVm (s.vm.calledUp f.method.cls ci index c m)).topJava?.isSome := hs
  have la : ∀ {Q' : ClassId → (Bool → List Action → State → Prop)} {d' : Bool} {acts' : List Action}, Jvm.Sem.wp (Jvm.resolveClassAt ci) Q' E e d' acts' (s.setTop f) ↔ Q' c d' acts' ((s.setVm (s.vm.noted f.method.cls ci (.cls c))).setTop f) :=
    Jvm.W.resolveClassAt_links (t := s.setTop f) (State.method?_setTop f hs) hgc
  have lb : ∀ {Q' : MethodId → (Bool → List Action → State → Prop)} {d' : Bool} {acts' : List Action}, Jvm.Sem.wp (Jvm.resolveMethodAt index) Q' E e d' acts' ((s.setVm (s.vm.noted f.method.cls ci (.cls c))).setTop f) ↔ Q' m d' acts' ((s.setVm (s.vm.calledUp f.method.cls ci index c m)).setTop f) :=
    Jvm.W.resolveMethodAt_links (t := (s.setVm (s.vm.noted f.method.cls ci (.cls c))).setTop f) (State.method?_setTop f t1) hgm
  simp [Jvm.Op.invokestatic.sem, hp, Seam.memberRefOf, State.method?_setTop f hs, State.method?_setTop f t2, ra, rb, la, Jvm.W.resolveClassAt_ready (s := (s.setVm (s.vm.calledUp f.method.cls ci index c m)).setTop f) (State.method?_setTop f t2) hE.classReady,
    hca, hcb, na, nb, lb, Jvm.W.resolveMethodAt_ready (s := (s.setVm (s.vm.calledUp f.method.cls ci index c m)).setTop f) (State.method?_setTop f t2) hE.ready, -Array.any_eq_true]
variable {p : Program} {l : Launch} {e : Env} {R : Room} {s : State} {m : MethodId} {args : Array Value} {below : List Frame} {meth : Method} {c : Code} {T : State} {locs : List Loc} {cells slots : Nat}
theorem su_step (X : Stand p l e R s m args below meth c T locs cells slots) (hexec : p.tables.exec = Jvm.exec) {own owner : String} {index : Nat} {x : MethodName} (hown : s.vm.findClass own = some m.cls) (hlink : (Cond.methodLink own index x).before args s = true)
    (hsame : (Cond.sameMethod x.cls owner x.name x.desc).before args s = true) (ho : owner ≠ "java/lang/invoke/MethodHandle" ∧ owner ≠ "java/lang/invoke/VarHandle")
    {mm : MethodId} {mt : Method} {kk : Class} (hn : s.methodNamed? ⟨owner, x.name, x.desc⟩ = some mm) (hm : s.vm.method? mm = some mt) (hst : mt.isStatic = true) (hk : s.vm.classes[mm.cls]? = some kk) (hin : kk.init = .initialized)
    {g : JFrame} (hg : g.method = m) {As rest : List Value} (hlen : As.length = mt.sig.parameters.length) (hstack : g.stack = As.reverse ++ rest) (hdg : decode c.code g.pc = .ok (.invokestatic index, 3)) :
    ∃ vm', Stand p l e R s m args below meth c (T.setVm vm') locs cells slots ∧ ∀ target, (∀ acts, Steps p.tables e below (doInvoke e ((T.setVm vm').setTop { g with stack := rest }) acts mm As.toArray).1 target) → Steps p.tables e below (T.setTop g) target := by
  have p1 : e.platform.magicAccessors = ({} : Platform).magicAccessors := by rw [X.admits.platform]
  have p2 : e.platform.polymorphicOnlyByInvokevirtual = true := by rw [X.admits.platform]
  obtain ⟨cn, ck, r1, hcn, hck, hni, hf, hn1⟩ := Cond.sameMethod_found hsame
  cases hn.symm.trans hn1
  obtain ⟨ci, hl, hr⟩ := Cond.methodLink_specUp hown hcn hck hni hf hlink e.platform p1 (by rw [X.admits.platform])
  have hE : s.MethodEntryUp e T.vm m.cls index cn mm ci := State.methodEntryUp X.warmed hl hr
  obtain ⟨kx, hkx, hnx⟩ := className_of_methodNamed hn
  cases hk.symm.trans hkx
  obtain ⟨dk, cfile, nt, mname, mdesc, ck', _, _, hd, hcf, hcp, hnt, -, -, hck', -, hnopoly, -⟩ := hl.here
  cases hck.symm.trans hck'
  have al := hE.warmed.alike
  obtain ⟨d2, hd2, ed2⟩ := al.2.2 _ _ hd
  obtain ⟨k2, hk2, ek2⟩ := al.2.2 _ _ hk
  obtain ⟨c2, hc2, ec2⟩ := al.2.2 _ _ hck
  have no1 : (ck.methods.any fun y => y.name == mname && !y.isStatic && signaturePolymorphic ck y) = false := by simp [hnopoly]
  have no2 : (c2.methods.any fun y => y.name == mname && !y.isStatic && signaturePolymorphic c2 y) = false := by rw [ec2]; exact no1
  have hcp' : cfile.constantPool[index]? = some (if false then .interfaceMethodref ci nt else .methodref ci nt) := hcp
  refine ⟨T.vm.calledUp m.cls ci index cn mm, X.noted hE.warmed, fun target hrest => ?_⟩
  subst hg
  jvm_step X.here [hexec, hdg, su_cold (e := e) (s := T) (s0 := s) (f := g) X.here.top p2 X.warmed hE hd hcf hcp' hnt hck no1,
    Jvm.Op.invokestatic.wp_ready (e := e) (s := T.setVm (T.vm.calledUp g.method.cls ci index cn mm)) (k := k2) (meth := mt) (m := mm) (args := As) (rest := rest) (f := g)
      X.here.top ⟨ci, mname, mdesc, false, cn, c2, memberRef_ask_via (e := e) hd2 (by rw [ed2]; exact hcf) hcp' hnt, hE.classReady, hc2, no2⟩ hE.ready hk2
      (by show (T.vm.calledUp g.method.cls ci index cn mm).method? mm = some mt; rw [al.method?]; exact hm)
      (by rw [ek2]; show signaturePolymorphic kk mt = false; simp [signaturePolymorphic, hnx, ho.1, ho.2]) hst (by rw [ek2]; exact hin) hlen hstack]
  exact fun acts => hrest _
theorem su_call (X : Stand p l e R s m args below meth c T locs cells slots) (hexec : p.tables.exec = Jvm.exec) {own : String} {index : Nat} {x y : MethodName} {bytes : ByteArray} {maxL : Nat} {ret : Option FieldType}
    (hown : s.vm.findClass own = some m.cls) (hlink : (Cond.methodLink own index x).before args s = true) (hsame : (Cond.sameMethod x.cls y.cls x.name x.desc).before args s = true) (hyx : y = ⟨y.cls, x.name, x.desc⟩) (hstat : (Cond.static y).before args s = true) (hinit : (Cond.initialized y.cls).before args s = true)
    (hcode : (Cond.code y bytes maxL ret).before args s = true) (hy : y.cls ≠ "java/lang/invoke/MethodHandle" ∧ y.cls ≠ "java/lang/invoke/VarHandle")
    {W : Nat} {Pre : Pt → Array Value → Prop} {Post : Pt → Array Value → Option Value → Pt → Prop} (hK : Back l R p e below s args y 3 W Pre Post)
    {g : JFrame} (hg : g.method = m) (hsize : g.locals.size = c.maxLocals) {As rest : List Value} (hlen : ∀ sig, parseMethodDescriptor y.desc = some sig → As.length = sig.parameters.length)
    (hstack : g.stack = As.reverse ++ rest) (hW : 2 * g.monitorRoom + (rest.map fun v => v.category).sum ≤ W) (hdg : decode c.code g.pc = .ok (.invokestatic index, 3))
    (hpre : ∀ vm1, s.WarmedH vm1 → Pre ⟨T.setVm vm1, locs, cells, slots⟩ As.toArray) :
    ∃ (v : Option Value) (vm1 : Vm) (B : Pt), s.WarmedH vm1 ∧ Stand p l e R s m args below meth c B.U B.locs B.cells B.slots ∧ Post ⟨T.setVm vm1, locs, cells, slots⟩ As.toArray v B ∧
      ∀ target, Steps p.tables e below (B.U.setTop { g with pc := g.pc + 3, stack := v.toList ++ rest }) target → Steps p.tables e below (T.setTop g) target := by
  obtain ⟨mk, hnamed⟩ := Cond.code_named hcode
  obtain ⟨mt, cM, hmt, -, -, -, -, -, -, hsig⟩ := Cond.code_spec hnamed hcode
  have hst : mt.isStatic = true := Cond.static_spec hnamed hmt hstat
  obtain ⟨kP, hkP, -⟩ := className_of_methodNamed hnamed
  have hin : kP.init = .initialized := Cond.initialized_spec (findClass_of_methodNamed hnamed) hkP hinit
  have hn2 : s.methodNamed? ⟨y.cls, x.name, x.desc⟩ = some mk := by rw [← hyx]; exact hnamed
  obtain ⟨vm1, X1, st1⟩ := su_step X hexec hown hlink hsame hy hn2 hmt hst hkP hin (g := g) hg (As := As) (rest := rest) (hlen _ hsig) hstack hdg
  obtain ⟨v, B, X2, hpost, hsteps⟩ := hK m meth c ⟨T.setVm vm1, locs, cells, slots⟩ { g with stack := rest } (.invokestatic index) mk As.toArray X1 hg hsize hdg hW (X1.named hnamed) (hpre vm1 X1.warmed)
  exact ⟨v, vm1, B, X1.warmed, X2, hpost, fun target h => st1 _ fun acts => by rw [doInvoke_state]; exact hsteps.trans h⟩
end SU
section SV
variable {M : Mi} {X : Cx} {Q : State → Prop} {ad : Nat → Nat} {k n : Nat} {S : sH} {g : GH} {pc : Nat} {ls : List (Option Value)} {st : List Value}
theorem call_SUl {M' : Mi} {d' idx nn : Nat} {x : MethodName} {vs : List Value} {Po : Int64 → sH → GH → Prop} (d : decode (mcc M) pc = .ok (.invokestatic idx, 3)) (LC : LkC M' nn) (L1 : Cond.methodLink (mown M) idx x ∈ gW) (L2 : Cond.sameMethod x.cls (mown M') x.name x.desc ∈ gW) (L3 : Cond.static (my M') ∈ gW) (hyx : my M' = ⟨mown M', x.name, x.desc⟩) (hR : Fit X M' d' k n) (cc : ACl M' d' S g vs Po) (hn : vs.length = nn) (hw : Nat.ble (st.map Value.category).sum 8 = true)
    (kk : ∀ (r : Int64) (S' : sH) (g' : GH), S'.1 = S.1 → Po r S' g' → AW M X Q ad k n (conc S' g') (pc + 3) ls (.long r :: st)) : AW M X Q ad k n (conc S g) pc ls (vs.reverse ++ st) := by
  refine core_l cc (fun C H locs lc r hM => ?_) kk
  have G := C.2.2.2.2.1
  have hK : Back (xl X) (xR X) (xp X) (xe X) (xb X) (xs X) (xa X) (my M') 3 8 (PreOf (xR X) 0 0 _) (PostOf _ 0 0 _) := back_of (bytes := mcc M') (maxL := mnL M') (ret := mret M') hM Wd.blind rfl rfl hR.1.1 hR.1.2 (pay_in G (gW_cons LC.1)) List.mem_cons_self (fun a' U hW => word_at hW (Or.inl (by first | rfl | simp [Cond.onTables, Cond.keeps, Cond.steady])) (G _ LC.2.2.1))
  intro T hT Y
  obtain ⟨v, vm1, ⟨U', l2, c2, s2⟩, hW1, Y', ⟨g', mk, t, L, e1, e2, hq, h1, hL, h2, h3⟩, stp⟩ := su_call (g := F0 (xm X) pc lc ((vs.reverse ++ st).map (sv ad))) Y C.1 (bytes := mcc M') (maxL := mnL M') (ret := mret M') C.2.2.2.1 (G _ L1) (G _ L2) hyx (G _ L3) (G _ LC.2.2.1) (G _ LC.1) ⟨LC.2.1.1, LC.2.1.2.1⟩ hK rfl (r.2.2.2.1.trans C.2.2.1.symm) (As := vs.map (sv ad)) (rest := st.map (sv ad)) (fun sig h => by
      have h2 := LC.2.1.2.2
      rw [h] at h2
      rw [List.length_map, hn]
      exact (Option.some.inj h2).symm) (by simp [F0]) (lv_room (rest_cat st (Nat.le_of_ble_eq_true hw))) (by rw [C.2.1]; exact d)
    (fun vm1 hW1 => ⟨by simpa using hR.2.1, by simpa using hR.2.2, Rl.pre C r (T.setVm vm1) hT hW1⟩)
  dsimp only [Pt.U, Pt.locs, Pt.cells, Pt.slots] at Y' e1 e2 h1 h2 h3 stp
  subst h1; subst h2; subst h3
  exact ⟨v, (T.setVm vm1).calling g' mk (vs.map (sv ad)).toArray, t, U', L, hT, Y', hL, e1, e2, hq, stp⟩
end SV
