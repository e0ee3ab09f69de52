/-! ABSTRACT HEAPS: a cell is known by its place (0, 1, ..); ad gives a place its address -/
abbrev sE : Type := (Nat × vp_A) ⊕ (Nat × List Value)
abbrev sH : Type := Nat × (Nat → sE)
def sv (ad : Nat → Nat) (v : Value) : Value := match v with
  | .ref k => .ref (ad k)
  | v => v
def sa (ad : Nat → Nat) (a : vp_A) : vp_A := match a with
  | (n, .inr (.inr (.inr (.inr f)))) => (n, .inr (.inr (.inr (.inr (fun j => (f j).map ad)))))
  | a => a
def se (dA : Nat → ClassId) (ad : Nat → Nat) (c : sE) : va_E := match c with
  | .inl x => .inl (dA x.1, sa ad x.2)
  | .inr x => .inr (x.1, x.2.map (sv ad))
def sw (dA : Nat → ClassId) (ad : Nat → Nat) (h : sH) : va_W := (List.range h.1).map (fun k => (ad k, se dA ad (h.2 k)))
theorem sw_at {dA : Nat → ClassId} {ad : Nat → Nat} {h : sH} {a : Nat} (ha : a < h.1) : (sw dA ad h)[a]? = some (ad a, se dA ad (h.2 a)) := by
  simp [sw, ha]
theorem sw_set {dA : Nat → ClassId} {ad : Nat → Nat} {h : sH} {a : Nat} {c : sE} (ha : a < h.1) : (sw dA ad h).set a (ad a, se dA ad c) = sw dA ad (h.1, va_up h.2 a c) := by
  apply List.ext_getElem?
  intro i
  by_cases hi : i < h.1
  · by_cases e : i = a
    · subst e
      rw [List.getElem?_set_self (by simpa [sw] using ha), sw_at (h := (h.1, va_up h.2 i c)) ha]
      simp [va_up]
    · rw [List.getElem?_set_ne (fun q => e q.symm), sw_at hi, sw_at (h := (h.1, va_up h.2 a c)) hi]
      simp [va_up, e]
  · rw [List.getElem?_eq_none (by simp [sw]; omega), List.getElem?_eq_none (by simp [sw]; omega)]
theorem sv_map_set {ad : Nat → Nat} {fs : List Value} {k : Nat} {v : Value} : (fs.map (sv ad)).set k (sv ad v) = (fs.set k v).map (sv ad) := by
  rw [List.map_set]
theorem sv_at {ad : Nat → Nat} {fs : List Value} {k : Nat} {v : Value} (h : fs[k]? = some v) : (fs.map (sv ad))[k]? = some (sv ad v) := by
  rw [List.getElem?_map, h]; rfl
/-! locals -/
def slF (ad : Nat → Nat) : Nat → List (Option Value) → List (Nat × Value)
  | _, [] => []
  | i, none :: r => slF ad (i + 1) r
  | i, some v :: r => (i, sv ad v) :: slF ad (i + 1) r
theorem slF_mem {ad : Nat → Nat} {q : Nat × Value} : ∀ (ls : List (Option Value)) (i : Nat), q ∈ slF ad i ls ↔ ∃ (j : Nat) (v : Value), ls[j]? = some (some v) ∧ q = (i + j, sv ad v)
  | [], i => by simp [slF]
  | none :: r, i => by
    rw [slF, slF_mem r (i + 1)]
    constructor
    · rintro ⟨j, v, h1, h2⟩
      exact ⟨j + 1, v, by simpa using h1, by rw [h2]; congr 1; omega⟩
    · rintro ⟨j, v, h1, h2⟩
      cases j with
      | zero => simp at h1
      | succ j => exact ⟨j, v, by simpa using h1, by rw [h2]; congr 1; omega⟩
  | some w :: r, i => by
    rw [slF, List.mem_cons, slF_mem r (i + 1)]
    constructor
    · rintro (h | ⟨j, v, h1, h2⟩)
      · exact ⟨0, w, by simp, by rw [h]; rfl⟩
      · exact ⟨j + 1, v, by simpa using h1, by rw [h2]; congr 1; omega⟩
    · rintro ⟨j, v, h1, h2⟩
      cases j with
      | zero =>
        simp at h1
        subst h1
        exact Or.inl h2
      | succ j => exact Or.inr ⟨j, v, by simpa using h1, by rw [h2]; congr 1; omega⟩
def sl (ad : Nat → Nat) (ls : List (Option Value)) : List (Nat × Value) := slF ad 0 ls
theorem sl_mem {ad : Nat → Nat} {ls : List (Option Value)} {q : Nat × Value} : q ∈ sl ad ls ↔ ∃ v : Value, ls[q.1]? = some (some v) ∧ q.2 = sv ad v := by
  rw [sl, slF_mem]
  constructor
  · rintro ⟨j, v, h1, rfl⟩
    exact ⟨v, by simpa using h1, rfl⟩
  · rintro ⟨v, h1, h2⟩
    exact ⟨q.1, v, h1, by rw [← h2]; simp⟩
theorem sl_at {ad : Nat → Nat} {ls : List (Option Value)} {lc : Array Slot} {nL i : Nat} {v : Value} (h : lv_has lc nL (sl ad ls)) (hi : ls[i]? = some (some v)) : lc[i]? = some (.val (sv ad v)) := h.2.2 (i, sv ad v) (sl_mem.mpr ⟨v, hi, rfl⟩)
theorem sl_at1 {ad : Nat → Nat} {ls : List (Option Value)} {lc : Array Slot} {nL i : Nat} {v : Value} (h : lv_has lc nL (sl ad ls)) (hi : ls[i]? = some (some v)) : ∃ k : Nat, (sl ad ls)[k]? = some (i, sv ad v) := List.getElem?_of_mem (sl_mem.mpr ⟨v, hi, rfl⟩)
theorem sv_cat (ad : Nat → Nat) (v : Value) : (sv ad v).category = v.category := by cases v <;> rfl
/-- a slot of a long whose second half is overwritten -/
def clr (ls : List (Option Value)) (i : Nat) : List (Option Value) := match i with
  | 0 => ls
  | i + 1 => match ls[i]? with
    | some (some v) => if v.category = 2 then ls.set i none else ls
    | _ => ls
theorem clr_at {ls : List (Option Value)} {i j : Nat} {v : Value} (h : (clr ls i)[j]? = some (some v)) : ls[j]? = some (some v) ∧ ¬ (j + 1 = i ∧ v.category = 2) := by
  cases i with
  | zero => exact ⟨h, by omega⟩
  | succ i =>
    simp only [clr] at h
    split at h
    · rename_i w hw
      split at h
      · by_cases e : i = j
        · subst e
          have hl : i < ls.length := (List.getElem?_eq_some_iff.mp hw).1
          rw [List.getElem?_set_self hl] at h
          cases h
        · rw [List.getElem?_set_ne e] at h
          exact ⟨h, by omega⟩
      · rename_i hc
        refine ⟨h, fun q => ?_⟩
        have e : j = i := by omega
        subst e
        rw [hw] at h
        cases h
        exact hc q.2
    · rename_i hn
      refine ⟨h, fun q => ?_⟩
      have e : j = i := by omega
      subst e
      exact hn v h
def st1 (ls : List (Option Value)) (i : Nat) (v : Value) : List (Option Value) := (clr ls i).set i (some v)
def st2 (ls : List (Option Value)) (i : Nat) (v : Value) : List (Option Value) := ((clr ls i).set i (some v)).set (i + 1) none
theorem st1_sub {ad : Nat → Nat} {ls : List (Option Value)} {i : Nat} {v : Value} {q : Nat × Value} (h : q ∈ sl ad (st1 ls i v)) : q ∈ (i, sv ad v) :: (sl ad ls).filter (fun q => !(q.1 == i) && !(q.1 + 1 == i && q.2.category == 2)) := by
  obtain ⟨w, h1, h2⟩ := sl_mem.mp h
  by_cases e : i = q.1
  · rw [st1, ← e] at h1
    have hl : i < (clr ls i).length := by
      have := (List.getElem?_eq_some_iff.mp h1).1
      simpa using this
    rw [List.getElem?_set_self hl] at h1
    cases h1
    rw [List.mem_cons]
    left
    rw [← h2, e]
  · rw [st1, List.getElem?_set_ne e] at h1
    obtain ⟨h3, h4⟩ := clr_at h1
    refine List.mem_cons_of_mem _ (List.mem_filter.mpr ⟨sl_mem.mpr ⟨w, h3, h2⟩, ?_⟩)
    have e' : ¬ q.1 = i := fun z => e z.symm
    rw [h2, sv_cat]
    simp only [Bool.and_eq_true, Bool.not_eq_true', beq_eq_false_iff_ne, ne_eq, Bool.and_eq_false_iff]
    refine ⟨e', ?_⟩
    by_cases z : q.1 + 1 = i
    · exact Or.inr (fun c => h4 ⟨z, c⟩)
    · exact Or.inl z
theorem st2_sub {ad : Nat → Nat} {ls : List (Option Value)} {i : Nat} {v : Value} {q : Nat × Value} (h : q ∈ sl ad (st2 ls i v)) : q ∈ (i, sv ad v) :: (sl ad ls).filter (fun q => !(q.1 == i) && (!(q.1 == i + 1) && !(q.1 + 1 == i && q.2.category == 2))) := by
  obtain ⟨w, h1, h2⟩ := sl_mem.mp h
  by_cases e2 : i + 1 = q.1
  · rw [st2, ← e2] at h1
    have hl : i + 1 < ((clr ls i).set i (some v)).length := by
      have := (List.getElem?_eq_some_iff.mp h1).1
      simpa using this
    rw [List.getElem?_set_self hl] at h1
    cases h1
  · rw [st2, List.getElem?_set_ne e2] at h1
    by_cases e : i = q.1
    · rw [← e] at h1
      have hl : i < (clr ls i).length := by
        have := (List.getElem?_eq_some_iff.mp h1).1
        simpa using this
      rw [List.getElem?_set_self hl] at h1
      cases h1
      rw [List.mem_cons]
      left
      rw [← h2, e]
    · rw [List.getElem?_set_ne e] at h1
      obtain ⟨h3, h4⟩ := clr_at h1
      refine List.mem_cons_of_mem _ (List.mem_filter.mpr ⟨sl_mem.mpr ⟨w, h3, h2⟩, ?_⟩)
      have e' : ¬ q.1 = i := fun z => e z.symm
      have e2' : ¬ q.1 = i + 1 := fun z => e2 z.symm
      rw [h2, sv_cat]
      simp only [Bool.and_eq_true, Bool.not_eq_true', beq_eq_false_iff_ne, ne_eq, Bool.and_eq_false_iff]
      refine ⟨e', e2', ?_⟩
      by_cases z : q.1 + 1 = i
      · exact Or.inr (fun c => h4 ⟨z, c⟩)
      · exact Or.inl z
theorem lv_less {lc : Array Slot} {nL : Nat} {l l' : List (Nat × Value)} (h : lv_has lc nL l) (hs : ∀ q ∈ l', q ∈ l) : lv_has lc nL l' := ⟨h.1, h.2.1, fun q hq => h.2.2 q (hs q hq)⟩
/-- the locals at a method's entry -/
def sen (n : Nat) (vs : List Value) : List (Option Value) := (vs.flatMap fun v => if v.category = 2 then [some v, none] else [some v]) ++ List.replicate (n - (vs.flatMap fun v => if v.category = 2 then [some v, none] else [some v]).length) none
/-! the words: all that are kept, and those of nests -/
def gW : List Cond := lw_tbl.filter goodWord
def isN (w : Cond) : Bool := match w with
  | .methodLinkNest .. => true
  | .declares .. => true
  | _ => false
def nW : List Cond := lw_tbl.filter isN
theorem gW_in {w : Cond} (i : Nat) (h : lw_tbl[i]? = some w) (hg : goodWord w = true) : w ∈ gW := List.mem_filter.mpr ⟨List.mem_of_getElem? h, hg⟩
theorem nW_in {w : Cond} (i : Nat) (h : lw_tbl[i]? = some w) (hg : isN w = true) : w ∈ nW := List.mem_filter.mpr ⟨List.mem_of_getElem? h, hg⟩
theorem gW_good : GoodIn gW gW := fun w h => ⟨h, good_of_word (List.mem_filter.mp h).2⟩
theorem gW_cons {c : Cond} (h : c ∈ gW) : GoodIn gW (c :: gW) := fun w hw => (List.mem_cons.mp hw).elim (fun e => gW_good w (e ▸ h)) (fun z => gW_good w z)
theorem arrayOver_specA {args : Array Value} {first s : State} {o : Option Outcome} {idx : List Nat} {t : FieldType} (h : (Cond.arrayOver (.array t)).holds args first o s idx = true) :
    ∃ comp c k, s.vm.findClass (FieldType.array t).toString = some comp ∧ (s.vm.classes.findIdx? fun x => match x.kind with | .array component _ => component == comp | _ => false) = some c ∧ s.vm.classes[c]? = some k ∧ k.kind = .array comp (.array t) ∧
      s.vm.findClass ("[" ++ (FieldType.array t).toString) = some c := by
  simp only [Cond.holds, Cond.value, beq_iff_eq] at h
  cases hc : s.vm.findClass (FieldType.array t).toString with
  | none => simp [hc] at h
  | some comp =>
    simp only [hc, Option.bind_some, Option.bind_eq_some_iff, Option.map_eq_some_iff] at h
    obtain ⟨c, hi, k, hk, hb⟩ := h
    obtain ⟨hlt, hp, -⟩ := Array.findIdx?_eq_some_iff_getElem.mp hi
    have hkk : s.vm.classes[c] = k := (Array.getElem?_eq_some_iff.mp hk).2
    rw [hkk] at hp
    cases hkind : k.kind with
    | array component ty =>
      rw [hkind] at hb hp
      simp at hb hp
      exact ⟨comp, c, k, rfl, hi, hk, by rw [hkind, hp, hb.1], hb.2⟩
    | _ => rw [hkind] at hb; simp at hb
theorem va_AOA.moved {ty : FieldType} {u U : State} (hvm : u.vm.Alike U.vm) (h : va_AOA ty u) : va_AOA ty U := by
  obtain ⟨comp, c, k, h1, h2, h3, h4, h5⟩ := arrayOver_specA h
  obtain ⟨k', hk', he⟩ := hvm.2.2 _ _ h3
  have hi : (U.vm.classes.findIdx? fun (x : Class) => match x.kind with | .array component _ => component == comp | _ => false) = some c := by
    refine (va_idx_bare U.vm comp).symm.trans ?_
    first | rw [hvm.bare_eq] | rw [← hvm.bare_eq]
    exact (va_idx_bare u.vm comp).trans h2
  have hkind : k'.kind = .array comp (.array ty) := by rw [he]; exact h4
  have f1 : U.vm.findClass (FieldType.array ty).toString = some comp := by rw [hvm.findClass]; exact h1
  have f2 : U.vm.findClass ("[" ++ (FieldType.array ty).toString) = some c := by rw [hvm.findClass]; exact h5
  unfold va_AOA Cond.before Cond.holds
  simp only [Cond.value]
  rw [f1, Option.bind_some]
  refine (congrArg (fun o : Option Nat => (o.bind (fun c => (U.vm.classes[c]?).map fun (k : Class) => match k.kind with | .array _ ty' => decide (ty' = FieldType.array ty) && decide (U.vm.findClass ("[" ++ (FieldType.array ty).toString) = some c) | _ => false) == some true)) hi).trans ?_
  simp [hk', hkind, f2]
def sT (dA : Nat → ClassId) : List (ClassId × FieldType) := [(dA 0, .int), (dA 1, .long), (dA 2, .boolean), (dA 3, .object "OrderedDisc$Kind"), (dA 4, .array .int)]
/-- what is known of the classes -/
def Kn (D : va_G) (dA : Nat → ClassId) (U : State) : Prop := va_K D vwCl (sT dA) U ∧ (∀ w ∈ nW, va_Nw w U) ∧ va_AO "OrderedDisc$Kind" U ∧ va_AOA .int U
theorem nW_warm {w : Cond} {s U : State} (hw : isN w = true) (hW : s.WarmedH U.vm) (h : va_Nw w s) : va_Nw w U := by
  cases w with
  | methodLinkNest => exact va_Nw.warmM hW h
  | declares => exact va_Nw.warmD hW h
  | _ => cases hw
theorem nW_same {w : Cond} {s U : State} (hw : isN w = true) (hv : s.vm = U.vm) (h : va_Nw w s) : va_Nw w U := by
  cases w with
  | methodLinkNest => exact va_Nw.same rfl hv h
  | declares => exact va_Nw.same rfl hv h
  | _ => cases hw
theorem Kn.warm {D : va_G} {dA : Nat → ClassId} {s U : State} (hW : s.WarmedH U.vm) (h : Kn D dA s) : Kn D dA U :=
  ⟨va_K.moved hW.alike h.1, fun w hw => nW_warm (List.mem_filter.mp hw).2 hW (h.2.1 w hw), va_AO.moved hW.alike h.2.2.1, va_AOA.moved hW.alike h.2.2.2⟩
theorem Kn.same {D : va_G} {dA : Nat → ClassId} {s U : State} (hv : s.vm = U.vm) (h : Kn D dA s) : Kn D dA U := by
  have ha : s.vm.Alike U.vm := by rw [hv]; exact Vm.Alike.refl U.vm
  exact ⟨va_K.moved ha h.1, fun w hw => nW_same (List.mem_filter.mp hw).2 hv (h.2.1 w hw), va_AO.moved ha h.2.2.1, va_AOA.moved ha h.2.2.2⟩
/-! a method: its class, name, descriptor, code, locals, answer -/
abbrev Mi : Type := String × String × String × ByteArray × Nat × Option FieldType
abbrev mown (M : Mi) : String := M.1
abbrev mnm (M : Mi) : String := M.2.1
abbrev mds (M : Mi) : String := M.2.2.1
abbrev mcc (M : Mi) : ByteArray := M.2.2.2.1
abbrev mnL (M : Mi) : Nat := M.2.2.2.2.1
abbrev mret (M : Mi) : Option FieldType := M.2.2.2.2.2
abbrev my (M : Mi) : MethodName := ⟨M.1, M.2.1, M.2.2.1⟩
def mws (M : Mi) : List Cond := Cond.code (my M) (mcc M) (mnL M) (mret M) :: gW
/-! a run of it -/
abbrev Cx : Type := Program × Launch × Env × Room × State × MethodId × Array Value × List Frame × Method × Code × va_G × (Nat → ClassId) × (Nat → Prop) × Heap
abbrev xp (X : Cx) : Program := X.1
abbrev xl (X : Cx) : Launch := X.2.1
abbrev xe (X : Cx) : Env := X.2.2.1
abbrev xR (X : Cx) : Room := X.2.2.2.1
abbrev xs (X : Cx) : State := X.2.2.2.2.1
abbrev xm (X : Cx) : MethodId := X.2.2.2.2.2.1
abbrev xa (X : Cx) : Array Value := X.2.2.2.2.2.2.1
abbrev xb (X : Cx) : List Frame := X.2.2.2.2.2.2.2.1
abbrev xme (X : Cx) : Method := X.2.2.2.2.2.2.2.2.1
abbrev xc (X : Cx) : Code := X.2.2.2.2.2.2.2.2.2.1
abbrev xD (X : Cx) : va_G := X.2.2.2.2.2.2.2.2.2.2.1
abbrev xdA (X : Cx) : Nat → ClassId := X.2.2.2.2.2.2.2.2.2.2.2.1
abbrev xA (X : Cx) : Nat → Prop := X.2.2.2.2.2.2.2.2.2.2.2.2.1
abbrev xH (X : Cx) : Heap := X.2.2.2.2.2.2.2.2.2.2.2.2.2
def XOk (M : Mi) (X : Cx) : Prop := (xp X).tables.exec = Jvm.exec ∧ (xc X).code = mcc M ∧ (xc X).maxLocals = mnL M ∧ (xs X).vm.findClass (mown M) = some (xm X).cls ∧ (∀ w ∈ gW, w.before (xa X) (xs X) = true) ∧ (xme X).locks = false ∧ (xme X).name = mnm M ∧ (xme X).sig.returnType = mret M ∧ Kn (xD X) (xdA X) (xs X) ∧ ∀ q, (xH X).size ≤ q → xA X q
def Rl (M : Mi) (X : Cx) (ad : Nat → Nat) (h : sH) (ls : List (Option Value)) (H : Heap) (locs : List Loc) (lc : Array Slot) : Prop :=
  va_P (xD X) vwCl (sw (xdA X) ad h) H ∧ va_D (xA X) (sw (xdA X) ad h) ∧ va_S (xA X) (xH X) H locs ∧ lv_has lc (mnL M) (sl ad ls)
/-- the machine, at pc with these locals and this stack over this heap, comes to a state with Q -/
def AW (M : Mi) (X : Cx) (Q : State → Prop) (ad : Nat → Nat) (k n : Nat) (h : sH) (pc : Nat) (ls : List (Option Value)) (st : List Value) : Prop :=
  XOk M X → ∀ (H : Heap) (locs : List Loc) (lc : Array Slot), Rl M X ad h ls H locs lc → W (xp X) (xl X) (xe X) (xR X) (xs X) (xm X) (xa X) (xb X) (xme X) (xc X) H locs k n Q (F0 (xm X) pc lc (st.map (sv ad)))
