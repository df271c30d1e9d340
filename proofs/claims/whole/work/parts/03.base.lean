/-! MY LAYER. One world of 111 cells behind one base address (NearMarks object and all that it holds: 0 .. 94; the reference: 95 .. 110), what they hold told by two maps: mi (ints, booleans: fields by slot, arrays by index) and ml (longs). References never change behind the constructors. -/
def OM : Type := Nat × va_G × (Nat → ClassId)
def ads (o : OM) (i : Nat) : Nat := o.1 + i
abbrev MI : Type := Nat → Nat → Int32
abbrev ML : Type := Nat → Nat → Int64
def uf {α : Type} (f : Nat → α) (k : Nat) (v : α) : Nat → α := fun b => if b = k then v else f b
def u2 {α : Type} (f : Nat → Nat → α) (i k : Nat) (v : α) : Nat → Nat → α := fun a => if a = i then uf (f i) k v else f a
theorem u2_s {α : Type} (f : Nat → Nat → α) (i k : Nat) (v : α) : u2 f i k v i = uf (f i) k v := by simp [u2]
theorem u2_n {α : Type} (f : Nat → Nat → α) {i j : Nat} (k : Nat) (v : α) (h : j ≠ i) : u2 f i k v j = f j := by simp [u2, h]
theorem uf_s {α : Type} (f : Nat → α) (k : Nat) (v : α) : uf f k v k = v := by simp [uf]
theorem uf_n {α : Type} (f : Nat → α) {k j : Nat} (v : α) (h : j ≠ k) : uf f k v j = f j := by simp [uf, h]
def aI (o : OM) (n : Nat) (f : Nat → Int32) : va_E := .inl (o.2.2 0, n, .inl f)
def aJ (o : OM) (n : Nat) (g : Nat → Int64) : va_E := .inl (o.2.2 1, n, .inr (.inl g))
def aZ (o : OM) (n : Nat) (f : Nat → Int32) : va_E := .inl (o.2.2 2, n, .inl f)
def aIm (o : OM) (n : Nat) (f : Nat → Option Nat) : va_E := .inl (o.2.2 3, n, .inr (.inr (.inr (.inr f))))
def aSt (o : OM) (n : Nat) (f : Nat → Option Nat) : va_E := .inl (o.2.2 4, n, .inr (.inr (.inr (.inr f))))
/-- fields of each class: what is held by slot, references by the cells' order -/
def fSt (o : OM) (i : Nat) (f : Nat → Int32) (g : Nat → Int64) : List Value := [.long (g 0), .long (g 1), .int (f 2), .ref (ads o (i + 1)), .ref (ads o (i + 2))]
def fPt (o : OM) (i : Nat) (f : Nat → Int32) (_ : Nat → Int64) : List Value := [.ref (ads o (i + 1)), .ref (ads o (i + 2)), .int (f 2)]
def fIm (o : OM) (i : Nat) (f : Nat → Int32) (_ : Nat → Int64) : List Value := [.ref (ads o (i + 1)), .int (f 1), .int (f 2)]
def fPa (o : OM) (i : Nat) (f : Nat → Int32) (_ : Nat → Int64) : List Value := [.ref (ads o (i + 1)), .int (f 1), .int (f 2)]
def fGr (o : OM) (i : Nat) (f : Nat → Int32) (_ : Nat → Int64) : List Value := [.ref (ads o (i + 1)), .ref (ads o (i + 2)), .int (f 2)]
def fCo (o : OM) (i : Nat) (_ : Nat → Int32) (g : Nat → Int64) : List Value := [.ref (ads o (i + 1)), .long (g 1)]
def fSi (o : OM) (i : Nat) (f : Nat → Int32) (_ : Nat → Int64) : List Value := [.ref (ads o (i + 1)), .ref (ads o (i + 2)), .ref (ads o (i + 3)), .int (f 3)]
def fBk (o : OM) (i : Nat) (f : Nat → Int32) (_ : Nat → Int64) : List Value := [.ref (ads o (i + 1)), .ref (ads o (i + 2)), .ref (ads o (i + 3)), .int (f 3)]
def fDr (_ : OM) (_ : Nat) (f : Nat → Int32) (_ : Nat → Int64) : List Value := [.int (f 0)]
def fNm (o : OM) (_ : Nat) (_ : Nat → Int32) (_ : Nat → Int64) : List Value := [.ref (ads o 1), .ref (ads o 4), .ref (ads o 66), .ref (ads o 75), .ref (ads o 78), .ref (ads o 81), .ref (ads o 84), .ref (ads o 86), .ref (ads o 90), .ref (ads o 94)]
def fMo (o : OM) (_ : Nat) (f : Nat → Int32) (_ : Nat → Int64) : List Value := [.ref (ads o 96), .ref (ads o 97), .int (f 2), .ref (ads o 98), .ref (ads o 99), .ref (ads o 100), .ref (ads o 101), .ref (ads o 102), .ref (ads o 103), .int (f 9), .int (f 10), .ref (ads o 104), .ref (ads o 105), .int (f 13), .ref (ads o 106), .ref (ads o 107), .ref (ads o 108), .ref (ads o 109), .ref (ads o 110)]
def cE (o : OM) (f : Nat → Int32) (g : Nat → Int64) (i : Nat) : va_E :=
  if 6 ≤ i ∧ i < 66 then (if i % 3 = 0 then .inr (8, fSt o i f g) else if i % 3 = 1 then aJ o 40 g else aI o 40 f)
  else if i = 0 then .inr (9, fNm o i f g) else if i = 1 then .inr (8, fSt o i f g) else if i = 2 then aJ o 40 g else if i = 3 then aI o 40 f
  else if i = 4 then .inr (6, fPa o i f g) else if i = 5 then aSt o 20 (fun k => some (ads o (6 + 3 * k)))
  else if i = 66 then aIm o 2 (fun k => some (ads o (67 + 4 * k)))
  else if i = 67 then .inr (4, fIm o i f g) else if i = 68 then .inr (8, fSt o i f g) else if i = 69 then aJ o 40 g else if i = 70 then aI o 40 f
  else if i = 71 then .inr (4, fIm o i f g) else if i = 72 then .inr (8, fSt o i f g) else if i = 73 then aJ o 40 g else if i = 74 then aI o 40 f
  else if i = 75 then .inr (5, fPt o i f g) else if i = 76 then aI o 8 f else if i = 77 then aJ o 8 g
  else if i = 78 then .inr (5, fPt o i f g) else if i = 79 then aI o 8 f else if i = 80 then aJ o 8 g
  else if i = 81 then .inr (3, fGr o i f g) else if i = 82 then aJ o 40 g else if i = 83 then aJ o 40 g
  else if i = 84 then .inr (1, fCo o i f g) else if i = 85 then aJ o 64 g
  else if i = 86 then .inr (7, fSi o i f g) else if i = 87 then aJ o 6 g else if i = 88 then aI o 6 f else if i = 89 then aI o 65 f
  else if i = 90 then .inr (0, fBk o i f g) else if i = 91 then aI o 20 f else if i = 92 then aI o 20 f else if i = 93 then aI o 20 f
  else if i = 94 then .inr (2, fDr o i f g)
  else if i = 95 then .inr (10, fMo o i f g) else if i = 96 then aJ o 43 g else if i = 97 then aI o 40 f else if i = 98 then aJ o 860 g else if i = 99 then aI o 800 f
  else if i = 100 then aJ o 86 g else if i = 101 then aI o 80 f else if i = 102 then aI o 2 f else if i = 103 then aZ o 2 f
  else if i = 104 then aJ o 6 g else if i = 105 then aI o 6 f else if i = 106 then aI o 20 f else if i = 107 then aI o 20 f else if i = 108 then aI o 20 f
  else if i = 109 then aI o 40 f else aI o 65 f
def cellsL (o : OM) (mi : MI) (ml : ML) : va_W := (List.range 111).map (fun i => (ads o i, cE o (mi i) (ml i) i))
def Wp (o : OM) (mi : MI) (ml : ML) (H : Heap) : Prop := va_P o.2.1 vcl (cellsL o mi ml) H
def isA (o : OM) (q : Nat) : Prop := o.1 ≤ q ∧ q < o.1 + 111
theorem cells_at (o : OM) (mi : MI) (ml : ML) {i : Nat} (h : i < 111) : (cellsL o mi ml)[i]? = some (ads o i, cE o (mi i) (ml i) i) := by
  simp [cellsL, h]
theorem cells_inv {o : OM} {mi : MI} {ml : ML} {i : Nat} {q : Nat × va_E} (h : (cellsL o mi ml)[i]? = some q) : i < 111 ∧ q = (ads o i, cE o (mi i) (ml i) i) := by
  have hl : i < 111 := by
    have := (List.getElem?_eq_some_iff.mp h).1
    simpa [cellsL] using this
  rw [cells_at o mi ml hl] at h
  exact ⟨hl, (Option.some.inj h).symm⟩
theorem cells_D (o : OM) (mi : MI) (ml : ML) : va_D (isA o) (cellsL o mi ml) := by
  refine ⟨fun i j p q hi hj e => ?_, fun k q hk => ?_⟩
  · obtain ⟨h1, rfl⟩ := cells_inv hi
    obtain ⟨h2, rfl⟩ := cells_inv hj
    have e' : o.1 + i = o.1 + j := e
    omega
  · obtain ⟨h1, rfl⟩ := cells_inv hk
    exact ⟨by show o.1 ≤ o.1 + k; omega, by show o.1 + k < o.1 + 111; omega⟩
theorem cells_set (o : OM) {mi mi' : MI} {ml ml' : ML} {i : Nat} {e : va_E} (hi : i < 111) (h1 : ∀ j, j ≠ i → mi' j = mi j ∧ ml' j = ml j) (h2 : cE o (mi' i) (ml' i) i = e) : (cellsL o mi ml).set i (ads o i, e) = cellsL o mi' ml' := by
  apply List.ext_getElem?
  intro j
  by_cases hj : j < 111
  · by_cases hji : j = i
    · subst hji
      rw [List.getElem?_set_self (by simp [cellsL]; exact hj), cells_at o mi' ml' hj, h2]
    · rw [List.getElem?_set_ne (Ne.symm hji), cells_at o mi ml hj, cells_at o mi' ml' hj, (h1 j hji).1, (h1 j hji).2]
  · rw [List.getElem?_eq_none (by simp [cellsL]; omega), List.getElem?_eq_none (by simp [cellsL]; omega)]
/-- which private methods are called across the nest -/
def nst : List (String × Nat × MethodName × String) := [("NearMarks$Parts", 23, y_Nm_hasBit, "NearMarks"), ("NearMarks$State", 36, y_Nm_distanceOf, "NearMarks"), ("NearMarks$Sightings", 26, y_Nm_distanceOf, "NearMarks"), ("NearMarks$Sightings", 44, y_Nm_leastOf, "NearMarks"), ("NearMarks$Sightings", 57, y_Nm_hasBit, "NearMarks"), ("NearMarks$Picture", 19, y_Nm_hasBit, "NearMarks"), ("NearMarks$Grouping", 29, y_Nm_hasBit, "NearMarks"), ("NearMarks$State", 47, y_Nm_hasBit, "NearMarks"), ("NearMarks", 78, y_Dr_init, "NearMarks")]
def Nst (U : State) : Prop := ∀ q ∈ nst, va_Nw (.methodLinkNest q.1 q.2.1 q.2.2.1 q.2.2.2) U
theorem Nst.warm {s U : State} (hW : s.WarmedH U.vm) (h : Nst s) : Nst U := fun q hq => va_Nw.warmM hW (h q hq)
def vtys (o : OM) : List (ClassId × FieldType) := [(o.2.2 0, .int), (o.2.2 1, .long), (o.2.2 2, .boolean), (o.2.2 3, .object "NearMarks$Image"), (o.2.2 4, .object "NearMarks$State")]
def Kp (o : OM) (U : State) : Prop := va_K o.2.1 vcl (vtys o) U ∧ Nst U
theorem Kp.warm {o : OM} {s U : State} (hW : s.WarmedH U.vm) (h : Kp o s) : Kp o U := ⟨va_K.moved hW.alike h.1, h.2.warm hW⟩
def wsY (y : MethodName) (cc : ByteArray) (n : Nat) (r : Option FieldType) : List Cond := .code y cc n r :: gtbl
theorem gtbl_good : GoodIn gtbl gtbl := fun _ hw => ⟨hw, good_of_word (List.mem_filter.mp hw).2⟩
theorem wsY_good {y : MethodName} {cc : ByteArray} {n : Nat} {r : Option FieldType} (h : Cond.code y cc n r ∈ gtbl) : GoodIn gtbl (wsY y cc n r) := fun w hw => (List.mem_cons.mp hw).elim (fun e => e ▸ gtbl_good _ h) (fun h2 => gtbl_good _ h2)
/-- CONTRACTS -/
def Qof (o : OM) (P : Option Value → MI → ML → Prop) : Array Value → State → Outcome → State → Prop := fun _ st oc t => (∃ (v : Option Value) (mi : MI) (ml : ML), oc = .returned v ∧ P v mi ml ∧ Wp o mi ml t.heap) ∧ va_F (isA o) st t
def Pof (o : OM) (A : List Value) (mi : MI) (ml : ML) : Array Value → State → Prop := va_Pc A (fun U => Wp o mi ml U.heap ∧ Kp o U)
def Con (l : Launch) (y : MethodName) (cc : ByteArray) (n : Nat) (r : Option FieldType) (fr lo : Nat) (o : OM) (A : List Value) (mi : MI) (ml : ML) (P : Option Value → MI → ML → Prop) : Prop :=
  Met l y (wsY y cc n r) { frames := fr, cells := 0, slots := 0, locals := lo } (Pof o A mi ml) (Qof o P) 0 0 (isA o)
/-- the walk's surroundings: all that stays while a method runs -/
def GT : Type := Program × Launch × Env × Room × State × MethodId × Array Value × List Frame × Method × Code × (State → Prop)
abbrev GT.p (γ : GT) : Program := γ.1
abbrev GT.l (γ : GT) : Launch := γ.2.1
abbrev GT.e (γ : GT) : Env := γ.2.2.1
abbrev GT.R (γ : GT) : Room := γ.2.2.2.1
abbrev GT.s (γ : GT) : State := γ.2.2.2.2.1
abbrev GT.m (γ : GT) : MethodId := γ.2.2.2.2.2.1
abbrev GT.a (γ : GT) : Array Value := γ.2.2.2.2.2.2.1
abbrev GT.b (γ : GT) : List Frame := γ.2.2.2.2.2.2.2.1
abbrev GT.me (γ : GT) : Method := γ.2.2.2.2.2.2.2.2.1
abbrev GT.c (γ : GT) : Code := γ.2.2.2.2.2.2.2.2.2.1
abbrev GT.Q (γ : GT) : State → Prop := γ.2.2.2.2.2.2.2.2.2.2
def V (γ : GT) (o : OM) (n : Nat) (mi : MI) (ml : ML) (pc : Nat) (lv : List (Nat × Value)) (st : List Value) : Prop :=
  ∀ (H : Heap) (locs : List Loc) (ls : Array Slot), Wp o mi ml H → va_S (isA o) γ.s.heap H locs → lv_has ls n lv → W γ.p γ.l γ.e γ.R γ.s γ.m γ.a γ.b γ.me γ.c H locs 0 0 γ.Q (F0 γ.m pc ls st)
def Cx (γ : GT) (l : Launch) (o : OM) (own : String) (cc : ByteArray) (n : Nat) (r : Option FieldType) (fr lo : Nat) (P : Option Value → MI → ML → Prop) : Prop :=
  γ.p.tables.exec = Jvm.exec ∧ γ.c.code = cc ∧ γ.c.maxLocals = n ∧ γ.s.vm.findClass own = some γ.m.cls ∧ (∀ w ∈ gtbl, w.before γ.a γ.s = true) ∧ Kp o γ.s ∧ γ.me.sig.returnType = r ∧ γ.me.locks = false ∧ γ.R.frames = fr ∧ γ.R.locals = lo ∧ γ.l = l ∧ γ.Q = MQ γ.b (Qof o P) γ.a γ.s 0 0 (isA o)
theorem Con.mk {l : Launch} {y : MethodName} {cc : ByteArray} {n : Nat} {r : Option FieldType} {fr lo : Nat} {o : OM} {A : List Value} {mi : MI} {ml : ML} {P : Option Value → MI → ML → Prop} (hy : plainName y.cls = true) (hlen : (lg_sl A).length ≤ n)
    (h : ∀ γ : GT, Cx γ l o y.cls cc n r fr lo P → V γ o n mi ml 0 (lv_args 0 A) []) : Con l y cc n r fr lo o A mi ml P := by
  refine Met.ofW (cc := cc) (maxL := n) (ret := r) hy rfl ?_
  intro p e s m args below meth c s₁ B hml hv
  obtain ⟨rfl, hP, hK⟩ := hv
  have hts := atoms_spec (ws := wsY y cc n r) B.pre
  rw [lg_entry_eq]
  exact h (p, l, e, _, s, m, _, below, meth, c, _) ⟨B.exec, B.bytes, hml, findClass_of_methodNamed B.named, fun w hw => hts w (List.mem_cons_of_mem _ hw), hK, B.returns, B.notSynchronized, rfl, rfl, rfl, rfl⟩ s.heap [] _ hP va_S.rf (lv_entry A hlen)
section ROWS
variable {γ : GT} {l : Launch} {o : OM} {own : String} {cc : ByteArray} {n : Nat} {r : Option FieldType} {fr lo : Nat} {P : Option Value → MI → ML → Prop}
variable {mi : MI} {ml : ML} {pc : Nat} {lv : List (Nat × Value)} {st rest : List Value}
/-- other words for the same -/
theorem V.eq {mi' : MI} {ml' : ML} {lv' : List (Nat × Value)} {st' : List Value} (k : V γ o n mi' ml' pc lv' st') (h1 : mi' = mi) (h2 : ml' = ml) (h3 : lv' = lv) (h4 : st' = st) : V γ o n mi ml pc lv st := by
  subst h1; subst h2; subst h3; subst h4; exact k
theorem V.wk {lv' : List (Nat × Value)} (ks : List Nat) (k : V γ o n mi ml pc lv' st) (h : lv_pick lv ks = lv') : V γ o n mi ml pc lv st := fun H locs ls h1 h2 h3 => k H locs ls h1 h2 (lv_sub h3 ks h)
theorem V.at {pc' : Nat} (h : pc = pc') (k : V γ o n mi ml pc lv st) : V γ o n mi ml pc' lv st := h ▸ k
/-- constants -/
theorem r_iconst (X : Cx γ l o own cc n r fr lo P) {z : Int} {v : Int32} (d : decode cc pc = .ok (.iconst z, 1)) (hv : Int32.ofInt z = v) (k : V γ o n mi ml (pc + 1) lv (.int v :: rest)) : V γ o n mi ml pc lv rest := fun H locs ls h1 h2 h3 => lv_iconst X.1 X.2.1 d hv (k H locs ls h1 h2 h3)
theorem r_bipush (X : Cx γ l o own cc n r fr lo P) {z : Int} {v : Int32} (d : decode cc pc = .ok (.bipush z, 2)) (hv : (Int8.ofInt z).toInt32 = v) (k : V γ o n mi ml (pc + 2) lv (.int v :: rest)) : V γ o n mi ml pc lv rest := fun H locs ls h1 h2 h3 => lv_bipush X.1 X.2.1 d hv (k H locs ls h1 h2 h3)
theorem r_sipush (X : Cx γ l o own cc n r fr lo P) {z : Int} {v : Int32} (d : decode cc pc = .ok (.sipush z, 3)) (hv : (Int16.ofInt z).toInt32 = v) (k : V γ o n mi ml (pc + 3) lv (.int v :: rest)) : V γ o n mi ml pc lv rest := fun H locs ls h1 h2 h3 => lv_sipush X.1 X.2.1 d hv (k H locs ls h1 h2 h3)
theorem r_lconst (X : Cx γ l o own cc n r fr lo P) {z : Fin 2} {v : Int64} (d : decode cc pc = .ok (.lconst z, 1)) (hv : Int64.ofNat (z : Nat) = v) (k : V γ o n mi ml (pc + 1) lv (.long v :: rest)) : V γ o n mi ml pc lv rest := fun H locs ls h1 h2 h3 => lv_lconst X.1 X.2.1 d hv (k H locs ls h1 h2 h3)
theorem r_ldc (X : Cx γ l o own cc n r fr lo P) {ix : Nat} {v0 v : Int32} (w : Cond.constant own ix v0 ∈ gtbl) (hv : v0 = v) (d : decode cc pc = .ok (.ldc ix, 2)) (k : V γ o n mi ml (pc + 2) lv (.int v :: rest)) : V γ o n mi ml pc lv rest := fun H locs ls h1 h2 h3 => lv_ldc X.1 X.2.1 X.2.2.2.1 (hv ▸ X.2.2.2.2.1 _ w) d (k H locs ls h1 h2 h3)
theorem r_ldc2 (X : Cx γ l o own cc n r fr lo P) {ix : Nat} {v : Int64} (w : Cond.constantLong own ix v ∈ gtbl) (d : decode cc pc = .ok (.ldc2_w ix, 3)) (k : V γ o n mi ml (pc + 3) lv (.long v :: rest)) : V γ o n mi ml pc lv rest := fun H locs ls h1 h2 h3 => lv_ldc2 X.1 X.2.1 X.2.2.2.1 (X.2.2.2.2.1 _ w) d (k H locs ls h1 h2 h3)
/-- locals -/
theorem r_iload_n (X : Cx γ l o own cc n r fr lo P) {q : Fin 4} {i : Nat} {x : Int32} (k0 : Nat) (d : decode cc pc = .ok (.iload_n q, 1)) (hi : (q : Nat) = i) (hl : lv[k0]? = some (i, .int x)) (k : V γ o n mi ml (pc + 1) lv (.int x :: rest)) : V γ o n mi ml pc lv rest := fun H locs ls h1 h2 h3 => lv_iload_n X.1 X.2.1 d hi (lv_at h3 k0 hl) (k H locs ls h1 h2 h3)
theorem r_iload (X : Cx γ l o own cc n r fr lo P) {i : Nat} {x : Int32} (k0 : Nat) (d : decode cc pc = .ok (.iload i, 2)) (hl : lv[k0]? = some (i, .int x)) (k : V γ o n mi ml (pc + 2) lv (.int x :: rest)) : V γ o n mi ml pc lv rest := fun H locs ls h1 h2 h3 => lv_iload X.1 X.2.1 d (lv_at h3 k0 hl) (k H locs ls h1 h2 h3)
theorem r_lload_n (X : Cx γ l o own cc n r fr lo P) {q : Fin 4} {i : Nat} {x : Int64} (k0 : Nat) (d : decode cc pc = .ok (.lload_n q, 1)) (hi : (q : Nat) = i) (hl : lv[k0]? = some (i, .long x)) (k : V γ o n mi ml (pc + 1) lv (.long x :: rest)) : V γ o n mi ml pc lv rest := fun H locs ls h1 h2 h3 => lv_lload_n X.1 X.2.1 d hi (lv_at h3 k0 hl) (k H locs ls h1 h2 h3)
theorem r_lload (X : Cx γ l o own cc n r fr lo P) {i : Nat} {x : Int64} (k0 : Nat) (d : decode cc pc = .ok (.lload i, 2)) (hl : lv[k0]? = some (i, .long x)) (k : V γ o n mi ml (pc + 2) lv (.long x :: rest)) : V γ o n mi ml pc lv rest := fun H locs ls h1 h2 h3 => lv_lload X.1 X.2.1 d (lv_at h3 k0 hl) (k H locs ls h1 h2 h3)
theorem r_aload_n (X : Cx γ l o own cc n r fr lo P) {q : Fin 4} {i : Nat} {x : Nat} (k0 : Nat) (d : decode cc pc = .ok (.aload_n q, 1)) (hi : (q : Nat) = i) (hl : lv[k0]? = some (i, .ref x)) (k : V γ o n mi ml (pc + 1) lv (.ref x :: rest)) : V γ o n mi ml pc lv rest := fun H locs ls h1 h2 h3 => lv_aload_n X.1 X.2.1 d hi (lv_at h3 k0 hl) (k H locs ls h1 h2 h3)
theorem r_istore_n (X : Cx γ l o own cc n r fr lo P) {q : Fin 4} {i : Nat} {x : Int32} (lv' : List (Nat × Value)) (d : decode cc pc = .ok (.istore_n q, 1)) (hi : (q : Nat) = i) (hn : i < n) (hl : (i, Value.int x) :: lv.filter (fun q => !(q.1 == i) && !(q.1 + 1 == i && q.2.category == 2)) = lv') (k : V γ o n mi ml (pc + 1) lv' rest) : V γ o n mi ml pc lv (.int x :: rest) := fun H locs ls h1 h2 h3 => lv_istore_n X.1 X.2.1 d hi h3 hn hl (fun ls2 h4 => k H locs ls2 h1 h2 h4)
theorem r_istore (X : Cx γ l o own cc n r fr lo P) {i : Nat} {x : Int32} (lv' : List (Nat × Value)) (d : decode cc pc = .ok (.istore i, 2)) (hn : i < n) (hl : (i, Value.int x) :: lv.filter (fun q => !(q.1 == i) && !(q.1 + 1 == i && q.2.category == 2)) = lv') (k : V γ o n mi ml (pc + 2) lv' rest) : V γ o n mi ml pc lv (.int x :: rest) := fun H locs ls h1 h2 h3 => lv_istore X.1 X.2.1 d h3 hn hl (fun ls2 h4 => k H locs ls2 h1 h2 h4)
theorem r_lstore_n (X : Cx γ l o own cc n r fr lo P) {q : Fin 4} {i : Nat} {x : Int64} (lv' : List (Nat × Value)) (d : decode cc pc = .ok (.lstore_n q, 1)) (hi : (q : Nat) = i) (hn : i + 1 < n) (hl : (i, Value.long x) :: lv.filter (fun q => !(q.1 == i) && (!(q.1 == i + 1) && !(q.1 + 1 == i && q.2.category == 2))) = lv') (k : V γ o n mi ml (pc + 1) lv' rest) : V γ o n mi ml pc lv (.long x :: rest) := fun H locs ls h1 h2 h3 => lv_lstore_n X.1 X.2.1 d hi h3 hn hl (fun ls2 h4 => k H locs ls2 h1 h2 h4)
theorem r_lstore (X : Cx γ l o own cc n r fr lo P) {i : Nat} {x : Int64} (lv' : List (Nat × Value)) (d : decode cc pc = .ok (.lstore i, 2)) (hn : i + 1 < n) (hl : (i, Value.long x) :: lv.filter (fun q => !(q.1 == i) && (!(q.1 == i + 1) && !(q.1 + 1 == i && q.2.category == 2))) = lv') (k : V γ o n mi ml (pc + 2) lv' rest) : V γ o n mi ml pc lv (.long x :: rest) := fun H locs ls h1 h2 h3 => lv_lstore X.1 X.2.1 d h3 hn hl (fun ls2 h4 => k H locs ls2 h1 h2 h4)
theorem r_iinc (X : Cx γ l o own cc n r fr lo P) {i : Nat} {z : Int} {x v : Int32} (k0 : Nat) (lv' : List (Nat × Value)) (d : decode cc pc = .ok (.iinc i z, 3)) (hk : lv[k0]? = some (i, .int x)) (hv : x + Int32.ofInt z = v) (hn : i < n) (hl : (i, Value.int v) :: lv.filter (fun q => !(q.1 == i) && !(q.1 + 1 == i && q.2.category == 2)) = lv') (k : V γ o n mi ml (pc + 3) lv' rest) : V γ o n mi ml pc lv rest := fun H locs ls h1 h2 h3 => lv_iinc X.1 X.2.1 d h3 hk hv hn hl (fun ls2 h4 => k H locs ls2 h1 h2 h4)
end ROWS
