/-! the layer once more, over the first 78 cells: parts are laid while the rest isn't made -/
def fNmK (o : OM) : List Value := [.ref (ads o 1), .ref (ads o 4), .ref (ads o 66), .ref (ads o 75), .null, .null, .null, .null, .null, .null]
def cEK (o : OM) (f : Nat → Int32) (g : Nat → Int64) (i : Nat) : va_E := if i = 0 then .inr (9, fNmK o) else cE o f g i
def isPtK (a : Nat) : Prop := a = 75
theorem isPtK.b0 {a : Nat} (h : isPtK a) : a < 78 := by rw [h]; decide
theorem isPtK.b1 {a : Nat} (h : isPtK a) : a + 1 < 78 := by rw [h]; decide
theorem isPtK.b2 {a : Nat} (h : isPtK a) : a + 2 < 78 := by rw [h]; decide
theorem isPtK.e0 {o : OM} {a : Nat} (h : isPtK a) (f : Nat → Int32) (g : Nat → Int64) : cEK o f g a = .inr (5, fPt o a f g) := by
  cases h; rfl
theorem isPtK.e1 {o : OM} {a : Nat} (h : isPtK a) (f : Nat → Int32) (g : Nat → Int64) : cEK o f g (a + 1) = aI o 8 f := by
  cases h; rfl
theorem isPtK.e2 {o : OM} {a : Nat} (h : isPtK a) (f : Nat → Int32) (g : Nat → Int64) : cEK o f g (a + 2) = aJ o 8 g := by
  cases h; rfl
def cellsLK (o : OM) (mi : MI) (ml : ML) : va_W := (List.range 78).map (fun i => (ads o i, cEK o (mi i) (ml i) i))
def WpK (o : OM) (mi : MI) (ml : ML) (H : Heap) : Prop := va_P o.2.1 vcl (cellsLK o mi ml) H
def isAK (o : OM) (q : Nat) : Prop := o.1 ≤ q ∧ q < o.1 + 78
theorem cells_atK (o : OM) (mi : MI) (ml : ML) {i : Nat} (h : i < 78) : (cellsLK o mi ml)[i]? = some (ads o i, cEK o (mi i) (ml i) i) := by
  simp [cellsLK, h]
theorem cells_invK {o : OM} {mi : MI} {ml : ML} {i : Nat} {q : Nat × va_E} (h : (cellsLK o mi ml)[i]? = some q) : i < 78 ∧ q = (ads o i, cEK o (mi i) (ml i) i) := by
  have hl : i < 78 := by
    have := (List.getElem?_eq_some_iff.mp h).1
    simpa [cellsLK] using this
  rw [cells_atK o mi ml hl] at h
  exact ⟨hl, (Option.some.inj h).symm⟩
theorem cells_DK (o : OM) (mi : MI) (ml : ML) : va_D (isAK o) (cellsLK o mi ml) := by
  refine ⟨fun i j p q hi hj e => ?_, fun k q hk => ?_⟩
  · obtain ⟨h1, rfl⟩ := cells_invK hi
    obtain ⟨h2, rfl⟩ := cells_invK hj
    have e' : o.1 + i = o.1 + j := e
    omega
  · obtain ⟨h1, rfl⟩ := cells_invK hk
    exact ⟨by show o.1 ≤ o.1 + k; omega, by show o.1 + k < o.1 + 78; omega⟩
theorem cells_setK (o : OM) {mi mi' : MI} {ml ml' : ML} {i : Nat} {e : va_E} (hi : i < 78) (h1 : ∀ j, j ≠ i → mi' j = mi j ∧ ml' j = ml j) (h2 : cEK o (mi' i) (ml' i) i = e) : (cellsLK o mi ml).set i (ads o i, e) = cellsLK o mi' ml' := by
  apply List.ext_getElem?
  intro j
  by_cases hj : j < 78
  · by_cases hji : j = i
    · subst hji
      rw [List.getElem?_set_self (by simp [cellsLK]; exact hj), cells_atK o mi' ml' hj, h2]
    · rw [List.getElem?_set_ne (Ne.symm hji), cells_atK o mi ml hj, cells_atK o mi' ml' hj, (h1 j hji).1, (h1 j hji).2]
  · rw [List.getElem?_eq_none (by simp [cellsLK]; omega), List.getElem?_eq_none (by simp [cellsLK]; omega)]
def QofK (o : OM) (P : Option Value → MI → ML → Prop) : Array Value → State → Outcome → State → Prop := fun _ st oc t => (∃ (v : Option Value) (mi : MI) (ml : ML), oc = .returned v ∧ P v mi ml ∧ WpK o mi ml t.heap) ∧ va_F (isAK o) st t
def PofK (o : OM) (A : List Value) (mi : MI) (ml : ML) : Array Value → State → Prop := va_Pc A (fun U => WpK o mi ml U.heap ∧ Kp o U)
def ConK (l : Launch) (y : MethodName) (cc : ByteArray) (n : Nat) (r : Option FieldType) (fr lo : Nat) (o : OM) (A : List Value) (mi : MI) (ml : ML) (P : Option Value → MI → ML → Prop) : Prop :=
  Met l y (wsY y cc n r) { frames := fr, cells := 0, slots := 0, locals := lo } (PofK o A mi ml) (QofK o P) 0 0 (isAK o)
def VK (γ : GT) (o : OM) (n : Nat) (mi : MI) (ml : ML) (pc : Nat) (lv : List (Nat × Value)) (st : List Value) : Prop :=
  ∀ (H : Heap) (locs : List Loc) (ls : Array Slot), WpK o mi ml H → va_S (isAK o) γ.s.heap H locs → lv_has ls n lv → W γ.p γ.l γ.e γ.R γ.s γ.m γ.a γ.b γ.me γ.c H locs 0 0 γ.Q (F0 γ.m pc ls st)
def CxK (γ : GT) (l : Launch) (o : OM) (own : String) (cc : ByteArray) (n : Nat) (r : Option FieldType) (fr lo : Nat) (P : Option Value → MI → ML → Prop) : Prop :=
  γ.p.tables.exec = Jvm.exec ∧ γ.c.code = cc ∧ γ.c.maxLocals = n ∧ γ.s.vm.findClass own = some γ.m.cls ∧ (∀ w ∈ gtbl, w.before γ.a γ.s = true) ∧ Kp o γ.s ∧ γ.me.sig.returnType = r ∧ γ.me.locks = false ∧ γ.R.frames = fr ∧ γ.R.locals = lo ∧ γ.l = l ∧ γ.Q = MQ γ.b (QofK o P) γ.a γ.s 0 0 (isAK o)
theorem ConK.mk {l : Launch} {y : MethodName} {cc : ByteArray} {n : Nat} {r : Option FieldType} {fr lo : Nat} {o : OM} {A : List Value} {mi : MI} {ml : ML} {P : Option Value → MI → ML → Prop} (hy : plainName y.cls = true) (hlen : (lg_sl A).length ≤ n)
    (h : ∀ γ : GT, CxK γ l o y.cls cc n r fr lo P → VK γ o n mi ml 0 (lv_args 0 A) []) : ConK l y cc n r fr lo o A mi ml P := by
  refine Met.ofW (cc := cc) (maxL := n) (ret := r) hy rfl ?_
  intro p e s m args below meth c s₁ B hml hv
  obtain ⟨rfl, hP, hK⟩ := hv
  have hts := atoms_spec (ws := wsY y cc n r) B.pre
  rw [lg_entry_eq]
  exact h (p, l, e, _, s, m, _, below, meth, c, _) ⟨B.exec, B.bytes, hml, findClass_of_methodNamed B.named, fun w hw => hts w (List.mem_cons_of_mem _ hw), hK, B.returns, B.notSynchronized, rfl, rfl, rfl, rfl⟩ s.heap [] _ hP va_S.rf (lv_entry A hlen)
section ROWSK
variable {γ : GT} {l : Launch} {o : OM} {own : String} {cc : ByteArray} {n : Nat} {r : Option FieldType} {fr lo : Nat} {P : Option Value → MI → ML → Prop}
variable {mi : MI} {ml : ML} {pc : Nat} {lv : List (Nat × Value)} {st rest : List Value}
theorem VK.eq {mi' : MI} {ml' : ML} {lv' : List (Nat × Value)} {st' : List Value} (k : VK γ o n mi' ml' pc lv' st') (h1 : mi' = mi) (h2 : ml' = ml) (h3 : lv' = lv) (h4 : st' = st) : VK γ o n mi ml pc lv st := by
  subst h1; subst h2; subst h3; subst h4; exact k
theorem VK.wk {lv' : List (Nat × Value)} (ks : List Nat) (k : VK γ o n mi ml pc lv' st) (h : lv_pick lv ks = lv') : VK γ o n mi ml pc lv st := fun H locs ls h1 h2 h3 => k H locs ls h1 h2 (lv_sub h3 ks h)
theorem VK.at {pc' : Nat} (h : pc = pc') (k : VK γ o n mi ml pc lv st) : VK γ o n mi ml pc' lv st := h ▸ k
theorem r_iconstK (X : CxK γ l o own cc n r fr lo P) {z : Int} {v : Int32} (d : decode cc pc = .ok (.iconst z, 1)) (hv : Int32.ofInt z = v) (k : VK γ o n mi ml (pc + 1) lv (.int v :: rest)) : VK γ o n mi ml pc lv rest := fun H locs ls h1 h2 h3 => lv_iconst X.1 X.2.1 d hv (k H locs ls h1 h2 h3)
theorem r_bipushK (X : CxK γ l o own cc n r fr lo P) {z : Int} {v : Int32} (d : decode cc pc = .ok (.bipush z, 2)) (hv : (Int8.ofInt z).toInt32 = v) (k : VK γ o n mi ml (pc + 2) lv (.int v :: rest)) : VK γ o n mi ml pc lv rest := fun H locs ls h1 h2 h3 => lv_bipush X.1 X.2.1 d hv (k H locs ls h1 h2 h3)
theorem r_sipushK (X : CxK γ l o own cc n r fr lo P) {z : Int} {v : Int32} (d : decode cc pc = .ok (.sipush z, 3)) (hv : (Int16.ofInt z).toInt32 = v) (k : VK γ o n mi ml (pc + 3) lv (.int v :: rest)) : VK γ o n mi ml pc lv rest := fun H locs ls h1 h2 h3 => lv_sipush X.1 X.2.1 d hv (k H locs ls h1 h2 h3)
theorem r_lconstK (X : CxK γ l o own cc n r fr lo P) {z : Fin 2} {v : Int64} (d : decode cc pc = .ok (.lconst z, 1)) (hv : Int64.ofNat (z : Nat) = v) (k : VK γ o n mi ml (pc + 1) lv (.long v :: rest)) : VK γ o n mi ml pc lv rest := fun H locs ls h1 h2 h3 => lv_lconst X.1 X.2.1 d hv (k H locs ls h1 h2 h3)
theorem r_ldcK (X : CxK γ l o own cc n r fr lo P) {ix : Nat} {v0 v : Int32} (w : Cond.constant own ix v0 ∈ gtbl) (hv : v0 = v) (d : decode cc pc = .ok (.ldc ix, 2)) (k : VK γ o n mi ml (pc + 2) lv (.int v :: rest)) : VK γ o n mi ml pc lv rest := fun H locs ls h1 h2 h3 => lv_ldc X.1 X.2.1 X.2.2.2.1 (hv ▸ X.2.2.2.2.1 _ w) d (k H locs ls h1 h2 h3)
theorem r_ldc2K (X : CxK γ l o own cc n r fr lo P) {ix : Nat} {v : Int64} (w : Cond.constantLong own ix v ∈ gtbl) (d : decode cc pc = .ok (.ldc2_w ix, 3)) (k : VK γ o n mi ml (pc + 3) lv (.long v :: rest)) : VK γ o n mi ml pc lv rest := fun H locs ls h1 h2 h3 => lv_ldc2 X.1 X.2.1 X.2.2.2.1 (X.2.2.2.2.1 _ w) d (k H locs ls h1 h2 h3)
theorem r_iload_nK (X : CxK γ l o own cc n r fr lo P) {q : Fin 4} {i : Nat} {x : Int32} (k0 : Nat) (d : decode cc pc = .ok (.iload_n q, 1)) (hi : (q : Nat) = i) (hl : lv[k0]? = some (i, .int x)) (k : VK γ o n mi ml (pc + 1) lv (.int x :: rest)) : VK γ o n mi ml pc lv rest := fun H locs ls h1 h2 h3 => lv_iload_n X.1 X.2.1 d hi (lv_at h3 k0 hl) (k H locs ls h1 h2 h3)
theorem r_iloadK (X : CxK γ l o own cc n r fr lo P) {i : Nat} {x : Int32} (k0 : Nat) (d : decode cc pc = .ok (.iload i, 2)) (hl : lv[k0]? = some (i, .int x)) (k : VK γ o n mi ml (pc + 2) lv (.int x :: rest)) : VK γ o n mi ml pc lv rest := fun H locs ls h1 h2 h3 => lv_iload X.1 X.2.1 d (lv_at h3 k0 hl) (k H locs ls h1 h2 h3)
theorem r_lload_nK (X : CxK γ l o own cc n r fr lo P) {q : Fin 4} {i : Nat} {x : Int64} (k0 : Nat) (d : decode cc pc = .ok (.lload_n q, 1)) (hi : (q : Nat) = i) (hl : lv[k0]? = some (i, .long x)) (k : VK γ o n mi ml (pc + 1) lv (.long x :: rest)) : VK γ o n mi ml pc lv rest := fun H locs ls h1 h2 h3 => lv_lload_n X.1 X.2.1 d hi (lv_at h3 k0 hl) (k H locs ls h1 h2 h3)
theorem r_lloadK (X : CxK γ l o own cc n r fr lo P) {i : Nat} {x : Int64} (k0 : Nat) (d : decode cc pc = .ok (.lload i, 2)) (hl : lv[k0]? = some (i, .long x)) (k : VK γ o n mi ml (pc + 2) lv (.long x :: rest)) : VK γ o n mi ml pc lv rest := fun H locs ls h1 h2 h3 => lv_lload X.1 X.2.1 d (lv_at h3 k0 hl) (k H locs ls h1 h2 h3)
theorem r_aload_nK (X : CxK γ l o own cc n r fr lo P) {q : Fin 4} {i : Nat} {x : Nat} (k0 : Nat) (d : decode cc pc = .ok (.aload_n q, 1)) (hi : (q : Nat) = i) (hl : lv[k0]? = some (i, .ref x)) (k : VK γ o n mi ml (pc + 1) lv (.ref x :: rest)) : VK γ o n mi ml pc lv rest := fun H locs ls h1 h2 h3 => lv_aload_n X.1 X.2.1 d hi (lv_at h3 k0 hl) (k H locs ls h1 h2 h3)
theorem r_istore_nK (X : CxK γ l o own cc n r fr lo P) {q : Fin 4} {i : Nat} {x : Int32} (lv' : List (Nat × Value)) (d : decode cc pc = .ok (.istore_n q, 1)) (hi : (q : Nat) = i) (hn : i < n) (hl : (i, Value.int x) :: lv.filter (fun q => !(q.1 == i) && !(q.1 + 1 == i && q.2.category == 2)) = lv') (k : VK γ o n mi ml (pc + 1) lv' rest) : VK γ o n mi ml pc lv (.int x :: rest) := fun H locs ls h1 h2 h3 => lv_istore_n X.1 X.2.1 d hi h3 hn hl (fun ls2 h4 => k H locs ls2 h1 h2 h4)
theorem r_istoreK (X : CxK γ l o own cc n r fr lo P) {i : Nat} {x : Int32} (lv' : List (Nat × Value)) (d : decode cc pc = .ok (.istore i, 2)) (hn : i < n) (hl : (i, Value.int x) :: lv.filter (fun q => !(q.1 == i) && !(q.1 + 1 == i && q.2.category == 2)) = lv') (k : VK γ o n mi ml (pc + 2) lv' rest) : VK γ o n mi ml pc lv (.int x :: rest) := fun H locs ls h1 h2 h3 => lv_istore X.1 X.2.1 d h3 hn hl (fun ls2 h4 => k H locs ls2 h1 h2 h4)
theorem r_lstore_nK (X : CxK γ l o own cc n r fr lo P) {q : Fin 4} {i : Nat} {x : Int64} (lv' : List (Nat × Value)) (d : decode cc pc = .ok (.lstore_n q, 1)) (hi : (q : Nat) = i) (hn : i + 1 < n) (hl : (i, Value.long x) :: lv.filter (fun q => !(q.1 == i) && (!(q.1 == i + 1) && !(q.1 + 1 == i && q.2.category == 2))) = lv') (k : VK γ o n mi ml (pc + 1) lv' rest) : VK γ o n mi ml pc lv (.long x :: rest) := fun H locs ls h1 h2 h3 => lv_lstore_n X.1 X.2.1 d hi h3 hn hl (fun ls2 h4 => k H locs ls2 h1 h2 h4)
theorem r_lstoreK (X : CxK γ l o own cc n r fr lo P) {i : Nat} {x : Int64} (lv' : List (Nat × Value)) (d : decode cc pc = .ok (.lstore i, 2)) (hn : i + 1 < n) (hl : (i, Value.long x) :: lv.filter (fun q => !(q.1 == i) && (!(q.1 == i + 1) && !(q.1 + 1 == i && q.2.category == 2))) = lv') (k : VK γ o n mi ml (pc + 2) lv' rest) : VK γ o n mi ml pc lv (.long x :: rest) := fun H locs ls h1 h2 h3 => lv_lstore X.1 X.2.1 d h3 hn hl (fun ls2 h4 => k H locs ls2 h1 h2 h4)
theorem r_iincK (X : CxK γ l o own cc n r fr lo P) {i : Nat} {z : Int} {x v : Int32} (k0 : Nat) (lv' : List (Nat × Value)) (d : decode cc pc = .ok (.iinc i z, 3)) (hk : lv[k0]? = some (i, .int x)) (hv : x + Int32.ofInt z = v) (hn : i < n) (hl : (i, Value.int v) :: lv.filter (fun q => !(q.1 == i) && !(q.1 + 1 == i && q.2.category == 2)) = lv') (k : VK γ o n mi ml (pc + 3) lv' rest) : VK γ o n mi ml pc lv rest := fun H locs ls h1 h2 h3 => lv_iinc X.1 X.2.1 d h3 hk hv hn hl (fun ls2 h4 => k H locs ls2 h1 h2 h4)
theorem r_iaddK (X : CxK γ l o own cc n r fr lo P) {x y v : Int32} (d : decode cc pc = .ok (.iadd, 1)) (hv : x + y = v) (k : VK γ o n mi ml (pc + 1) lv (.int v :: rest)) : VK γ o n mi ml (pc) lv (.int y :: .int x :: rest) := fun H locs ls h1 h2 h3 => lv_iadd X.1 X.2.1 d (by rw [hv]; exact k H locs ls h1 h2 h3)
theorem r_isubK (X : CxK γ l o own cc n r fr lo P) {x y v : Int32} (d : decode cc pc = .ok (.isub, 1)) (hv : x - y = v) (k : VK γ o n mi ml (pc + 1) lv (.int v :: rest)) : VK γ o n mi ml (pc) lv (.int y :: .int x :: rest) := fun H locs ls h1 h2 h3 => lv_isub X.1 X.2.1 d (by rw [hv]; exact k H locs ls h1 h2 h3)
theorem r_imulK (X : CxK γ l o own cc n r fr lo P) {x y v : Int32} (d : decode cc pc = .ok (.imul, 1)) (hv : x * y = v) (k : VK γ o n mi ml (pc + 1) lv (.int v :: rest)) : VK γ o n mi ml (pc) lv (.int y :: .int x :: rest) := fun H locs ls h1 h2 h3 => lv_imul X.1 X.2.1 d (by rw [hv]; exact k H locs ls h1 h2 h3)
theorem r_iandK (X : CxK γ l o own cc n r fr lo P) {x y v : Int32} (d : decode cc pc = .ok (.iand, 1)) (hv : x &&& y = v) (k : VK γ o n mi ml (pc + 1) lv (.int v :: rest)) : VK γ o n mi ml (pc) lv (.int y :: .int x :: rest) := fun H locs ls h1 h2 h3 => lv_iand X.1 X.2.1 d (by rw [hv]; exact k H locs ls h1 h2 h3)
theorem r_idivK (X : CxK γ l o own cc n r fr lo P) {x y v : Int32} (d : decode cc pc = .ok (.idiv, 1)) (hne : ¬ y = 0) (hv : x / y = v) (k : VK γ o n mi ml (pc + 1) lv (.int v :: rest)) : VK γ o n mi ml (pc) lv (.int y :: .int x :: rest) := fun H locs ls h1 h2 h3 => lv_idiv X.1 X.2.1 d hne (by rw [hv]; exact k H locs ls h1 h2 h3)
theorem r_iremK (X : CxK γ l o own cc n r fr lo P) {x y v : Int32} (d : decode cc pc = .ok (.irem, 1)) (hne : ¬ y = 0) (hv : x - x / y * y = v) (k : VK γ o n mi ml (pc + 1) lv (.int v :: rest)) : VK γ o n mi ml (pc) lv (.int y :: .int x :: rest) := fun H locs ls h1 h2 h3 => lv_irem X.1 X.2.1 d hne (by rw [hv]; exact k H locs ls h1 h2 h3)
theorem r_laddK (X : CxK γ l o own cc n r fr lo P) {x y v : Int64} (d : decode cc pc = .ok (.ladd, 1)) (hv : x + y = v) (k : VK γ o n mi ml (pc + 1) lv (.long v :: rest)) : VK γ o n mi ml (pc) lv (.long y :: .long x :: rest) := fun H locs ls h1 h2 h3 => lv_ladd X.1 X.2.1 d (by rw [hv]; exact k H locs ls h1 h2 h3)
theorem r_lsubK (X : CxK γ l o own cc n r fr lo P) {x y v : Int64} (d : decode cc pc = .ok (.lsub, 1)) (hv : x - y = v) (k : VK γ o n mi ml (pc + 1) lv (.long v :: rest)) : VK γ o n mi ml (pc) lv (.long y :: .long x :: rest) := fun H locs ls h1 h2 h3 => lv_lsub X.1 X.2.1 d (by rw [hv]; exact k H locs ls h1 h2 h3)
theorem r_lmulK (X : CxK γ l o own cc n r fr lo P) {x y v : Int64} (d : decode cc pc = .ok (.lmul, 1)) (hv : x * y = v) (k : VK γ o n mi ml (pc + 1) lv (.long v :: rest)) : VK γ o n mi ml (pc) lv (.long y :: .long x :: rest) := fun H locs ls h1 h2 h3 => lv_lmul X.1 X.2.1 d (by rw [hv]; exact k H locs ls h1 h2 h3)
theorem r_landK (X : CxK γ l o own cc n r fr lo P) {x y v : Int64} (d : decode cc pc = .ok (.land, 1)) (hv : x &&& y = v) (k : VK γ o n mi ml (pc + 1) lv (.long v :: rest)) : VK γ o n mi ml (pc) lv (.long y :: .long x :: rest) := fun H locs ls h1 h2 h3 => lv_land X.1 X.2.1 d (by rw [hv]; exact k H locs ls h1 h2 h3)
theorem r_lorK (X : CxK γ l o own cc n r fr lo P) {x y v : Int64} (d : decode cc pc = .ok (.lor, 1)) (hv : x ||| y = v) (k : VK γ o n mi ml (pc + 1) lv (.long v :: rest)) : VK γ o n mi ml (pc) lv (.long y :: .long x :: rest) := fun H locs ls h1 h2 h3 => lv_lor X.1 X.2.1 d (by rw [hv]; exact k H locs ls h1 h2 h3)
theorem r_lxorK (X : CxK γ l o own cc n r fr lo P) {x y v : Int64} (d : decode cc pc = .ok (.lxor, 1)) (hv : x ^^^ y = v) (k : VK γ o n mi ml (pc + 1) lv (.long v :: rest)) : VK γ o n mi ml (pc) lv (.long y :: .long x :: rest) := fun H locs ls h1 h2 h3 => lv_lxor X.1 X.2.1 d (by rw [hv]; exact k H locs ls h1 h2 h3)
theorem r_lremK (X : CxK γ l o own cc n r fr lo P) {x y v : Int64} (d : decode cc pc = .ok (.lrem, 1)) (hne : ¬ y = 0) (hv : x - x / y * y = v) (k : VK γ o n mi ml (pc + 1) lv (.long v :: rest)) : VK γ o n mi ml (pc) lv (.long y :: .long x :: rest) := fun H locs ls h1 h2 h3 => lv_lrem X.1 X.2.1 d hne (by rw [hv]; exact k H locs ls h1 h2 h3)
theorem r_i2lK (X : CxK γ l o own cc n r fr lo P) {x : Int32} {v : Int64} (d : decode cc pc = .ok (.i2l, 1)) (hv : x.toInt64 = v) (k : VK γ o n mi ml (pc + 1) lv (.long v :: rest)) : VK γ o n mi ml (pc) lv (.int x :: rest) := fun H locs ls h1 h2 h3 => lv_i2l X.1 X.2.1 d hv (k H locs ls h1 h2 h3)
theorem r_l2iK (X : CxK γ l o own cc n r fr lo P) {x : Int64} {v : Int32} (d : decode cc pc = .ok (.l2i, 1)) (hv : x.toInt32 = v) (k : VK γ o n mi ml (pc + 1) lv (.int v :: rest)) : VK γ o n mi ml (pc) lv (.long x :: rest) := fun H locs ls h1 h2 h3 => lv_l2i X.1 X.2.1 d hv (k H locs ls h1 h2 h3)
theorem r_lushrK (X : CxK γ l o own cc n r fr lo P) {x v : Int64} {y : Int32} (d : decode cc pc = .ok (.lushr, 1)) (hv : (x.toUInt64 >>> (y.toInt64.toUInt64 &&& Int64.toUInt64 63)).toInt64 = v) (k : VK γ o n mi ml (pc + 1) lv (.long v :: rest)) : VK γ o n mi ml (pc) lv (.int y :: .long x :: rest) := fun H locs ls h1 h2 h3 => lv_lushr X.1 X.2.1 d hv (k H locs ls h1 h2 h3)
theorem r_lshlK (X : CxK γ l o own cc n r fr lo P) {x v : Int64} {y : Int32} (d : decode cc pc = .ok (.lshl, 1)) (hv : x <<< (y.toInt64 &&& 63) = v) (k : VK γ o n mi ml (pc + 1) lv (.long v :: rest)) : VK γ o n mi ml (pc) lv (.int y :: .long x :: rest) := fun H locs ls h1 h2 h3 => lv_lshl X.1 X.2.1 d hv (k H locs ls h1 h2 h3)
theorem r_lshrK (X : CxK γ l o own cc n r fr lo P) {x v : Int64} {y : Int32} (d : decode cc pc = .ok (.lshr, 1)) (hv : x >>> (y.toInt64 &&& 63) = v) (k : VK γ o n mi ml (pc + 1) lv (.long v :: rest)) : VK γ o n mi ml (pc) lv (.int y :: .long x :: rest) := fun H locs ls h1 h2 h3 => lv_lshr X.1 X.2.1 d hv (k H locs ls h1 h2 h3)
theorem r_dupK (X : CxK γ l o own cc n r fr lo P) {a : Value} (d : decode cc pc = .ok (.dup, 1)) (ha : a.category = 1) (k : VK γ o n mi ml (pc + 1) lv (a :: a :: rest)) : VK γ o n mi ml (pc) lv (a :: rest) := fun H locs ls h1 h2 h3 => lv_dup X.1 X.2.1 d ha (k H locs ls h1 h2 h3)
theorem r_popK (X : CxK γ l o own cc n r fr lo P) {a : Value} (d : decode cc pc = .ok (.pop, 1)) (ha : a.category = 1) (k : VK γ o n mi ml (pc + 1) lv (rest)) : VK γ o n mi ml (pc) lv (a :: rest) := fun H locs ls h1 h2 h3 => lv_pop X.1 X.2.1 d ha (k H locs ls h1 h2 h3)
theorem r_dup2_2K (X : CxK γ l o own cc n r fr lo P) {a : Value} (d : decode cc pc = .ok (.dup2, 1)) (ha : a.category = 2) (k : VK γ o n mi ml (pc + 1) lv (a :: a :: rest)) : VK γ o n mi ml (pc) lv (a :: rest) := fun H locs ls h1 h2 h3 => lv_dup2_2 X.1 X.2.1 d ha (k H locs ls h1 h2 h3)
theorem r_dup2_11K (X : CxK γ l o own cc n r fr lo P) {a b : Value} (d : decode cc pc = .ok (.dup2, 1)) (ha : a.category = 1) (hb : b.category = 1) (k : VK γ o n mi ml (pc + 1) lv (a :: b :: a :: b :: rest)) : VK γ o n mi ml (pc) lv (a :: b :: rest) := fun H locs ls h1 h2 h3 => lv_dup2_11 X.1 X.2.1 d ha hb (k H locs ls h1 h2 h3)
theorem r_lcmpK (X : CxK γ l o own cc n r fr lo P) {x y : Int64} (d : decode cc pc = .ok (.lcmp, 1)) (k : VK γ o n mi ml (pc + 1) lv (.int (lg_cmp x y) :: rest)) : VK γ o n mi ml (pc) lv (.long y :: .long x :: rest) := fun H locs ls h1 h2 h3 => W.lcmp X.1 X.2.1 d (k H locs ls h1 h2 h3)
theorem r_gotoK (X : CxK γ l o own cc n r fr lo P) {off : Int} {tgt : Nat} (d : decode cc pc = .ok (.goto off, 3)) (ht : (pc : Int) + off = (tgt : Int)) (k : VK γ o n mi ml (tgt) lv (rest)) : VK γ o n mi ml (pc) lv (rest) := fun H locs ls h1 h2 h3 => lv_goto X.1 X.2.1 d ht (k H locs ls h1 h2 h3)
theorem r_ifeqK (X : CxK γ l o own cc n r fr lo P) {x : Int32} {c : Prop} {off : Int} {tgt : Nat} (d : decode cc pc = .ok (.ifCond .eq off, 3)) (ht : (pc : Int) + off = (tgt : Int)) (hc : (x = 0) ↔ c) (kt : c → VK γ o n mi ml (tgt) lv (rest)) (kf : ¬ c → VK γ o n mi ml (pc + 3) lv (rest)) : VK γ o n mi ml (pc) lv (.int x :: rest) := fun H locs ls h1 h2 h3 => lv_if_eq X.1 X.2.1 d ht (fun q => kt (hc.mp q) H locs ls h1 h2 h3) (fun q => kf (fun z => q (hc.mpr z)) H locs ls h1 h2 h3)
theorem r_iceqK (X : CxK γ l o own cc n r fr lo P) {x y : Int32} {c : Prop} {off : Int} {tgt : Nat} (d : decode cc pc = .ok (.if_icmp .eq off, 3)) (ht : (pc : Int) + off = (tgt : Int)) (hc : (x = y) ↔ c) (kt : c → VK γ o n mi ml (tgt) lv (rest)) (kf : ¬ c → VK γ o n mi ml (pc + 3) lv (rest)) : VK γ o n mi ml (pc) lv (.int y :: .int x :: rest) := fun H locs ls h1 h2 h3 => lv_icmp_eq X.1 X.2.1 d ht (fun q => kt (hc.mp q) H locs ls h1 h2 h3) (fun q => kf (fun z => q (hc.mpr z)) H locs ls h1 h2 h3)
theorem r_ifneK (X : CxK γ l o own cc n r fr lo P) {x : Int32} {c : Prop} {off : Int} {tgt : Nat} (d : decode cc pc = .ok (.ifCond .ne off, 3)) (ht : (pc : Int) + off = (tgt : Int)) (hc : (¬ x = 0) ↔ c) (kt : c → VK γ o n mi ml (tgt) lv (rest)) (kf : ¬ c → VK γ o n mi ml (pc + 3) lv (rest)) : VK γ o n mi ml (pc) lv (.int x :: rest) := fun H locs ls h1 h2 h3 => lv_if_ne X.1 X.2.1 d ht (fun q => kt (hc.mp q) H locs ls h1 h2 h3) (fun q => kf (fun z => hc.mpr z q) H locs ls h1 h2 h3)
theorem r_icneK (X : CxK γ l o own cc n r fr lo P) {x y : Int32} {c : Prop} {off : Int} {tgt : Nat} (d : decode cc pc = .ok (.if_icmp .ne off, 3)) (ht : (pc : Int) + off = (tgt : Int)) (hc : (¬ x = y) ↔ c) (kt : c → VK γ o n mi ml (tgt) lv (rest)) (kf : ¬ c → VK γ o n mi ml (pc + 3) lv (rest)) : VK γ o n mi ml (pc) lv (.int y :: .int x :: rest) := fun H locs ls h1 h2 h3 => lv_icmp_ne X.1 X.2.1 d ht (fun q => kt (hc.mp q) H locs ls h1 h2 h3) (fun q => kf (fun z => hc.mpr z q) H locs ls h1 h2 h3)
theorem r_ifltK (X : CxK γ l o own cc n r fr lo P) {x : Int32} {c : Prop} {off : Int} {tgt : Nat} (d : decode cc pc = .ok (.ifCond .lt off, 3)) (ht : (pc : Int) + off = (tgt : Int)) (hc : (x < 0) ↔ c) (kt : c → VK γ o n mi ml (tgt) lv (rest)) (kf : ¬ c → VK γ o n mi ml (pc + 3) lv (rest)) : VK γ o n mi ml (pc) lv (.int x :: rest) := fun H locs ls h1 h2 h3 => lv_if_lt X.1 X.2.1 d ht (fun q => kt (hc.mp q) H locs ls h1 h2 h3) (fun q => kf (fun z => q (hc.mpr z)) H locs ls h1 h2 h3)
theorem r_icltK (X : CxK γ l o own cc n r fr lo P) {x y : Int32} {c : Prop} {off : Int} {tgt : Nat} (d : decode cc pc = .ok (.if_icmp .lt off, 3)) (ht : (pc : Int) + off = (tgt : Int)) (hc : (x < y) ↔ c) (kt : c → VK γ o n mi ml (tgt) lv (rest)) (kf : ¬ c → VK γ o n mi ml (pc + 3) lv (rest)) : VK γ o n mi ml (pc) lv (.int y :: .int x :: rest) := fun H locs ls h1 h2 h3 => lv_icmp_lt X.1 X.2.1 d ht (fun q => kt (hc.mp q) H locs ls h1 h2 h3) (fun q => kf (fun z => q (hc.mpr z)) H locs ls h1 h2 h3)
theorem r_ifgeK (X : CxK γ l o own cc n r fr lo P) {x : Int32} {c : Prop} {off : Int} {tgt : Nat} (d : decode cc pc = .ok (.ifCond .ge off, 3)) (ht : (pc : Int) + off = (tgt : Int)) (hc : (0 ≤ x) ↔ c) (kt : c → VK γ o n mi ml (tgt) lv (rest)) (kf : ¬ c → VK γ o n mi ml (pc + 3) lv (rest)) : VK γ o n mi ml (pc) lv (.int x :: rest) := fun H locs ls h1 h2 h3 => lv_if_ge X.1 X.2.1 d ht (fun q => kt (hc.mp q) H locs ls h1 h2 h3) (fun q => kf (fun z => q (hc.mpr z)) H locs ls h1 h2 h3)
theorem r_icgeK (X : CxK γ l o own cc n r fr lo P) {x y : Int32} {c : Prop} {off : Int} {tgt : Nat} (d : decode cc pc = .ok (.if_icmp .ge off, 3)) (ht : (pc : Int) + off = (tgt : Int)) (hc : (y ≤ x) ↔ c) (kt : c → VK γ o n mi ml (tgt) lv (rest)) (kf : ¬ c → VK γ o n mi ml (pc + 3) lv (rest)) : VK γ o n mi ml (pc) lv (.int y :: .int x :: rest) := fun H locs ls h1 h2 h3 => lv_icmp_ge X.1 X.2.1 d ht (fun q => kt (hc.mp q) H locs ls h1 h2 h3) (fun q => kf (fun z => q (hc.mpr z)) H locs ls h1 h2 h3)
theorem r_ifgtK (X : CxK γ l o own cc n r fr lo P) {x : Int32} {c : Prop} {off : Int} {tgt : Nat} (d : decode cc pc = .ok (.ifCond .gt off, 3)) (ht : (pc : Int) + off = (tgt : Int)) (hc : (0 < x) ↔ c) (kt : c → VK γ o n mi ml (tgt) lv (rest)) (kf : ¬ c → VK γ o n mi ml (pc + 3) lv (rest)) : VK γ o n mi ml (pc) lv (.int x :: rest) := fun H locs ls h1 h2 h3 => lv_if_gt X.1 X.2.1 d ht (fun q => kt (hc.mp q) H locs ls h1 h2 h3) (fun q => kf (fun z => q (hc.mpr z)) H locs ls h1 h2 h3)
theorem r_icgtK (X : CxK γ l o own cc n r fr lo P) {x y : Int32} {c : Prop} {off : Int} {tgt : Nat} (d : decode cc pc = .ok (.if_icmp .gt off, 3)) (ht : (pc : Int) + off = (tgt : Int)) (hc : (y < x) ↔ c) (kt : c → VK γ o n mi ml (tgt) lv (rest)) (kf : ¬ c → VK γ o n mi ml (pc + 3) lv (rest)) : VK γ o n mi ml (pc) lv (.int y :: .int x :: rest) := fun H locs ls h1 h2 h3 => lv_icmp_gt X.1 X.2.1 d ht (fun q => kt (hc.mp q) H locs ls h1 h2 h3) (fun q => kf (fun z => q (hc.mpr z)) H locs ls h1 h2 h3)
theorem r_ifleK (X : CxK γ l o own cc n r fr lo P) {x : Int32} {c : Prop} {off : Int} {tgt : Nat} (d : decode cc pc = .ok (.ifCond .le off, 3)) (ht : (pc : Int) + off = (tgt : Int)) (hc : (x ≤ 0) ↔ c) (kt : c → VK γ o n mi ml (tgt) lv (rest)) (kf : ¬ c → VK γ o n mi ml (pc + 3) lv (rest)) : VK γ o n mi ml (pc) lv (.int x :: rest) := fun H locs ls h1 h2 h3 => lv_if_le X.1 X.2.1 d ht (fun q => kt (hc.mp q) H locs ls h1 h2 h3) (fun q => kf (fun z => q (hc.mpr z)) H locs ls h1 h2 h3)
theorem r_icleK (X : CxK γ l o own cc n r fr lo P) {x y : Int32} {c : Prop} {off : Int} {tgt : Nat} (d : decode cc pc = .ok (.if_icmp .le off, 3)) (ht : (pc : Int) + off = (tgt : Int)) (hc : (x ≤ y) ↔ c) (kt : c → VK γ o n mi ml (tgt) lv (rest)) (kf : ¬ c → VK γ o n mi ml (pc + 3) lv (rest)) : VK γ o n mi ml (pc) lv (.int y :: .int x :: rest) := fun H locs ls h1 h2 h3 => lv_icmp_le X.1 X.2.1 d ht (fun q => kt (hc.mp q) H locs ls h1 h2 h3) (fun q => kf (fun z => q (hc.mpr z)) H locs ls h1 h2 h3)
theorem r_ifeqBK (X : CxK γ l o own cc n r fr lo P) {b : Bool} {off : Int} {tgt : Nat} (d : decode cc pc = .ok (.ifCond .eq off, 3)) (ht : (pc : Int) + off = (tgt : Int)) (kt : b = false → VK γ o n mi ml (tgt) lv (rest)) (kf : b = true → VK γ o n mi ml (pc + 3) lv (rest)) : VK γ o n mi ml (pc) lv (.int (bI b) :: rest) := r_ifeqK X d ht (bI_eq0 b) kt (fun q => kf (by simpa using q))
theorem r_ifneBK (X : CxK γ l o own cc n r fr lo P) {b : Bool} {off : Int} {tgt : Nat} (d : decode cc pc = .ok (.ifCond .ne off, 3)) (ht : (pc : Int) + off = (tgt : Int)) (kt : b = true → VK γ o n mi ml (tgt) lv (rest)) (kf : b = false → VK γ o n mi ml (pc + 3) lv (rest)) : VK γ o n mi ml (pc) lv (.int (bI b) :: rest) := r_ifneK X d ht (c := b = true) (by rw [bI_eq0]; simp) kt (fun q => kf (by simpa using q))
theorem r_end_iK (X : CxK γ l o own cc n (some .int) fr lo P) {v : Int32} (d : decode cc pc = .ok (.ireturn, 1)) (h : P (some (.int v)) mi ml) : VK γ o n mi ml pc lv [.int v] := by
  intro H locs ls h1 h2 h3
  rw [X.2.2.2.2.2.2.2.2.2.2.2]
  exact W.iret (Qc := QofK o P) X.1 X.2.1 X.2.2.2.2.2.2.1 (fun t ht _ => ⟨⟨_, mi, ml, rfl, h, by rw [ht]; exact h1⟩, h2.F ht⟩) h2.2.2 d X.2.2.2.2.2.2.2.1
theorem r_end_zK (X : CxK γ l o own cc n (some .boolean) fr lo P) {v : Int32} (hn : narrow .boolean (.int v) = .int v) (d : decode cc pc = .ok (.ireturn, 1)) (h : P (some (.int v)) mi ml) : VK γ o n mi ml pc lv [.int v] := by
  intro H locs ls h1 h2 h3
  rw [X.2.2.2.2.2.2.2.2.2.2.2]
  exact W.zret (Qc := QofK o P) X.1 X.2.1 X.2.2.2.2.2.2.1 hn (fun t ht _ => ⟨⟨_, mi, ml, rfl, h, by rw [ht]; exact h1⟩, h2.F ht⟩) h2.2.2 d X.2.2.2.2.2.2.2.1
theorem r_end_lK (X : CxK γ l o own cc n (some .long) fr lo P) {v : Int64} (d : decode cc pc = .ok (.lreturn, 1)) (h : P (some (.long v)) mi ml) : VK γ o n mi ml pc lv [.long v] := by
  intro H locs ls h1 h2 h3
  rw [X.2.2.2.2.2.2.2.2.2.2.2]
  exact W.lret (Qc := QofK o P) X.1 X.2.1 X.2.2.2.2.2.2.1 (fun t ht _ => ⟨⟨_, mi, ml, rfl, h, by rw [ht]; exact h1⟩, h2.F ht⟩) h2.2.2 d X.2.2.2.2.2.2.2.1
theorem r_end_vK (X : CxK γ l o own cc n none fr lo P) (d : decode cc pc = .ok (.return_, 1)) (h : P none mi ml) : VK γ o n mi ml pc lv [] := by
  intro H locs ls h1 h2 h3
  rw [X.2.2.2.2.2.2.2.2.2.2.2]
  exact W.vret (Qc := QofK o P) X.1 X.2.1 X.2.2.2.2.2.2.1 (fun t ht _ => ⟨⟨_, mi, ml, rfl, h, by rw [ht]; exact h1⟩, h2.F ht⟩) h2.2.2 d X.2.2.2.2.2.2.2.1
theorem r_getK (X : CxK γ l o own cc n r fr lo P) {i ix ci : Nat} {k : Nat} {F : (Nat → Int32) → (Nat → Int64) → List Value} (f : FOK own ix ci k) (hi : i < 78) (hc : ∀ f g, cEK o f g i = .inr (ci, F f g)) {v : Value} (hv : (F (mi i) (ml i))[k]? = some v) (d : decode cc pc = .ok (.getfield ix, 3)) (kk : VK γ o n mi ml (pc + 3) lv (v :: rest)) : VK γ o n mi ml pc lv (.ref (ads o i) :: rest) := by
  intro H locs ls h1 h2 h3
  obtain ⟨C, T, N, e1, e2, e3, e4⟩ := f
  exact va_get X.1 X.2.1 X.2.2.2.2.1 e2 X.2.2.2.1 X.2.2.2.2.2.1.1 h1 i (by rw [cells_atK o mi ml hi, hc]) e1 k e3 (X.2.2.2.2.1 _ e4) (fun _ h => h) hv d (kk H locs ls h1 h2 h3)
theorem r_putK (X : CxK γ l o own cc n r fr lo P) {i ix ci : Nat} {k : Nat} {F : (Nat → Int32) → (Nat → Int64) → List Value} {ty : FieldType} (f : FOKw own ix ci k ty) (hi : i < 78) (hc : ∀ f g, cEK o f g i = .inr (ci, F f g)) {v : Value} {mi' : MI} {ml' : ML} (hm : ∀ j, j ≠ i → mi' j = mi j ∧ ml' j = ml j) (hs : F (mi' i) (ml' i) = (F (mi i) (ml i)).set k v) (hl : k < (F (mi i) (ml i)).length) (hn : narrow ty v = v) (hf : fits ty v = true) (d : decode cc pc = .ok (.putfield ix, 3)) (kk : VK γ o n mi' ml' (pc + 3) lv rest) : VK γ o n mi ml pc lv (v :: .ref (ads o i) :: rest) := by
  intro H locs ls h1 h2 h3
  obtain ⟨C, T, N, ty0, e1, e2, e3, e4, e5, e6, e7, e8⟩ := f
  refine va_put X.1 X.2.1 X.2.2.2.2.1 e2 ty0 e5 e6 X.2.2.2.1 X.2.2.2.2.2.1.1 h1 (cells_DK o mi ml) h2 i (by rw [cells_atK o mi ml hi, hc]) e1 k e3 (X.2.2.2.2.1 _ e4) (fun _ h => h) e7 e8 hn hf hl d (fun H1 locs1 g1 g2 g3 => ?_)
  rw [cells_setK o (mi' := mi') (ml' := ml') hi hm (by rw [hc, hs])] at g1
  exact kk H1 locs1 ls g1 g3 h3
theorem r_putIK (X : CxK γ l o own cc n r fr lo P) {i ix ci : Nat} {k : Nat} {F : (Nat → Int32) → (Nat → Int64) → List Value} (f : FOKw own ix ci k .int) (hi : i < 78) (hc : ∀ f g, cEK o f g i = .inr (ci, F f g)) {x : Int32} (hs : ∀ f g, F (uf f k x) g = (F f g).set k (.int x)) (hl : k < (F (mi i) (ml i)).length) (d : decode cc pc = .ok (.putfield ix, 3)) (kk : VK γ o n (u2 mi i k x) ml (pc + 3) lv rest) : VK γ o n mi ml pc lv (.int x :: .ref (ads o i) :: rest) :=
  r_putK X f hi hc (fun j hj => ⟨u2_n mi k x hj, rfl⟩) (by rw [u2_s]; exact hs _ _) hl rfl rfl d kk
theorem r_putZK (X : CxK γ l o own cc n r fr lo P) {i ix ci : Nat} {k : Nat} {F : (Nat → Int32) → (Nat → Int64) → List Value} (f : FOKw own ix ci k .boolean) (hi : i < 78) (hc : ∀ f g, cEK o f g i = .inr (ci, F f g)) {x : Int32} (hs : ∀ f g, F (uf f k x) g = (F f g).set k (.int x)) (hl : k < (F (mi i) (ml i)).length) (hn : narrow .boolean (.int x) = .int x) (hf : fits .boolean (.int x) = true) (d : decode cc pc = .ok (.putfield ix, 3)) (kk : VK γ o n (u2 mi i k x) ml (pc + 3) lv rest) : VK γ o n mi ml pc lv (.int x :: .ref (ads o i) :: rest) :=
  r_putK X f hi hc (fun j hj => ⟨u2_n mi k x hj, rfl⟩) (by rw [u2_s]; exact hs _ _) hl hn hf d kk
theorem r_putLK (X : CxK γ l o own cc n r fr lo P) {i ix ci : Nat} {k : Nat} {F : (Nat → Int32) → (Nat → Int64) → List Value} (f : FOKw own ix ci k .long) (hi : i < 78) (hc : ∀ f g, cEK o f g i = .inr (ci, F f g)) {x : Int64} (hs : ∀ f g, F f (uf g k x) = (F f g).set k (.long x)) (hl : k < (F (mi i) (ml i)).length) (d : decode cc pc = .ok (.putfield ix, 3)) (kk : VK γ o n mi (u2 ml i k x) (pc + 3) lv rest) : VK γ o n mi ml pc lv (.long x :: .ref (ads o i) :: rest) :=
  r_putK X f hi hc (fun j hj => ⟨rfl, u2_n ml k x hj⟩) (by rw [u2_s]; exact hs _ _) hl rfl rfl d kk
theorem r_ialdK (X : CxK γ l o own cc n r fr lo P) {i m j : Nat} {v : Int32} (hi : i < 78) (hc : ∀ f g, cEK o f g i = aI o m f) (hm : m < 2 ^ 31) (hj : j < m) (hv : mi i j = v) (d : decode cc pc = .ok (.iaload, 1)) (k : VK γ o n mi ml (pc + 1) lv (.int v :: rest)) : VK γ o n mi ml pc lv (.int (nI j) :: .ref (ads o i) :: rest) := by
  intro H locs ls h1 h2 h3
  refine va_iald X.1 X.2.1 X.2.2.2.2.2.1.1 h1 i 0 (f := mi i) (n := m) (cA := o.2.2 0) (by rw [cells_atK o mi ml hi, hc]; rfl) rfl (vp_in_nI hj hm) d ?_
  rw [nI_clamp (Nat.lt_trans hj hm), hv]
  exact k H locs ls h1 h2 h3
theorem r_zaldK (X : CxK γ l o own cc n r fr lo P) {i m j : Nat} {v : Int32} (hi : i < 78) (hc : ∀ f g, cEK o f g i = aZ o m f) (hm : m < 2 ^ 31) (hj : j < m) (hv : mi i j = v) (d : decode cc pc = .ok (.baload, 1)) (k : VK γ o n mi ml (pc + 1) lv (.int v :: rest)) : VK γ o n mi ml pc lv (.int (nI j) :: .ref (ads o i) :: rest) := by
  intro H locs ls h1 h2 h3
  refine va_zald X.1 X.2.1 X.2.2.2.2.2.1.1 h1 i 2 (f := mi i) (n := m) (cA := o.2.2 2) (by rw [cells_atK o mi ml hi, hc]; rfl) rfl (vp_in_nI hj hm) d ?_
  rw [nI_clamp (Nat.lt_trans hj hm), hv]
  exact k H locs ls h1 h2 h3
theorem r_laldK (X : CxK γ l o own cc n r fr lo P) {i m j : Nat} {v : Int64} (hi : i < 78) (hc : ∀ f g, cEK o f g i = aJ o m g) (hm : m < 2 ^ 31) (hj : j < m) (hv : ml i j = v) (d : decode cc pc = .ok (.laload, 1)) (k : VK γ o n mi ml (pc + 1) lv (.long v :: rest)) : VK γ o n mi ml pc lv (.int (nI j) :: .ref (ads o i) :: rest) := by
  intro H locs ls h1 h2 h3
  refine va_lald X.1 X.2.1 X.2.2.2.2.2.1.1 h1 i 1 (f := ml i) (n := m) (cA := o.2.2 1) (by rw [cells_atK o mi ml hi, hc]; rfl) rfl (vp_in_nI hj hm) d ?_
  rw [nI_clamp (Nat.lt_trans hj hm), hv]
  exact k H locs ls h1 h2 h3
theorem r_aaldSK (X : CxK γ l o own cc n r fr lo P) {i m j a : Nat} {F : Nat → Option Nat} (hi : i < 78) (hc : ∀ f g, cEK o f g i = aSt o m F) (hm : m < 2 ^ 31) (hj : j < m) (hv : F j = some a) (d : decode cc pc = .ok (.aaload, 1)) (k : VK γ o n mi ml (pc + 1) lv (.ref a :: rest)) : VK γ o n mi ml pc lv (.int (nI j) :: .ref (ads o i) :: rest) := by
  intro H locs ls h1 h2 h3
  refine va_aldq X.1 X.2.1 X.2.2.2.2.2.1.1 h1 i 4 (f := F) (n := m) (cA := o.2.2 4) (C := "NearMarks$State") (by rw [cells_atK o mi ml hi, hc]; rfl) rfl (vp_in_nI hj hm) d ?_
  rw [nI_clamp (Nat.lt_trans hj hm), hv]
  exact k H locs ls h1 h2 h3
theorem r_aaldIK (X : CxK γ l o own cc n r fr lo P) {i m j a : Nat} {F : Nat → Option Nat} (hi : i < 78) (hc : ∀ f g, cEK o f g i = aIm o m F) (hm : m < 2 ^ 31) (hj : j < m) (hv : F j = some a) (d : decode cc pc = .ok (.aaload, 1)) (k : VK γ o n mi ml (pc + 1) lv (.ref a :: rest)) : VK γ o n mi ml pc lv (.int (nI j) :: .ref (ads o i) :: rest) := by
  intro H locs ls h1 h2 h3
  refine va_aldq X.1 X.2.1 X.2.2.2.2.2.1.1 h1 i 3 (f := F) (n := m) (cA := o.2.2 3) (C := "NearMarks$Image") (by rw [cells_atK o mi ml hi, hc]; rfl) rfl (vp_in_nI hj hm) d ?_
  rw [nI_clamp (Nat.lt_trans hj hm), hv]
  exact k H locs ls h1 h2 h3
theorem r_iastK (X : CxK γ l o own cc n r fr lo P) {i m j : Nat} {x : Int32} (hi : i < 78) (hc : ∀ f g, cEK o f g i = aI o m f) (hm : m < 2 ^ 31) (hj : j < m) (d : decode cc pc = .ok (.iastore, 1)) (k : VK γ o n (u2 mi i j x) ml (pc + 1) lv rest) : VK γ o n mi ml pc lv (.int x :: .int (nI j) :: .ref (ads o i) :: rest) := by
  intro H locs ls h1 h2 h3
  refine va_iast X.1 X.2.1 X.2.2.2.2.2.1.1 h1 (cells_DK o mi ml) h2 i 0 (f := mi i) (n := m) (cA := o.2.2 0) (by rw [cells_atK o mi ml hi, hc]; rfl) rfl (vp_in_nI hj hm) d (fun H1 locs1 g1 g2 g3 => ?_)
  rw [nI_clamp (Nat.lt_trans hj hm), cells_setK o (mi' := u2 mi i j x) (ml' := ml) hi (fun q hq => ⟨u2_n mi j x hq, rfl⟩) (by rw [hc, u2_s]; rfl)] at g1
  exact k H1 locs1 ls g1 g3 h3
theorem r_zastK (X : CxK γ l o own cc n r fr lo P) {i m j : Nat} {x : Int32} (hx : vp_nar .boolean x = x) (hi : i < 78) (hc : ∀ f g, cEK o f g i = aZ o m f) (hm : m < 2 ^ 31) (hj : j < m) (d : decode cc pc = .ok (.bastore, 1)) (k : VK γ o n (u2 mi i j x) ml (pc + 1) lv rest) : VK γ o n mi ml pc lv (.int x :: .int (nI j) :: .ref (ads o i) :: rest) := by
  intro H locs ls h1 h2 h3
  refine va_zast X.1 X.2.1 X.2.2.2.2.2.1.1 h1 (cells_DK o mi ml) h2 i 2 (f := mi i) (n := m) (cA := o.2.2 2) (by rw [cells_atK o mi ml hi, hc]; rfl) rfl (vp_in_nI hj hm) d (fun H1 locs1 g1 g2 g3 => ?_)
  rw [nI_clamp (Nat.lt_trans hj hm), hx, cells_setK o (mi' := u2 mi i j x) (ml' := ml) hi (fun q hq => ⟨u2_n mi j x hq, rfl⟩) (by rw [hc, u2_s]; rfl)] at g1
  exact k H1 locs1 ls g1 g3 h3
theorem r_lastK (X : CxK γ l o own cc n r fr lo P) {i m j : Nat} {x : Int64} (hi : i < 78) (hc : ∀ f g, cEK o f g i = aJ o m g) (hm : m < 2 ^ 31) (hj : j < m) (d : decode cc pc = .ok (.lastore, 1)) (k : VK γ o n mi (u2 ml i j x) (pc + 1) lv rest) : VK γ o n mi ml pc lv (.long x :: .int (nI j) :: .ref (ads o i) :: rest) := by
  intro H locs ls h1 h2 h3
  refine va_last X.1 X.2.1 X.2.2.2.2.2.1.1 h1 (cells_DK o mi ml) h2 i 1 (f := ml i) (n := m) (cA := o.2.2 1) (by rw [cells_atK o mi ml hi, hc]; rfl) rfl (vp_in_nI hj hm) d (fun H1 locs1 g1 g2 g3 => ?_)
  rw [nI_clamp (Nat.lt_trans hj hm), cells_setK o (mi' := mi) (ml' := u2 ml i j x) hi (fun q hq => ⟨rfl, u2_n ml j x hq⟩) (by rw [hc, u2_s]; rfl)] at g1
  exact k H1 locs1 ls g1 g3 h3
theorem r_tswInK (X : CxK γ l o own cc n r fr lo P) {dflt lo0 hi0 : Int} {offs : Array Int} {len : Nat} {x : Int32} {off : Int} {tgt : Nat} (d : decode cc pc = .ok (.tableswitch dflt lo0 hi0 offs, len)) (a1 : ¬ x.toInt < lo0) (a2 : ¬ hi0 < x.toInt) (ho : offs[(x.toInt - lo0).toNat]? = some off) (ht : (pc : Int) + off = (tgt : Int)) (k : VK γ o n mi ml tgt lv rest) : VK γ o n mi ml pc lv (.int x :: rest) := fun H locs ls h1 h2 h3 => lv_tableIn X.1 X.2.1 d a1 a2 ho ht (k H locs ls h1 h2 h3)
theorem r_tswOutK (X : CxK γ l o own cc n r fr lo P) {dflt lo0 hi0 : Int} {offs : Array Int} {len : Nat} {x : Int32} {tgt : Nat} (d : decode cc pc = .ok (.tableswitch dflt lo0 hi0 offs, len)) (h : x.toInt < lo0 ∨ hi0 < x.toInt) (ht : (pc : Int) + dflt = (tgt : Int)) (k : VK γ o n mi ml tgt lv rest) : VK γ o n mi ml pc lv (.int x :: rest) := fun H locs ls h1 h2 h3 => lv_tableOut X.1 X.2.1 d h ht (k H locs ls h1 h2 h3)
theorem PofK.blind {A : List Value} : FrameBlind (PofK o A mi ml) := fun a U g mk q => by
  obtain ⟨q0, q1, q2⟩ := q
  exact ⟨q0, q1, Kp.warm (s := U) (U := U.calling g mk a) (State.WarmedH.refl U) q2⟩
theorem VK.run {P' : Option Value → MI → ML → Prop} {a : Array Value} (hr : ∀ (H : Heap) (locs : List Loc) (ls : Array Slot), WpK o mi ml H → va_S (isAK o) γ.s.heap H locs → lv_has ls n lv → va_Run γ.p γ.l γ.e γ.R γ.s γ.m γ.a γ.b γ.me γ.c H locs 0 0 0 0 (F0 γ.m pc ls st) rest (QofK o P' a) (isAK o))
    (kk : ∀ (v : Option Value) (mi' : MI) (ml' : ML), P' v mi' ml' → VK γ o n mi' ml' (pc + 3) lv (v.toList ++ rest)) : VK γ o n mi ml pc lv st := by
  intro H locs ls h1 h2 h3 T hT Z
  obtain ⟨v, st₀, t, T', L, h0, Z', hL, e1, e2, ⟨⟨v', mi', ml', hv, hp, hw⟩, hz, hk⟩, sg⟩ := hr H locs ls h1 h2 h3 T hT Z
  cases hv
  rw [h0] at hz hk
  obtain ⟨t2, a1, b1⟩ := kk v mi' ml' hp T'.heap (locs ++ L) ls (by rw [e1]; exact hw)
    ⟨Nat.le_trans h2.1 (by rw [e1]; exact hz), fun q g1 g2 => by rw [e1, hk q (Nat.lt_of_lt_of_le g1 h2.1) g2]; exact h2.2.1 q g1 g2, fun q hq => by
      rcases List.mem_append.mp hq with h | h
      · exact h2.2.2 q h
      · exact hL q h⟩ h3 T' rfl Z'
  exact ⟨t2, sg t2 a1, b1⟩
theorem r_callSK (X : CxK γ l o own cc n r fr lo P) {y : MethodName} {cc' : ByteArray} {n' : Nat} {r' : Option FieldType} {fr' lo' k ix : Nat} {As : List Value} {P' : Option Value → MI → ML → Prop} (hC : ConK l y cc' n' r' fr' lo' o As mi ml P') (Y : SOK y cc' n' r' k) (w : Cond.methodLink own ix y ∈ gtbl) (hk : As.length = k) (hR : fr' + 1 ≤ fr ∧ 8 + (n' + 11) + lo' ≤ lo) (hst : st = As.reverse ++ rest) (hW : (rest.map fun v => v.category).sum ≤ 8) (d : decode cc pc = .ok (.invokestatic ix, 3))
    (kk : ∀ (v : Option Value) (mi' : MI) (ml' : ML), P' v mi' ml' → VK γ o n mi' ml' (pc + 3) lv (v.toList ++ rest)) : VK γ o n mi ml pc lv st := by
  obtain ⟨x1, x2, x3, x4, x5, x6, x7, x8, x9, x10, x11, x12⟩ := X
  subst x9; subst x10; subst x11
  obtain ⟨y1, y2, y3, y4⟩ := Y
  refine VK.run (fun H locs ls h1 h2 h3 => va_runS (As := As) (g := F0 γ.m pc ls st) ⟨x1, x2, x3, x4, x5⟩ hC (va_cwS k x5 ?_ rfl rfl rfl y4 hR) ⟨PofK.blind, fun U hU hWu => ⟨rfl, by rw [hU]; exact h1, x6.warm hWu⟩⟩ rfl hk h3.1 hst (lv_room hW) d ⟨Nat.zero_le _, Nat.zero_le _⟩) kk
  intro w' hw'
  rcases List.mem_append.mp hw' with h | h
  · have h' : w' = .methodLink own ix y ∨ w' = .static y ∨ w' = .initialized y.cls := by simpa using h
    rcases h' with rfl | rfl | rfl
    · exact gtbl_good _ w
    · exact gtbl_good _ y1
    · exact gtbl_good _ y2
  · exact wsY_good y3 _ h
theorem r_callNK (X : CxK γ l o own cc n r fr lo P) {y : MethodName} {cc' : ByteArray} {n' : Nat} {r' : Option FieldType} {fr' lo' k ix : Nat} {host : String} {As : List Value} {P' : Option Value → MI → ML → Prop} (hC : ConK l y cc' n' r' fr' lo' o As mi ml P') (Y : SOK y cc' n' r' k) (w : (own, ix, y, host) ∈ nst) (hk : As.length = k) (hR : fr' + 1 ≤ fr ∧ 8 + (n' + 11) + lo' ≤ lo) (hst : st = As.reverse ++ rest) (hW : (rest.map fun v => v.category).sum ≤ 8) (d : decode cc pc = .ok (.invokestatic ix, 3))
    (kk : ∀ (v : Option Value) (mi' : MI) (ml' : ML), P' v mi' ml' → VK γ o n mi' ml' (pc + 3) lv (v.toList ++ rest)) : VK γ o n mi ml pc lv st := by
  obtain ⟨x1, x2, x3, x4, x5, x6, x7, x8, x9, x10, x11, x12⟩ := X
  subst x9; subst x10; subst x11
  obtain ⟨y1, y2, y3, y4⟩ := Y
  exact VK.run (fun H locs ls h1 h2 h3 => va_runSN (As := As) (g := F0 γ.m pc ls st) (host := host) ⟨x1, x2, x3, x4, x5⟩ hC ⟨va_cnB k x5 (wsY_good y3) rfl rfl rfl (x6.2 _ w) (x5 _ y2) y4 hR, x5 _ y1, trivial⟩ ⟨PofK.blind, fun U hU hWu => ⟨rfl, by rw [hU]; exact h1, x6.warm hWu⟩⟩ rfl hk h3.1 hst (lv_room hW) d ⟨Nat.zero_le _, Nat.zero_le _⟩) kk
theorem r_callVK (X : CxK γ l o own cc n r fr lo P) {y : MethodName} {cc' : ByteArray} {n' : Nat} {r' : Option FieldType} {fr' lo' k ix i ci : Nat} {F : (Nat → Int32) → (Nat → Int64) → List Value} {T : u_T} {N : Nat} {As : List Value} {P' : Option Value → MI → ML → Prop} (hC : ConK l y cc' n' r' fr' lo' o (.ref (ads o i) :: As) mi ml P') (Y : VOK y cc' n' r' k) (w : Cond.methodLink own ix y ∈ gtbl) (hk : As.length = k) (hi : i < 78) (hc : ∀ f g, cEK o f g i = .inr (ci, F f g)) (hcl : vcl[ci]? = some (y.cls, T, N)) (hR : fr' + 1 ≤ fr ∧ 8 + (n' + 11) + lo' ≤ lo) (hst : st = As.reverse ++ .ref (ads o i) :: rest) (hW : (rest.map fun v => v.category).sum ≤ 8) (d : decode cc pc = .ok (.invokevirtual ix, 3))
    (kk : ∀ (v : Option Value) (mi' : MI) (ml' : ML), P' v mi' ml' → VK γ o n mi' ml' (pc + 3) lv (v.toList ++ rest)) : VK γ o n mi ml pc lv st := by
  obtain ⟨x1, x2, x3, x4, x5, x6, x7, x8, x9, x10, x11, x12⟩ := X
  subst x9; subst x10; subst x11
  obtain ⟨y1, y2, y3, y4, y5⟩ := Y
  refine VK.run (fun H locs ls h1 h2 h3 => va_runV (C := y.cls) (As := As) (g := F0 γ.m pc ls st) ⟨x1, x2, x3, x4, x5⟩ hC (cwV k x5 ?_ rfl rfl rfl ⟨rfl, y5⟩ hR) ⟨PofK.blind, va_recv x6.1 h1 (q0 := i) hcl (by rw [cells_atK o mi ml hi, hc]), fun U hU hWu => ⟨rfl, by rw [hU]; exact h1, x6.warm hWu⟩⟩ rfl hk h3.1 hst (lv_room hW) d ⟨Nat.zero_le _, Nat.zero_le _⟩) kk
  intro w' hw'
  rcases List.mem_append.mp hw' with h | h
  · have h' : w' = .methodLink own ix y ∨ w' = .instanceMethod y ∨ w' = .selects y.cls y y ∨ w' = .initialized y.cls := by simpa using h
    rcases h' with rfl | rfl | rfl | rfl
    · exact gtbl_good _ w
    · exact gtbl_good _ y1
    · exact gtbl_good _ y2
    · exact gtbl_good _ y3
  · exact wsY_good y4 _ h
def ConDK (l : Launch) (y : MethodName) (cc : ByteArray) (n : Nat) (r : Option FieldType) (fr lo : Nat) (o : OM) (A : List Value) (mi : MI) (ml : ML) (v : Option Value) (mi' : MI) (ml' : ML) : Prop := ConK l y cc n r fr lo o A mi ml (fun v0 a b => v0 = v ∧ a = mi' ∧ b = ml')
theorem kDK {mi' : MI} {ml' : ML} {v : Option Value} {st' : List Value} (h : v.toList ++ rest = st') (k : VK γ o n mi' ml' (pc + 3) lv st') : ∀ (v0 : Option Value) (a : MI) (b : ML), v0 = v ∧ a = mi' ∧ b = ml' → VK γ o n a b (pc + 3) lv (v0.toList ++ rest) := by
  rintro _ _ _ ⟨rfl, rfl, rfl⟩
  rw [h]; exact k
theorem r_ifeqQK (X : CxK γ l o own cc n r fr lo P) {x : Int32} {b : Bool} {off : Int} {tgt : Nat} (d : decode cc pc = .ok (.ifCond .eq off, 3)) (ht : (pc : Int) + off = (tgt : Int)) (hc : x = 0 ↔ b = true) (kt : b = true → VK γ o n mi ml tgt lv rest) (kf : b = false → VK γ o n mi ml (pc + 3) lv rest) : VK γ o n mi ml pc lv (.int x :: rest) := r_ifeqK X d ht hc kt (fun q => kf (by simpa using q))
theorem r_ifneQK (X : CxK γ l o own cc n r fr lo P) {x : Int32} {b : Bool} {off : Int} {tgt : Nat} (d : decode cc pc = .ok (.ifCond .ne off, 3)) (ht : (pc : Int) + off = (tgt : Int)) (hc : x = 0 ↔ b = true) (kt : b = false → VK γ o n mi ml tgt lv rest) (kf : b = true → VK γ o n mi ml (pc + 3) lv rest) : VK γ o n mi ml pc lv (.int x :: rest) := r_ifneK X d ht (not_congr hc) (fun q => kt (by simpa using q)) (fun q => kf (by simpa using q))
theorem r_icnePK (X : CxK γ l o own cc n r fr lo P) {x y : Int32} {c : Prop} {off : Int} {tgt : Nat} (d : decode cc pc = .ok (.if_icmp .ne off, 3)) (ht : (pc : Int) + off = (tgt : Int)) (hc : (x = y) ↔ c) (kt : ¬ c → VK γ o n mi ml tgt lv rest) (kf : c → VK γ o n mi ml (pc + 3) lv rest) : VK γ o n mi ml pc lv (.int y :: .int x :: rest) := r_icneK X d ht (not_congr hc) kt (fun q => kf (Classical.not_not.mp q))
theorem r_ifnePK (X : CxK γ l o own cc n r fr lo P) {x : Int32} {c : Prop} {off : Int} {tgt : Nat} (d : decode cc pc = .ok (.ifCond .ne off, 3)) (ht : (pc : Int) + off = (tgt : Int)) (hc : (x = 0) ↔ c) (kt : ¬ c → VK γ o n mi ml tgt lv rest) (kf : c → VK γ o n mi ml (pc + 3) lv rest) : VK γ o n mi ml pc lv (.int x :: rest) := r_ifneK X d ht (not_congr hc) kt (fun q => kf (Classical.not_not.mp q))
end ROWSK
set_option maxHeartbeats 4000000 in
set_option maxRecDepth 100000 in
theorem m_Nm_hasBitK (l : Launch) (o : OM) (mi : MI) (ml : ML) (x : Int64) (k : Nat) (hk : k < 64) : ConDK l y_Nm_hasBit c_Nm_hasBit 3 (some .boolean) 0 0 o [.long (x), .int (nI (k))] mi ml (some (.int (bI (bt x k)))) mi ml := by
  refine ConK.mk (by decide) (Nat.le_of_ble_eq_true rfl) (fun γ X => ?_)
  show VK γ o 3 mi ml 0 [(0, .long (x)), (2, .int (nI (k)))] []
  refine r_lload_nK X 0 d_Nm_hasBit_0 rfl rfl ?_
  refine r_iload_nK X 1 d_Nm_hasBit_1 rfl rfl ?_
  refine r_lushrK X (v := ushr (x) (k)) d_Nm_hasBit_2 (rfl) ?_
  refine r_lconstK X (v := 1) d_Nm_hasBit_3 (by decide) ?_
  refine r_landK X (v := (ushr (x) (k)) &&& (1)) d_Nm_hasBit_4 (rfl) ?_
  refine r_lconstK X (v := 0) d_Nm_hasBit_5 (by decide) ?_
  refine r_lcmpK X d_Nm_hasBit_6 ?_
  have hJ_1 : VK γ o 3 mi ml 15 [(0, .long (x)), (2, .int (nI (k)))] [.int (bI (!(!bt x k)))] := by
    refine r_end_zK X (bI_nar _) d_Nm_hasBit_15 ?_
    first | exact ⟨rfl, rfl, rfl⟩ | (refine ⟨?_, rfl, rfl⟩; simp_all)
  refine r_ifeqQK X (tgt := 14) (b := !bt x k) d_Nm_hasBit_7 (by decide) ((lg_cmp_eq _ _).trans ((has_ushr x hk).trans (by simp))) (fun c_7 => ?_) (fun c_7 => ?_)
  · -- taken
    refine r_iconstK X (v := nI (0)) d_Nm_hasBit_14 (by decide) ?_
    exact VK.eq hJ_1 rfl rfl rfl (by rw [show (!(!bt x k)) = false from by first | (simp only [c_7, decide_true, decide_false, Bool.not_true, Bool.not_false, Bool.true_and, Bool.false_and, Bool.and_true, Bool.and_false, Bool.true_or, Bool.false_or, Bool.or_true, Bool.or_false, if_true, if_false, ite_true, ite_false, cond_true, cond_false, Bool.false_eq_true, reduceIte]; done) | (simp [c_7]; done) | (simp_all; done)]; rfl)
  · -- not taken
    refine r_iconstK X (v := nI (1)) d_Nm_hasBit_10 (by decide) ?_
    refine r_gotoK X (tgt := 15) d_Nm_hasBit_11 (by decide) ?_
    exact VK.eq hJ_1 rfl rfl rfl (by rw [show (!(!bt x k)) = true from by first | (simp only [c_7, decide_true, decide_false, Bool.not_true, Bool.not_false, Bool.true_and, Bool.false_and, Bool.and_true, Bool.and_false, Bool.true_or, Bool.false_or, Bool.or_true, Bool.or_false, if_true, if_false, ite_true, ite_false, cond_true, cond_false, Bool.false_eq_true, reduceIte]; done) | (simp [c_7]; done) | (simp_all; done)]; rfl)

set_option maxHeartbeats 4000000 in
set_option maxRecDepth 100000 in
theorem m_Pt_beginAtK (l : Launch) (o : OM) (mi : MI) (ml : ML) (a : Nat) (x : Int64) (hQ : isPtK a) (hx0 : bt x 0 = true) (hx8 : pop x ≤ 8) : ConK l y_Pt_beginAt c_Pt_beginAt 4 none 1 22 o [.ref (ads o (a)), .long (x)] mi ml (fun v m z => v = none ∧ PtOK m z a x ∧ (∀ t, t ≠ a → t ≠ a + 1 → m t = mi t) ∧ ∀ t, t ≠ a + 2 → z t = ml t) := by
  refine ConK.mk (by decide) (Nat.le_of_ble_eq_true rfl) (fun γ X => ?_)
  show VK γ o 4 mi ml 0 [(0, .ref (ads o (a))), (1, .long (x))] []
  refine r_aload_nK X 0 d_Pt_beginAt_0 rfl rfl ?_
  refine r_iconstK X (v := nI (0)) d_Pt_beginAt_1 (by decide) ?_
  refine r_putIK X fw_Pt_19 hQ.b0 hQ.e0 (fun _ _ => rfl) (Nat.le_of_ble_eq_true rfl) d_Pt_beginAt_2 ?_
  refine r_iconstK X (v := nI (0)) d_Pt_beginAt_5 (by decide) ?_
  refine r_istore_nK X [(3, .int (nI (0))), (0, .ref (ads o (a))), (1, .long (x))] d_Pt_beginAt_6 rfl (Nat.le_of_ble_eq_true rfl) rfl ?_
  have L7_1 : ∀ (d_i i : Nat), i + d_i = 64 → ∀ (mi_L7_1 : MI), ∀ (ml_L7_1 : ML), (∀ t, t ≠ a → t ≠ a + 1 → mi_L7_1 t = mi t) → (∀ t, t ≠ a + 2 → ml_L7_1 t = ml t) → (ptI mi_L7_1 a x i) → (ptL ml_L7_1 a x i) → VK γ o 4 mi_L7_1 ml_L7_1 7 [(0, .ref (ads o (a))), (1, .long (x)), (3, .int (nI (i)))] [] := by
    intro d_i
    induction d_i with
    | zero =>
      intro i hi_L7_1 mi_L7_1 ml_L7_1 hf hg hI hL
      have he_L7_1 : 64 = i := by omega
      subst he_L7_1
      refine r_iload_nK X 2 d_Pt_beginAt_7 rfl rfl ?_
      refine r_bipushK X (v := nI (64)) d_Pt_beginAt_8 (by decide) ?_
      refine r_icgeK X (tgt := 90) (c := 64 ≤ 64) d_Pt_beginAt_10 (by decide) (nI_leI (Nat.le_of_ble_eq_true rfl) (by omega)) (fun c_10 => ?_) (fun c_10 => ?_)
      · -- taken
        refine r_end_vK X d_Pt_beginAt_90 ?_
        exact ⟨rfl, ⟨hI.1, hI.2, fun p hp j hj => by rw [hL p hp j hj, mk_end hj]⟩, hf, hg⟩
      · -- not taken
        exact False.elim (by omega)
    | succ d_i ih_L7_1 =>
      intro i hi_L7_1 mi_L7_1 ml_L7_1 hf hg hI hL
      have hlt_L7_1 : i < 64 := by omega
      have hm1 := ct_mono (bt x) (show i + 1 ≤ 64 by omega)
      have hm2 : ct (bt x) i + (bt x i).toNat ≤ pop x := hm1
      have hm3 : 1 ≤ i → 1 ≤ ct (bt x) i := fun h => by have := ct_mono (bt x) h; rw [show ct (bt x) 1 = 1 from by rw [ct_t hx0]; rfl] at this; exact this
      have hm4 : i = 0 → bt x i = true := fun h => by rw [h]; exact hx0
      refine r_iload_nK X 2 d_Pt_beginAt_7 rfl rfl ?_
      refine r_bipushK X (v := nI (64)) d_Pt_beginAt_8 (by decide) ?_
      refine r_icgeK X (tgt := 90) (c := 64 ≤ i) d_Pt_beginAt_10 (by decide) (nI_leI (Nat.le_of_ble_eq_true rfl) (by omega)) (fun c_10_2 => ?_) (fun c_10_2 => ?_)
      · -- taken
        exact False.elim (by omega)
      · -- not taken
        refine r_lload_nK X 1 d_Pt_beginAt_13 rfl rfl ?_
        refine r_iload_nK X 2 d_Pt_beginAt_14 rfl rfl ?_
        refine r_callNK X (m_Nm_hasBitK l o mi_L7_1 ml_L7_1 x i (by omega)) ok_Nm_hasBit (host := "NearMarks") (by decide +kernel) rfl ⟨Nat.le_of_ble_eq_true rfl, Nat.le_of_ble_eq_true rfl⟩ (rest := []) rfl (Nat.le_of_ble_eq_true rfl) d_Pt_beginAt_15 ?_
        refine kDK (st' := [.int (bI (bt x i))]) rfl ?_
        refine r_ifeqBK X (tgt := 60) (b := bt x i) d_Pt_beginAt_18 (by decide) (fun c_18 => ?_) (fun c_18 => ?_)
        · -- taken
          refine r_aload_nK X 0 d_Pt_beginAt_60 rfl rfl ?_
          refine r_getK X f_Pt_19 hQ.b0 hQ.e0 (v := .int (nI (ct (bt x) i))) (congrArg (fun z => some (Value.int z)) (hI.1)) d_Pt_beginAt_61 ?_
          refine r_ifleK X (tgt := 84) (c := (ct (bt x) i) ≤ 0) d_Pt_beginAt_64 (by decide) ((by rw [← nI_0] <;> exact nI_leI (by omega) (Nat.le_of_ble_eq_true rfl))) (fun c_64 => ?_) (fun c_64 => ?_)
          · -- taken
            exact False.elim (by have e : ¬ i = 0 := fun h => (by have := hm4 h; simp_all); have := hm3 (by omega); omega)
          · -- not taken
            refine r_aload_nK X 0 d_Pt_beginAt_67 rfl rfl ?_
            refine r_getK X f_Pt_15 hQ.b0 hQ.e0 (v := .ref (ads o (a + 2))) rfl d_Pt_beginAt_68 ?_
            refine r_aload_nK X 0 d_Pt_beginAt_71 rfl rfl ?_
            refine r_getK X f_Pt_19 hQ.b0 hQ.e0 (v := .int (nI (ct (bt x) i))) (congrArg (fun z => some (Value.int z)) (hI.1)) d_Pt_beginAt_72 ?_
            refine r_iconstK X (v := nI (1)) d_Pt_beginAt_75 (by decide) ?_
            refine r_isubK X (v := nI (ct (bt x) i - 1)) d_Pt_beginAt_76 (pk_sub (by omega)) ?_
            refine r_dup2_11K X d_Pt_beginAt_77 rfl rfl ?_
            refine r_laldK X (v := ml_L7_1 (a + 2) (ct (bt x) i - 1)) hQ.b2 hQ.e2 (Nat.le_of_ble_eq_true rfl) (by omega) rfl d_Pt_beginAt_78 ?_
            refine r_lconstK X (v := 1) d_Pt_beginAt_79 (by decide) ?_
            refine r_iload_nK X 2 d_Pt_beginAt_80 rfl rfl ?_
            refine r_lshlK X (v := shl (1) (i)) d_Pt_beginAt_81 (rfl) ?_
            refine r_lorK X (v := (ml_L7_1 (a + 2) (ct (bt x) i - 1)) ||| (shl (1) (i))) d_Pt_beginAt_82 (rfl) ?_
            refine r_lastK X hQ.b2 hQ.e2 (Nat.le_of_ble_eq_true rfl) (by omega) d_Pt_beginAt_83 ?_
            refine r_iincK X 2 (v := nI (i + 1)) [(3, .int (nI (i + 1))), (0, .ref (ads o (a))), (1, .long (x))] d_Pt_beginAt_84 rfl (nI_add _ 1) (Nat.le_of_ble_eq_true rfl) rfl ?_
            refine r_gotoK X (tgt := 7) d_Pt_beginAt_87 (by decide) ?_
            refine VK.wk [1, 2, 0] (VK.eq (ih_L7_1 (i + 1) (by omega) (mi_L7_1) ((u2 ml_L7_1 (a + 2) (ct (bt x) i - 1) ((ml_L7_1 (a + 2) (ct (bt x) i - 1)) ||| (shl (1) (i))))) (hf) (fun t h1 => by rw [u2_n _ _ _ h1]; exact hg t h1) (pt_miss_I (by assumption) hI) (pt_miss_L hlt_L7_1 (by assumption) (by omega) hL)) ?_ ?_ ?_ rfl) (rfl : lv_pick _ [1, 2, 0] = [(0, .ref (ads o (a))), (1, .long (x)), (3, .int (nI (i + 1)))])
            · rfl
            · rfl
            · first | rfl | (simp_all [ct, lastB, alB, fromB]; done)
        · -- not taken
          refine r_aload_nK X 0 d_Pt_beginAt_21 rfl rfl ?_
          refine r_getK X f_Pt_19 hQ.b0 hQ.e0 (v := .int (nI (ct (bt x) i))) (congrArg (fun z => some (Value.int z)) (hI.1)) d_Pt_beginAt_22 ?_
          refine r_bipushK X (v := nI (8)) d_Pt_beginAt_25 (by decide) ?_
          refine r_icgeK X (tgt := 60) (c := 8 ≤ (ct (bt x) i)) d_Pt_beginAt_27 (by decide) (nI_leI (Nat.le_of_ble_eq_true rfl) (by omega)) (fun c_27 => ?_) (fun c_27 => ?_)
          · -- taken
            exact False.elim (by have e : (bt x i).toNat = 1 := (by simp_all); omega)
          · -- not taken
            refine r_aload_nK X 0 d_Pt_beginAt_30 rfl rfl ?_
            refine r_getK X f_Pt_9 hQ.b0 hQ.e0 (v := .ref (ads o (a + 1))) rfl d_Pt_beginAt_31 ?_
            refine r_aload_nK X 0 d_Pt_beginAt_34 rfl rfl ?_
            refine r_getK X f_Pt_19 hQ.b0 hQ.e0 (v := .int (nI (ct (bt x) i))) (congrArg (fun z => some (Value.int z)) (hI.1)) d_Pt_beginAt_35 ?_
            refine r_iload_nK X 2 d_Pt_beginAt_38 rfl rfl ?_
            refine r_iastK X hQ.b1 hQ.e1 (Nat.le_of_ble_eq_true rfl) (by have e : (bt x i).toNat = 1 := (by simp_all); omega) d_Pt_beginAt_39 ?_
            refine r_aload_nK X 0 d_Pt_beginAt_40 rfl rfl ?_
            refine r_getK X f_Pt_15 hQ.b0 hQ.e0 (v := .ref (ads o (a + 2))) rfl d_Pt_beginAt_41 ?_
            refine r_aload_nK X 0 d_Pt_beginAt_44 rfl rfl ?_
            refine r_getK X f_Pt_19 hQ.b0 hQ.e0 (v := .int (nI (ct (bt x) i))) (congrArg (fun z => some (Value.int z)) ((by rw [u2_n _ _ _ (by omega)] <;> exact hI.1))) d_Pt_beginAt_45 ?_
            refine r_lconstK X (v := 0) d_Pt_beginAt_48 (by decide) ?_
            refine r_lastK X hQ.b2 hQ.e2 (Nat.le_of_ble_eq_true rfl) (by have e : (bt x i).toNat = 1 := (by simp_all); omega) d_Pt_beginAt_49 ?_
            refine r_aload_nK X 0 d_Pt_beginAt_50 rfl rfl ?_
            refine r_dupK X d_Pt_beginAt_51 rfl ?_
            refine r_getK X f_Pt_19 hQ.b0 hQ.e0 (v := .int (nI (ct (bt x) i))) (congrArg (fun z => some (Value.int z)) ((by rw [u2_n _ _ _ (by omega)] <;> exact hI.1))) d_Pt_beginAt_52 ?_
            refine r_iconstK X (v := nI (1)) d_Pt_beginAt_55 (by decide) ?_
            refine r_iaddK X (v := nI (ct (bt x) i + 1)) d_Pt_beginAt_56 (nI_add _ _) ?_
            refine r_putIK X fw_Pt_19 hQ.b0 hQ.e0 (fun _ _ => rfl) (Nat.le_of_ble_eq_true rfl) d_Pt_beginAt_57 ?_
            refine r_aload_nK X 0 d_Pt_beginAt_60 rfl rfl ?_
            refine r_getK X f_Pt_19 hQ.b0 hQ.e0 (v := .int (nI (ct (bt x) i + 1))) (congrArg (fun z => some (Value.int z)) ((by rw [u2_s, uf_s]))) d_Pt_beginAt_61 ?_
            refine r_ifleK X (tgt := 84) (c := (ct (bt x) i + 1) ≤ 0) d_Pt_beginAt_64 (by decide) ((by rw [← nI_0] <;> exact nI_leI (by omega) (Nat.le_of_ble_eq_true rfl))) (fun c_64_3 => ?_) (fun c_64_3 => ?_)
            · -- taken
              exact False.elim (by omega)
            · -- not taken
              refine r_aload_nK X 0 d_Pt_beginAt_67 rfl rfl ?_
              refine r_getK X f_Pt_15 hQ.b0 hQ.e0 (v := .ref (ads o (a + 2))) rfl d_Pt_beginAt_68 ?_
              refine r_aload_nK X 0 d_Pt_beginAt_71 rfl rfl ?_
              refine r_getK X f_Pt_19 hQ.b0 hQ.e0 (v := .int (nI (ct (bt x) i + 1))) (congrArg (fun z => some (Value.int z)) ((by rw [u2_s, uf_s]))) d_Pt_beginAt_72 ?_
              refine r_iconstK X (v := nI (1)) d_Pt_beginAt_75 (by decide) ?_
              refine r_isubK X (v := nI (ct (bt x) i)) d_Pt_beginAt_76 (pk_sub (a := ct (bt x) i + 1) (b := 1) (by omega)) ?_
              refine r_dup2_11K X d_Pt_beginAt_77 rfl rfl ?_
              refine r_laldK X (v := 0) hQ.b2 hQ.e2 (Nat.le_of_ble_eq_true rfl) (by omega) ((by rw [u2_s, uf_s])) d_Pt_beginAt_78 ?_
              refine r_lconstK X (v := 1) d_Pt_beginAt_79 (by decide) ?_
              refine r_iload_nK X 2 d_Pt_beginAt_80 rfl rfl ?_
              refine r_lshlK X (v := shl (1) (i)) d_Pt_beginAt_81 (rfl) ?_
              refine r_lorK X (v := (0) ||| (shl (1) (i))) d_Pt_beginAt_82 (rfl) ?_
              refine r_lastK X hQ.b2 hQ.e2 (Nat.le_of_ble_eq_true rfl) (by omega) d_Pt_beginAt_83 ?_
              refine r_iincK X 2 (v := nI (i + 1)) [(3, .int (nI (i + 1))), (0, .ref (ads o (a))), (1, .long (x))] d_Pt_beginAt_84 rfl (nI_add _ 1) (Nat.le_of_ble_eq_true rfl) rfl ?_
              refine r_gotoK X (tgt := 7) d_Pt_beginAt_87 (by decide) ?_
              refine VK.wk [1, 2, 0] (VK.eq (ih_L7_1 (i + 1) (by omega) ((u2 (u2 mi_L7_1 (a + 1) (ct (bt x) i) (nI (i))) a 2 (nI (ct (bt x) i + 1)))) ((u2 (u2 ml_L7_1 (a + 2) (ct (bt x) i) (0)) (a + 2) (ct (bt x) i) ((0) ||| (shl (1) (i))))) (fun t h1 h2 => by rw [u2_n _ _ _ h1, u2_n _ _ _ h2]; exact hf t h1 h2) (fun t h1 => by rw [u2_n _ _ _ h1, u2_n _ _ _ h1]; exact hg t h1) (pt_hit_I hlt_L7_1 (by assumption) hI) (pt_hit_L hlt_L7_1 (by assumption) hL)) ?_ ?_ ?_ rfl) (rfl : lv_pick _ [1, 2, 0] = [(0, .ref (ads o (a))), (1, .long (x)), (3, .int (nI (i + 1)))])
              · rfl
              · rfl
              · first | rfl | (simp_all [ct, lastB, alB, fromB]; done)
  refine VK.wk [1, 2, 0] (VK.eq (L7_1 (64 - 0) 0 (by omega) ((u2 mi a 2 (nI (0)))) (ml) (fun t h1 h2 => by rw [u2_n _ _ _ h1]) (fun _ _ => rfl) (⟨by rw [u2_s, uf_s]; rfl, fun p hp => absurd hp (Nat.not_lt_zero p)⟩) (fun p hp => absurd hp (Nat.not_lt_zero p))) ?_ ?_ ?_ rfl) (rfl : lv_pick _ [1, 2, 0] = [(0, .ref (ads o (a))), (1, .long (x)), (3, .int (nI (0)))])
  · rfl
  · rfl
  · rfl

/-- calls out of the law, and out of a constructor, of methods that make nothing -/
def eM (o : OM) (mi : MI) (ml : ML) : Nat → va_E := fun i => cE o (mi i) (ml i) i
def eK (o : OM) (mi : MI) (ml : ML) : Nat → va_E := fun i => cEK o (mi i) (ml i) i
section ROWSL
variable {γ : GT} {l : Launch} {o : OM} {own : String} {cc : ByteArray} {n : Nat} {fr lo rc rs b0 : Nat}
variable {mi : MI} {ml : ML} {c0 s0 : Nat} {pc : Nat} {lv : List (Nat × Value)} {st rest : List Value}
theorem VE.runM {P' : Option Value → MI → ML → Prop} {a : Array Value} (hr : ∀ (H : Heap) (locs : List Loc) (ls : Array Slot), va_P o.2.1 vcl (wsE o 111 (eM o mi ml)) H → va_S (isN o) γ.s.heap H locs → lv_has ls n lv → va_Run γ.p γ.l γ.e γ.R γ.s γ.m γ.a γ.b γ.me γ.c H locs c0 s0 0 0 (F0 γ.m pc ls st) rest (Qof o P' a) (isA o))
    (kk : ∀ (v : Option Value) (mi' : MI) (ml' : ML), P' v mi' ml' → VE γ o n 111 (eM o mi' ml') c0 s0 (pc + 3) lv (v.toList ++ rest)) : VE γ o n 111 (eM o mi ml) c0 s0 pc lv st := by
  intro H locs ls h1 h2 h3 T hT Z
  obtain ⟨v, st₀, t, T', L, h0, Z', hL, e1, e2, ⟨⟨v', mi', ml', hv, hp, hw⟩, hz, hk⟩, sg⟩ := hr H locs ls h1 h2 h3 T hT Z
  cases hv
  rw [h0] at hz hk
  obtain ⟨t2, a1, b1⟩ := kk v mi' ml' hp T'.heap (locs ++ L) ls (by rw [e1]; exact hw)
    ⟨Nat.le_trans h2.1 (by rw [e1]; exact hz), fun q g1 g2 => by rw [e1, hk q (Nat.lt_of_lt_of_le g1 h2.1) (fun z => g2 z.1)]; exact h2.2.1 q g1 g2, fun q hq => by
      rcases List.mem_append.mp hq with h | h
      · exact h2.2.2 q h
      · exact (hL q h).1⟩ h3 T' rfl Z'
  exact ⟨t2, sg t2 a1, b1⟩
theorem v_callM (X : CxE γ l o own cc n fr lo rc rs b0) {y : MethodName} {cc' : ByteArray} {n' : Nat} {r' : Option FieldType} {fr' lo' k ix i ci : Nat} {F : (Nat → Int32) → (Nat → Int64) → List Value} {T : u_T} {N : Nat} {As : List Value} {P' : Option Value → MI → ML → Prop} (hC : Con l y cc' n' r' fr' lo' o (.ref (ads o i) :: As) mi ml P') (Y : VOK y cc' n' r' k) (w : Cond.methodLink own ix y ∈ gtbl) (hk : As.length = k) (hi : i < 111) (hc : ∀ f g, cE o f g i = .inr (ci, F f g)) (hcl : vcl[ci]? = some (y.cls, T, N)) (hR : fr' + 1 ≤ fr ∧ 8 + (n' + 11) + lo' ≤ lo) (hcc : c0 ≤ rc ∧ s0 ≤ rs) (hst : st = As.reverse ++ .ref (ads o i) :: rest) (hW : (rest.map fun v => v.category).sum ≤ 8) (d : decode cc pc = .ok (.invokevirtual ix, 3))
    (kk : ∀ (v : Option Value) (mi' : MI) (ml' : ML), P' v mi' ml' → VE γ o n 111 (eM o mi' ml') c0 s0 (pc + 3) lv (v.toList ++ rest)) : VE γ o n 111 (eM o mi ml) c0 s0 pc lv st := by
  obtain ⟨x1, x2, x3, x4, x5, x6, x7, x8, x9, x10, x11, x12, x13, x14⟩ := X
  subst x9; subst x10; subst x11; subst x12; subst x13
  obtain ⟨y1, y2, y3, y4, y5⟩ := Y
  refine VE.runM (fun H locs ls h1 h2 h3 => va_runV (C := y.cls) (As := As) (g := F0 γ.m pc ls st) ⟨x1, x2, x3, x4, x5⟩ hC (cwV k x5 ?_ rfl rfl rfl ⟨rfl, y5⟩ hR) ⟨Pof.blind, va_recv x6.1 h1 (q0 := i) hcl (by rw [wsE_at o _ hi]; unfold eM; rw [hc]), fun U hU hWu => ⟨rfl, by rw [hU]; exact h1, x6.warm hWu⟩⟩ rfl hk h3.1 hst (lv_room hW) d hcc) kk
  intro w' hw'
  rcases List.mem_append.mp hw' with h | h
  · have h' : w' = .methodLink own ix y ∨ w' = .instanceMethod y ∨ w' = .selects y.cls y y ∨ w' = .initialized y.cls := by simpa using h
    rcases h' with rfl | rfl | rfl | rfl
    · exact gtbl_good _ w
    · exact gtbl_good _ y1
    · exact gtbl_good _ y2
    · exact gtbl_good _ y3
  · exact wsY_good y4 _ h
theorem VE.runK {P' : Option Value → MI → ML → Prop} {a : Array Value} (hr : ∀ (H : Heap) (locs : List Loc) (ls : Array Slot), va_P o.2.1 vcl (wsE o 78 (eK o mi ml)) H → va_S (isN o) γ.s.heap H locs → lv_has ls n lv → va_Run γ.p γ.l γ.e γ.R γ.s γ.m γ.a γ.b γ.me γ.c H locs c0 s0 0 0 (F0 γ.m pc ls st) rest (QofK o P' a) (isAK o))
    (kk : ∀ (v : Option Value) (mi' : MI) (ml' : ML), P' v mi' ml' → VE γ o n 78 (eK o mi' ml') c0 s0 (pc + 3) lv (v.toList ++ rest)) : VE γ o n 78 (eK o mi ml) c0 s0 pc lv st := by
  intro H locs ls h1 h2 h3 T hT Z
  obtain ⟨v, st₀, t, T', L, h0, Z', hL, e1, e2, ⟨⟨v', mi', ml', hv, hp, hw⟩, hz, hk⟩, sg⟩ := hr H locs ls h1 h2 h3 T hT Z
  cases hv
  rw [h0] at hz hk
  obtain ⟨t2, a1, b1⟩ := kk v mi' ml' hp T'.heap (locs ++ L) ls (by rw [e1]; exact hw)
    ⟨Nat.le_trans h2.1 (by rw [e1]; exact hz), fun q g1 g2 => by rw [e1, hk q (Nat.lt_of_lt_of_le g1 h2.1) (fun z => g2 z.1)]; exact h2.2.1 q g1 g2, fun q hq => by
      rcases List.mem_append.mp hq with h | h
      · exact h2.2.2 q h
      · exact (hL q h).1⟩ h3 T' rfl Z'
  exact ⟨t2, sg t2 a1, b1⟩
theorem v_callK (X : CxE γ l o own cc n fr lo rc rs b0) {y : MethodName} {cc' : ByteArray} {n' : Nat} {r' : Option FieldType} {fr' lo' k ix i ci : Nat} {F : (Nat → Int32) → (Nat → Int64) → List Value} {T : u_T} {N : Nat} {As : List Value} {P' : Option Value → MI → ML → Prop} (hC : ConK l y cc' n' r' fr' lo' o (.ref (ads o i) :: As) mi ml P') (Y : VOK y cc' n' r' k) (w : Cond.methodLink own ix y ∈ gtbl) (hk : As.length = k) (hi : i < 78) (hc : ∀ f g, cEK o f g i = .inr (ci, F f g)) (hcl : vcl[ci]? = some (y.cls, T, N)) (hR : fr' + 1 ≤ fr ∧ 8 + (n' + 11) + lo' ≤ lo) (hcc : c0 ≤ rc ∧ s0 ≤ rs) (hst : st = As.reverse ++ .ref (ads o i) :: rest) (hW : (rest.map fun v => v.category).sum ≤ 8) (d : decode cc pc = .ok (.invokevirtual ix, 3))
    (kk : ∀ (v : Option Value) (mi' : MI) (ml' : ML), P' v mi' ml' → VE γ o n 78 (eK o mi' ml') c0 s0 (pc + 3) lv (v.toList ++ rest)) : VE γ o n 78 (eK o mi ml) c0 s0 pc lv st := by
  obtain ⟨x1, x2, x3, x4, x5, x6, x7, x8, x9, x10, x11, x12, x13, x14⟩ := X
  subst x9; subst x10; subst x11; subst x12; subst x13
  obtain ⟨y1, y2, y3, y4, y5⟩ := Y
  refine VE.runK (fun H locs ls h1 h2 h3 => va_runV (C := y.cls) (As := As) (g := F0 γ.m pc ls st) ⟨x1, x2, x3, x4, x5⟩ hC (cwV k x5 ?_ rfl rfl rfl ⟨rfl, y5⟩ hR) ⟨PofK.blind, va_recv x6.1 h1 (q0 := i) hcl (by rw [wsE_at o _ hi]; unfold eK; rw [hc]), fun U hU hWu => ⟨rfl, by rw [hU]; exact h1, x6.warm hWu⟩⟩ rfl hk h3.1 hst (lv_room hW) d hcc) kk
  intro w' hw'
  rcases List.mem_append.mp hw' with h | h
  · have h' : w' = .methodLink own ix y ∨ w' = .instanceMethod y ∨ w' = .selects y.cls y y ∨ w' = .initialized y.cls := by simpa using h
    rcases h' with rfl | rfl | rfl | rfl
    · exact gtbl_good _ w
    · exact gtbl_good _ y1
    · exact gtbl_good _ y2
    · exact gtbl_good _ y3
  · exact wsY_good y4 _ h
end ROWSL
