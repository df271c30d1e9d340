/-! cells while they are made: the first k of the world, each told by E; the law's own rows -/
def isN (o : OM) (q : Nat) : Prop := o.1 ≤ q
def wsE (o : OM) (k : Nat) (E : Nat → va_E) : va_W := (List.range k).map (fun i => (ads o i, E i))
theorem wsE_at (o : OM) {k : Nat} (E : Nat → va_E) {i : Nat} (h : i < k) : (wsE o k E)[i]? = some (ads o i, E i) := by
  simp [wsE, h]
theorem wsE_inv {o : OM} {k : Nat} {E : Nat → va_E} {i : Nat} {q : Nat × va_E} (h : (wsE o k E)[i]? = some q) : i < k ∧ q = (ads o i, E i) := by
  have hl : i < k := by
    have := (List.getElem?_eq_some_iff.mp h).1
    simpa [wsE] using this
  rw [wsE_at o E hl] at h
  exact ⟨hl, (Option.some.inj h).symm⟩
theorem wsE_D (o : OM) (k : Nat) (E : Nat → va_E) : va_D (isN o) (wsE o k E) := by
  refine ⟨fun i j p q hi hj e => ?_, fun k q hk => ?_⟩
  · obtain ⟨h1, rfl⟩ := wsE_inv hi
    obtain ⟨h2, rfl⟩ := wsE_inv hj
    have e' : o.1 + i = o.1 + j := e
    omega
  · obtain ⟨h1, rfl⟩ := wsE_inv hk
    exact Nat.le_add_right _ _
theorem wsE_set (o : OM) {k i : Nat} {E : Nat → va_E} (e : va_E) (hi : i < k) : (wsE o k E).set i (ads o i, e) = wsE o k (uf E i e) := by
  apply List.ext_getElem?
  intro j
  by_cases hj : j < k
  · by_cases hji : j = i
    · subst hji
      rw [List.getElem?_set_self (by simp [wsE]; exact hj), wsE_at o _ hj, uf_s]
    · rw [List.getElem?_set_ne (Ne.symm hji), wsE_at o _ hj, wsE_at o _ hj, uf_n _ _ hji]
  · rw [List.getElem?_eq_none (by simp [wsE]; omega), List.getElem?_eq_none (by simp [wsE]; omega)]
theorem wsE_push {o : OM} {k : Nat} {E : Nat → va_E} {D : va_G} {H H1 : Heap} {e : va_E} (h : va_P D vcl (wsE o k E) H) (ho : ∀ q : Nat, q < o.1 + k → H1[q]? = H[q]?) (he : va_at D vcl (ads o k, e) H1) : va_P D vcl (wsE o (k + 1) (uf E k e)) H1 := by
  intro i q hq
  obtain ⟨hi, rfl⟩ := wsE_inv hq
  by_cases hk : i = k
  · subst hk; rw [uf_s]; exact he
  · rw [uf_n _ _ hk]
    exact (h i _ (wsE_at o E (by omega))).kept (ho _ (by show o.1 + i < o.1 + k; omega))
theorem wsE_cong {o : OM} {k : Nat} {E E2 : Nat → va_E} (h : ∀ i, i < k → E i = E2 i) : wsE o k E = wsE o k E2 := by
  unfold wsE
  refine List.map_congr_left (fun i hi => ?_)
  rw [h i (List.mem_range.mp hi)]
theorem wsE_sz {o : OM} {k b0 c0 : Nat} {E : Nat → va_E} {D : va_G} {H0 H : Heap} {locs : List Loc} (h : va_P D vcl (wsE o k E) H) (hS : va_S (isN o) H0 H locs) (h0 : H0.size = o.1 + b0) (hk : k = b0 + c0) (hz : H.size ≤ H0.size + c0) : H.size = o.1 + k := by
  have h1 := hS.1
  rcases Nat.eq_zero_or_pos k with e | e
  · omega
  · have h2 : o.1 + (k - 1) < H.size := (h (k - 1) _ (wsE_at o E (by omega))).lt
    omega
theorem sz_W {p : Program} {l : Launch} {e : Env} {R : Room} {s : State} {m : MethodId} {args : Array Value} {below : List Frame} {meth : Method} {c : Code} {H : Heap} {locs : List Loc} {cells slots : Nat} {Q : State → Prop} {g : JFrame} (k : H.size ≤ s.heap.size + cells → W p l e R s m args below meth c H locs cells slots Q g) : W p l e R s m args below meth c H locs cells slots Q g :=
  fun T hT X => k (by rw [← hT]; exact X.heapSize) T hT X
def VE (γ : GT) (o : OM) (n kk0 : Nat) (EE : Nat → va_E) (c0 s0 pc : Nat) (lv : List (Nat × Value)) (st : List Value) : Prop :=
  ∀ (H : Heap) (locs : List Loc) (ls : Array Slot), va_P o.2.1 vcl (wsE o kk0 EE) H → va_S (isN o) γ.s.heap H locs → lv_has ls n lv → W γ.p γ.l γ.e γ.R γ.s γ.m γ.a γ.b γ.me γ.c H locs c0 s0 γ.Q (F0 γ.m pc ls st)
def AOs (U : State) : Prop := va_AO "NearMarks$State" U ∧ va_AO "NearMarks$Image" U
theorem AOs.warm {s U : State} (hW : s.WarmedH U.vm) (h : AOs s) : AOs U := ⟨va_AO.moved hW.alike h.1, va_AO.moved hW.alike h.2⟩
def CxE (γ : GT) (l : Launch) (o : OM) (own : String) (cc : ByteArray) (n fr lo rc rs b0 : Nat) : Prop :=
  γ.p.tables.exec = Jvm.exec ∧ γ.c.code = cc ∧ γ.c.maxLocals = n ∧ γ.s.vm.findClass own = some γ.m.cls ∧ (∀ w ∈ gtbl, w.before γ.a γ.s = true) ∧ Kp o γ.s ∧ AOs γ.s ∧ γ.me.locks = false ∧ γ.R.frames = fr ∧ γ.R.locals = lo ∧ γ.R.cells = rc ∧ γ.R.slots = rs ∧ γ.l = l ∧ γ.s.heap.size = o.1 + b0
theorem obj_i : Cond.instanceMethod Lib.objectInit ∈ gtbl := g_at 61 (by decide +kernel) (by decide +kernel)
theorem obj_c : Cond.code Lib.objectInit ⟨#[0xb1]⟩ 1 none ∈ gtbl := g_at 62 (by decide +kernel) (by decide +kernel)
theorem arr_J : Cond.arrayClass .long ∈ gtbl := g_at 96 (by decide +kernel) (by decide +kernel)
theorem arr_I : Cond.arrayClass .int ∈ gtbl := g_at 97 (by decide +kernel) (by decide +kernel)
theorem arr_Z : Cond.arrayClass .boolean ∈ gtbl := g_at 719 (by decide +kernel) (by decide +kernel)
def PofE (o : OM) (A : List Value) (k : Nat) (E : Nat → va_E) : Array Value → State → Prop := va_Pc A (fun U => va_P o.2.1 vcl (wsE o k E) U.heap ∧ U.heap.size = o.1 + k ∧ Kp o U ∧ AOs U)
def QofE (o : OM) (k : Nat) (E : Nat → va_E) : Array Value → State → Outcome → State → Prop := fun _ st oc t => (oc = .returned none ∧ va_P o.2.1 vcl (wsE o k E) t.heap ∧ t.heap.size = o.1 + k) ∧ va_F (isN o) st t
def ConI (l : Launch) (y : MethodName) (cc : ByteArray) (n fr lo mc ms : Nat) (o : OM) (a k : Nat) (E : Nat → va_E) (k2 : Nat) (E2 : Nat → va_E) : Prop :=
  Met l y (wsY y cc n none) { frames := fr, cells := mc, slots := ms, locals := lo } (PofE o [.ref (ads o a)] k E) (QofE o k2 E2) mc ms (isN o)
theorem ConI.mk {l : Launch} {y : MethodName} {cc : ByteArray} {n fr lo mc ms : Nat} {o : OM} {a k : Nat} {E : Nat → va_E} {k2 : Nat} {E2 : Nat → va_E} (hy : plainName y.cls = true) (hyn : y.name = "<init>") (hlen : 1 ≤ n)
    (h : ∀ γ : GT, CxE γ l o y.cls cc n fr lo mc ms k → γ.me.sig.returnType = none → γ.me.name = "<init>" → γ.Q = MQ γ.b (QofE o k2 E2) γ.a γ.s mc ms (isN o) → VE γ o n k E 0 0 0 [(0, .ref (ads o a))] []) : ConI l y cc n fr lo mc ms o a k E k2 E2 := by
  refine Met.ofW (cc := cc) (maxL := n) (ret := none) hy rfl ?_
  intro p e s m args below meth c s₁ B hml hv
  obtain ⟨rfl, hP, hz, hK, hA⟩ := hv
  have hts := atoms_spec (ws := wsY y cc n none) B.pre
  rw [lg_entry_eq]
  exact h (p, l, e, _, s, m, _, below, meth, c, _) ⟨B.exec, B.bytes, hml, findClass_of_methodNamed B.named, fun w hw => hts w (List.mem_cons_of_mem _ hw), hK, hA, B.notSynchronized, rfl, rfl, rfl, rfl, rfl, hz⟩ B.returns ((name_of_methodNamed B.named B.method).1.trans hyn) rfl s.heap [] _ hP va_S.rf (lv_entry [.ref (ads o a)] hlen)
section ROWSE
variable {γ : GT} {l : Launch} {o : OM} {own : String} {cc : ByteArray} {n : Nat} {fr lo rc rs b0 : Nat}
variable {kk0 : Nat} {EE : Nat → va_E} {c0 s0 : Nat} {pc : Nat} {lv : List (Nat × Value)} {st rest : List Value}
theorem VE.eq {EE2 : Nat → va_E} {k2 c2 s2 : Nat} {lv' : List (Nat × Value)} {st' : List Value} (k : VE γ o n k2 EE2 c2 s2 pc lv' st') (hk : k2 = kk0) (hc : c2 = c0) (hs : s2 = s0) (h1 : ∀ i, i < k2 → EE2 i = EE i) (h3 : lv' = lv) (h4 : st' = st) : VE γ o n kk0 EE c0 s0 pc lv st := by
  subst hk; subst hc; subst hs; subst h3; subst h4
  intro H locs ls a1 a2 a3
  exact k H locs ls (by rw [wsE_cong h1]; exact a1) a2 a3
theorem VE.wk {lv' : List (Nat × Value)} (ks : List Nat) (k : VE γ o n kk0 EE c0 s0 pc lv' st) (h : lv_pick lv ks = lv') : VE γ o n kk0 EE c0 s0 pc lv st := fun H locs ls h1 h2 h3 => k H locs ls h1 h2 (lv_sub h3 ks h)

theorem v_iconst (X : CxE γ l o own cc n fr lo rc rs b0) {z : Int} {v : Int32} (d : decode cc pc = .ok (.iconst z, 1)) (hv : Int32.ofInt z = v) (k : VE γ o n kk0 EE c0 s0 (pc + 1) lv (.int v :: rest)) : VE γ o n kk0 EE c0 s0 pc lv rest := fun H locs ls h1 h2 h3 => lv_iconst X.1 X.2.1 d hv (k H locs ls h1 h2 h3)
theorem v_bipush (X : CxE γ l o own cc n fr lo rc rs b0) {z : Int} {v : Int32} (d : decode cc pc = .ok (.bipush z, 2)) (hv : (Int8.ofInt z).toInt32 = v) (k : VE γ o n kk0 EE c0 s0 (pc + 2) lv (.int v :: rest)) : VE γ o n kk0 EE c0 s0 pc lv rest := fun H locs ls h1 h2 h3 => lv_bipush X.1 X.2.1 d hv (k H locs ls h1 h2 h3)
theorem v_sipush (X : CxE γ l o own cc n fr lo rc rs b0) {z : Int} {v : Int32} (d : decode cc pc = .ok (.sipush z, 3)) (hv : (Int16.ofInt z).toInt32 = v) (k : VE γ o n kk0 EE c0 s0 (pc + 3) lv (.int v :: rest)) : VE γ o n kk0 EE c0 s0 pc lv rest := fun H locs ls h1 h2 h3 => lv_sipush X.1 X.2.1 d hv (k H locs ls h1 h2 h3)
theorem v_ldc2 (X : CxE γ l o own cc n fr lo rc rs b0) {ix : Nat} {v : Int64} (w : Cond.constantLong own ix v ∈ gtbl) (d : decode cc pc = .ok (.ldc2_w ix, 3)) (k : VE γ o n kk0 EE c0 s0 (pc + 3) lv (.long v :: rest)) : VE γ o n kk0 EE c0 s0 pc lv rest := fun H locs ls h1 h2 h3 => lv_ldc2 X.1 X.2.1 X.2.2.2.1 (X.2.2.2.2.1 _ w) d (k H locs ls h1 h2 h3)
theorem v_iload_n (X : CxE γ l o own cc n fr lo rc rs b0) {q : Fin 4} {i : Nat} {x : Int32} (k0 : Nat) (d : decode cc pc = .ok (.iload_n q, 1)) (hi : (q : Nat) = i) (hl : lv[k0]? = some (i, .int x)) (k : VE γ o n kk0 EE c0 s0 (pc + 1) lv (.int x :: rest)) : VE γ o n kk0 EE c0 s0 pc lv rest := fun H locs ls h1 h2 h3 => lv_iload_n X.1 X.2.1 d hi (lv_at h3 k0 hl) (k H locs ls h1 h2 h3)
theorem v_iload (X : CxE γ l o own cc n fr lo rc rs b0) {i : Nat} {x : Int32} (k0 : Nat) (d : decode cc pc = .ok (.iload i, 2)) (hl : lv[k0]? = some (i, .int x)) (k : VE γ o n kk0 EE c0 s0 (pc + 2) lv (.int x :: rest)) : VE γ o n kk0 EE c0 s0 pc lv rest := fun H locs ls h1 h2 h3 => lv_iload X.1 X.2.1 d (lv_at h3 k0 hl) (k H locs ls h1 h2 h3)
theorem v_aload_n (X : CxE γ l o own cc n fr lo rc rs b0) {q : Fin 4} {i : Nat} {x : Nat} (k0 : Nat) (d : decode cc pc = .ok (.aload_n q, 1)) (hi : (q : Nat) = i) (hl : lv[k0]? = some (i, .ref x)) (k : VE γ o n kk0 EE c0 s0 (pc + 1) lv (.ref x :: rest)) : VE γ o n kk0 EE c0 s0 pc lv rest := fun H locs ls h1 h2 h3 => lv_aload_n X.1 X.2.1 d hi (lv_at h3 k0 hl) (k H locs ls h1 h2 h3)
theorem v_istore_n (X : CxE γ l o own cc n fr lo rc rs b0) {q : Fin 4} {i : Nat} {x : Int32} (lv' : List (Nat × Value)) (d : decode cc pc = .ok (.istore_n q, 1)) (hi : (q : Nat) = i) (hn : i < n) (hl : (i, Value.int x) :: lv.filter (fun q => !(q.1 == i) && !(q.1 + 1 == i && q.2.category == 2)) = lv') (k : VE γ o n kk0 EE c0 s0 (pc + 1) lv' rest) : VE γ o n kk0 EE c0 s0 pc lv (.int x :: rest) := fun H locs ls h1 h2 h3 => lv_istore_n X.1 X.2.1 d hi h3 hn hl (fun ls2 h4 => k H locs ls2 h1 h2 h4)
theorem v_istore (X : CxE γ l o own cc n fr lo rc rs b0) {i : Nat} {x : Int32} (lv' : List (Nat × Value)) (d : decode cc pc = .ok (.istore i, 2)) (hn : i < n) (hl : (i, Value.int x) :: lv.filter (fun q => !(q.1 == i) && !(q.1 + 1 == i && q.2.category == 2)) = lv') (k : VE γ o n kk0 EE c0 s0 (pc + 2) lv' rest) : VE γ o n kk0 EE c0 s0 pc lv (.int x :: rest) := fun H locs ls h1 h2 h3 => lv_istore X.1 X.2.1 d h3 hn hl (fun ls2 h4 => k H locs ls2 h1 h2 h4)
theorem v_iinc (X : CxE γ l o own cc n fr lo rc rs b0) {i : Nat} {z : Int} {x v : Int32} (k0 : Nat) (lv' : List (Nat × Value)) (d : decode cc pc = .ok (.iinc i z, 3)) (hk : lv[k0]? = some (i, .int x)) (hv : x + Int32.ofInt z = v) (hn : i < n) (hl : (i, Value.int v) :: lv.filter (fun q => !(q.1 == i) && !(q.1 + 1 == i && q.2.category == 2)) = lv') (k : VE γ o n kk0 EE c0 s0 (pc + 3) lv' rest) : VE γ o n kk0 EE c0 s0 pc lv rest := fun H locs ls h1 h2 h3 => lv_iinc X.1 X.2.1 d h3 hk hv hn hl (fun ls2 h4 => k H locs ls2 h1 h2 h4)
theorem v_iadd (X : CxE γ l o own cc n fr lo rc rs b0) {x y v : Int32} (d : decode cc pc = .ok (.iadd, 1)) (hv : x + y = v) (k : VE γ o n kk0 EE c0 s0 (pc + 1) lv (.int v :: rest)) : VE γ o n kk0 EE c0 s0 (pc) lv (.int y :: .int x :: rest) := fun H locs ls h1 h2 h3 => lv_iadd X.1 X.2.1 d (by rw [hv]; exact k H locs ls h1 h2 h3)
theorem v_isub (X : CxE γ l o own cc n fr lo rc rs b0) {x y v : Int32} (d : decode cc pc = .ok (.isub, 1)) (hv : x - y = v) (k : VE γ o n kk0 EE c0 s0 (pc + 1) lv (.int v :: rest)) : VE γ o n kk0 EE c0 s0 (pc) lv (.int y :: .int x :: rest) := fun H locs ls h1 h2 h3 => lv_isub X.1 X.2.1 d (by rw [hv]; exact k H locs ls h1 h2 h3)
theorem v_iand (X : CxE γ l o own cc n fr lo rc rs b0) {x y v : Int32} (d : decode cc pc = .ok (.iand, 1)) (hv : x &&& y = v) (k : VE γ o n kk0 EE c0 s0 (pc + 1) lv (.int v :: rest)) : VE γ o n kk0 EE c0 s0 (pc) lv (.int y :: .int x :: rest) := fun H locs ls h1 h2 h3 => lv_iand X.1 X.2.1 d (by rw [hv]; exact k H locs ls h1 h2 h3)
theorem v_land (X : CxE γ l o own cc n fr lo rc rs b0) {x y v : Int64} (d : decode cc pc = .ok (.land, 1)) (hv : x &&& y = v) (k : VE γ o n kk0 EE c0 s0 (pc + 1) lv (.long v :: rest)) : VE γ o n kk0 EE c0 s0 (pc) lv (.long y :: .long x :: rest) := fun H locs ls h1 h2 h3 => lv_land X.1 X.2.1 d (by rw [hv]; exact k H locs ls h1 h2 h3)
theorem v_lor (X : CxE γ l o own cc n fr lo rc rs b0) {x y v : Int64} (d : decode cc pc = .ok (.lor, 1)) (hv : x ||| y = v) (k : VE γ o n kk0 EE c0 s0 (pc + 1) lv (.long v :: rest)) : VE γ o n kk0 EE c0 s0 (pc) lv (.long y :: .long x :: rest) := fun H locs ls h1 h2 h3 => lv_lor X.1 X.2.1 d (by rw [hv]; exact k H locs ls h1 h2 h3)
theorem v_i2l (X : CxE γ l o own cc n fr lo rc rs b0) {x : Int32} {v : Int64} (d : decode cc pc = .ok (.i2l, 1)) (hv : x.toInt64 = v) (k : VE γ o n kk0 EE c0 s0 (pc + 1) lv (.long v :: rest)) : VE γ o n kk0 EE c0 s0 (pc) lv (.int x :: rest) := fun H locs ls h1 h2 h3 => lv_i2l X.1 X.2.1 d hv (k H locs ls h1 h2 h3)
theorem v_lshl (X : CxE γ l o own cc n fr lo rc rs b0) {x v : Int64} {y : Int32} (d : decode cc pc = .ok (.lshl, 1)) (hv : x <<< (y.toInt64 &&& 63) = v) (k : VE γ o n kk0 EE c0 s0 (pc + 1) lv (.long v :: rest)) : VE γ o n kk0 EE c0 s0 (pc) lv (.int y :: .long x :: rest) := fun H locs ls h1 h2 h3 => lv_lshl X.1 X.2.1 d hv (k H locs ls h1 h2 h3)
theorem v_dup (X : CxE γ l o own cc n fr lo rc rs b0) {a : Value} (d : decode cc pc = .ok (.dup, 1)) (ha : a.category = 1) (k : VE γ o n kk0 EE c0 s0 (pc + 1) lv (a :: a :: rest)) : VE γ o n kk0 EE c0 s0 (pc) lv (a :: rest) := fun H locs ls h1 h2 h3 => lv_dup X.1 X.2.1 d ha (k H locs ls h1 h2 h3)
theorem v_goto (X : CxE γ l o own cc n fr lo rc rs b0) {off : Int} {tgt : Nat} (d : decode cc pc = .ok (.goto off, 3)) (ht : (pc : Int) + off = (tgt : Int)) (k : VE γ o n kk0 EE c0 s0 (tgt) lv (rest)) : VE γ o n kk0 EE c0 s0 (pc) lv (rest) := fun H locs ls h1 h2 h3 => lv_goto X.1 X.2.1 d ht (k H locs ls h1 h2 h3)
theorem v_lcmp (X : CxE γ l o own cc n fr lo rc rs b0) {x y : Int64} (d : decode cc pc = .ok (.lcmp, 1)) (k : VE γ o n kk0 EE c0 s0 (pc + 1) lv (.int (lg_cmp x y) :: rest)) : VE γ o n kk0 EE c0 s0 (pc) lv (.long y :: .long x :: rest) := fun H locs ls h1 h2 h3 => W.lcmp X.1 X.2.1 d (k H locs ls h1 h2 h3)
theorem v_ifeq (X : CxE γ l o own cc n fr lo rc rs b0) {x : Int32} {c : Prop} {off : Int} {tgt : Nat} (d : decode cc pc = .ok (.ifCond .eq off, 3)) (ht : (pc : Int) + off = (tgt : Int)) (hc : (x = 0) ↔ c) (kt : c → VE γ o n kk0 EE c0 s0 (tgt) lv (rest)) (kf : ¬ c → VE γ o n kk0 EE c0 s0 (pc + 3) lv (rest)) : VE γ o n kk0 EE c0 s0 (pc) lv (.int x :: rest) := fun H locs ls h1 h2 h3 => lv_if_eq X.1 X.2.1 d ht (fun q => kt (hc.mp q) H locs ls h1 h2 h3) (fun q => kf (fun z => q (hc.mpr z)) H locs ls h1 h2 h3)
theorem v_iceq (X : CxE γ l o own cc n fr lo rc rs b0) {x y : Int32} {c : Prop} {off : Int} {tgt : Nat} (d : decode cc pc = .ok (.if_icmp .eq off, 3)) (ht : (pc : Int) + off = (tgt : Int)) (hc : (x = y) ↔ c) (kt : c → VE γ o n kk0 EE c0 s0 (tgt) lv (rest)) (kf : ¬ c → VE γ o n kk0 EE c0 s0 (pc + 3) lv (rest)) : VE γ o n kk0 EE c0 s0 (pc) lv (.int y :: .int x :: rest) := fun H locs ls h1 h2 h3 => lv_icmp_eq X.1 X.2.1 d ht (fun q => kt (hc.mp q) H locs ls h1 h2 h3) (fun q => kf (fun z => q (hc.mpr z)) H locs ls h1 h2 h3)
theorem v_ifne (X : CxE γ l o own cc n fr lo rc rs b0) {x : Int32} {c : Prop} {off : Int} {tgt : Nat} (d : decode cc pc = .ok (.ifCond .ne off, 3)) (ht : (pc : Int) + off = (tgt : Int)) (hc : (¬ x = 0) ↔ c) (kt : c → VE γ o n kk0 EE c0 s0 (tgt) lv (rest)) (kf : ¬ c → VE γ o n kk0 EE c0 s0 (pc + 3) lv (rest)) : VE γ o n kk0 EE c0 s0 (pc) lv (.int x :: rest) := fun H locs ls h1 h2 h3 => lv_if_ne X.1 X.2.1 d ht (fun q => kt (hc.mp q) H locs ls h1 h2 h3) (fun q => kf (fun z => hc.mpr z q) H locs ls h1 h2 h3)
theorem v_icne (X : CxE γ l o own cc n fr lo rc rs b0) {x y : Int32} {c : Prop} {off : Int} {tgt : Nat} (d : decode cc pc = .ok (.if_icmp .ne off, 3)) (ht : (pc : Int) + off = (tgt : Int)) (hc : (¬ x = y) ↔ c) (kt : c → VE γ o n kk0 EE c0 s0 (tgt) lv (rest)) (kf : ¬ c → VE γ o n kk0 EE c0 s0 (pc + 3) lv (rest)) : VE γ o n kk0 EE c0 s0 (pc) lv (.int y :: .int x :: rest) := fun H locs ls h1 h2 h3 => lv_icmp_ne X.1 X.2.1 d ht (fun q => kt (hc.mp q) H locs ls h1 h2 h3) (fun q => kf (fun z => hc.mpr z q) H locs ls h1 h2 h3)
theorem v_icge (X : CxE γ l o own cc n fr lo rc rs b0) {x y : Int32} {c : Prop} {off : Int} {tgt : Nat} (d : decode cc pc = .ok (.if_icmp .ge off, 3)) (ht : (pc : Int) + off = (tgt : Int)) (hc : (y ≤ x) ↔ c) (kt : c → VE γ o n kk0 EE c0 s0 (tgt) lv (rest)) (kf : ¬ c → VE γ o n kk0 EE c0 s0 (pc + 3) lv (rest)) : VE γ o n kk0 EE c0 s0 (pc) lv (.int y :: .int x :: rest) := fun H locs ls h1 h2 h3 => lv_icmp_ge X.1 X.2.1 d ht (fun q => kt (hc.mp q) H locs ls h1 h2 h3) (fun q => kf (fun z => q (hc.mpr z)) H locs ls h1 h2 h3)
theorem v_icgt (X : CxE γ l o own cc n fr lo rc rs b0) {x y : Int32} {c : Prop} {off : Int} {tgt : Nat} (d : decode cc pc = .ok (.if_icmp .gt off, 3)) (ht : (pc : Int) + off = (tgt : Int)) (hc : (y < x) ↔ c) (kt : c → VE γ o n kk0 EE c0 s0 (tgt) lv (rest)) (kf : ¬ c → VE γ o n kk0 EE c0 s0 (pc + 3) lv (rest)) : VE γ o n kk0 EE c0 s0 (pc) lv (.int y :: .int x :: rest) := fun H locs ls h1 h2 h3 => lv_icmp_gt X.1 X.2.1 d ht (fun q => kt (hc.mp q) H locs ls h1 h2 h3) (fun q => kf (fun z => q (hc.mpr z)) H locs ls h1 h2 h3)
theorem v_iflt (X : CxE γ l o own cc n fr lo rc rs b0) {x : Int32} {c : Prop} {off : Int} {tgt : Nat} (d : decode cc pc = .ok (.ifCond .lt off, 3)) (ht : (pc : Int) + off = (tgt : Int)) (hc : (x < 0) ↔ c) (kt : c → VE γ o n kk0 EE c0 s0 (tgt) lv (rest)) (kf : ¬ c → VE γ o n kk0 EE c0 s0 (pc + 3) lv (rest)) : VE γ o n kk0 EE c0 s0 (pc) lv (.int x :: rest) := fun H locs ls h1 h2 h3 => lv_if_lt X.1 X.2.1 d ht (fun q => kt (hc.mp q) H locs ls h1 h2 h3) (fun q => kf (fun z => q (hc.mpr z)) H locs ls h1 h2 h3)
theorem v_ifge (X : CxE γ l o own cc n fr lo rc rs b0) {x : Int32} {c : Prop} {off : Int} {tgt : Nat} (d : decode cc pc = .ok (.ifCond .ge off, 3)) (ht : (pc : Int) + off = (tgt : Int)) (hc : (0 ≤ x) ↔ c) (kt : c → VE γ o n kk0 EE c0 s0 (tgt) lv (rest)) (kf : ¬ c → VE γ o n kk0 EE c0 s0 (pc + 3) lv (rest)) : VE γ o n kk0 EE c0 s0 (pc) lv (.int x :: rest) := fun H locs ls h1 h2 h3 => lv_if_ge X.1 X.2.1 d ht (fun q => kt (hc.mp q) H locs ls h1 h2 h3) (fun q => kf (fun z => q (hc.mpr z)) H locs ls h1 h2 h3)
theorem v_tswIn (X : CxE γ l o own cc n fr lo rc rs b0) {dflt lo0 hi0 : Int} {offs : Array Int} {len : Nat} {x : Int32} {off : Int} {tgt : Nat} (d : decode cc pc = .ok (.tableswitch dflt lo0 hi0 offs, len)) (a1 : ¬ x.toInt < lo0) (a2 : ¬ hi0 < x.toInt) (ho : offs[(x.toInt - lo0).toNat]? = some off) (ht : (pc : Int) + off = (tgt : Int)) (k : VE γ o n kk0 EE c0 s0 tgt lv rest) : VE γ o n kk0 EE c0 s0 pc lv (.int x :: rest) := fun H locs ls h1 h2 h3 => lv_tableIn X.1 X.2.1 d a1 a2 ho ht (k H locs ls h1 h2 h3)
theorem v_tswOut (X : CxE γ l o own cc n fr lo rc rs b0) {dflt lo0 hi0 : Int} {offs : Array Int} {len : Nat} {x : Int32} {tgt : Nat} (d : decode cc pc = .ok (.tableswitch dflt lo0 hi0 offs, len)) (h : x.toInt < lo0 ∨ hi0 < x.toInt) (ht : (pc : Int) + dflt = (tgt : Int)) (k : VE γ o n kk0 EE c0 s0 tgt lv rest) : VE γ o n kk0 EE c0 s0 pc lv (.int x :: rest) := fun H locs ls h1 h2 h3 => lv_tableOut X.1 X.2.1 d h ht (k H locs ls h1 h2 h3)
theorem v_astore_n (X : CxE γ l o own cc n fr lo rc rs b0) {q : Fin 4} {i : Nat} {x : Nat} (lv' : List (Nat × Value)) (d : decode cc pc = .ok (.astore_n q, 1)) (hi : (q : Nat) = i) (hn : i < n) (hl : (i, Value.ref x) :: lv.filter (fun q => !(q.1 == i) && !(q.1 + 1 == i && q.2.category == 2)) = lv') (k : VE γ o n kk0 EE c0 s0 (pc + 1) lv' rest) : VE γ o n kk0 EE c0 s0 pc lv (.ref x :: rest) := fun H locs ls h1 h2 h3 => lv_astore_n X.1 X.2.1 d hi h3 hn hl (fun ls2 h4 => k H locs ls2 h1 h2 h4)
theorem v_obj (X : CxE γ l o own cc n fr lo rc rs b0) {idx a : Nat} (w : Cond.methodLink own idx Lib.objectInit ∈ gtbl) (hf : 1 ≤ fr) (hl : 20 ≤ lo) (hW : (rest.map fun v => v.category).sum ≤ 8) (d : decode cc pc = .ok (.invokespecial idx, 3)) (k : VE γ o n kk0 EE c0 s0 (pc + 3) lv rest) : VE γ o n kk0 EE c0 s0 pc lv (.ref a :: rest) := by
  intro H locs ls h1 h2 h3
  obtain ⟨x1, x2, x3, x4, x5, x6, x7, x8, x9, x10, x11, x12, x13, x14⟩ := X
  refine W.objInit x1 x2 x4 (x5 _ w) (x5 _ obj_i) (x5 _ obj_c) rfl (by rw [x3]; exact h3.1) rfl d (by rw [x9]; exact hf) (by rw [x10]; exact Nat.le_trans (Nat.add_le_add_right (lv_room hW) 12) hl) ?_
  exact k H locs ls h1 h2 h3
theorem S_push {H0 H H1 : Heap} {locs : List Loc} {q : Nat} (h2 : va_S (isN o) H0 H locs) (hz : H.size = q) (z1 : H1.size = q + 1) (o1 : ∀ x : Nat, x < q → H1[x]? = H[x]?) : va_S (isN o) H0 H1 locs :=
  ⟨by have := h2.1; omega, fun x g1 g2 => (o1 x (by have := h2.1; omega)).trans (h2.2.1 x g1 g2), h2.2.2⟩
theorem v_newI (X : CxE γ l o own cc n fr lo rc rs b0) {m : Nat} (hk : kk0 = b0 + c0) (hm : m ≤ 1000) (hc : c0 + 1 ≤ rc) (hs : s0 + m ≤ rs) (d : decode cc pc = .ok (.newarray .int, 2)) (k : VE γ o n (kk0 + 1) (uf EE kk0 (aI o m (fun _ => 0))) (c0 + 1) (s0 + m) (pc + 2) lv (.ref (ads o kk0) :: rest)) : VE γ o n kk0 EE c0 s0 pc lv (.int (nI m) :: rest) := by
  intro H locs ls h1 h2 h3
  obtain ⟨x1, x2, x3, x4, x5, x6, x7, x8, x9, x10, x11, x12, x13, x14⟩ := X
  refine sz_W (fun hz => ?_)
  have hz := wsE_sz h1 h2 x14 hk hz
  refine va_newaK (atype := .int) x1 x2 (x5 _ arr_I) rfl d rfl (nI_pos (by omega)) (nI_clamp (by omega)) (by show m * 4 ≤ 536870912; omega) (by rw [x11]; exact hc) (by rw [x12]; exact hs) hz (fun H1 cA e1 z1 o1 hAr hNm => ?_)
  have hcA : cA = o.2.2 0 := Option.some.inj (hNm.symm.trans (x6.1.2 0 _ rfl).2)
  subst hcA
  exact k H1 locs ls (wsE_push h1 o1 (by show H1[o.1 + kk0]? = some (vp_cell _ _); rw [e1]; rfl)) (S_push h2 hz z1 o1) h3
theorem v_newJ (X : CxE γ l o own cc n fr lo rc rs b0) {m : Nat} (hk : kk0 = b0 + c0) (hm : m ≤ 1000) (hc : c0 + 1 ≤ rc) (hs : s0 + m ≤ rs) (d : decode cc pc = .ok (.newarray .long, 2)) (k : VE γ o n (kk0 + 1) (uf EE kk0 (aJ o m (fun _ => 0))) (c0 + 1) (s0 + m) (pc + 2) lv (.ref (ads o kk0) :: rest)) : VE γ o n kk0 EE c0 s0 pc lv (.int (nI m) :: rest) := by
  intro H locs ls h1 h2 h3
  obtain ⟨x1, x2, x3, x4, x5, x6, x7, x8, x9, x10, x11, x12, x13, x14⟩ := X
  refine sz_W (fun hz => ?_)
  have hz := wsE_sz h1 h2 x14 hk hz
  refine va_newaK (atype := .long) x1 x2 (x5 _ arr_J) rfl d rfl (nI_pos (by omega)) (nI_clamp (by omega)) (by show m * 8 ≤ 536870912; omega) (by rw [x11]; exact hc) (by rw [x12]; exact hs) hz (fun H1 cA e1 z1 o1 hAr hNm => ?_)
  have hcA : cA = o.2.2 1 := Option.some.inj (hNm.symm.trans (x6.1.2 1 _ rfl).2)
  subst hcA
  exact k H1 locs ls (wsE_push h1 o1 (by show H1[o.1 + kk0]? = some (vp_cell _ _); rw [e1]; rfl)) (S_push h2 hz z1 o1) h3
theorem v_newZ (X : CxE γ l o own cc n fr lo rc rs b0) {m : Nat} (hk : kk0 = b0 + c0) (hm : m ≤ 1000) (hc : c0 + 1 ≤ rc) (hs : s0 + m ≤ rs) (d : decode cc pc = .ok (.newarray .boolean, 2)) (k : VE γ o n (kk0 + 1) (uf EE kk0 (aZ o m (fun _ => 0))) (c0 + 1) (s0 + m) (pc + 2) lv (.ref (ads o kk0) :: rest)) : VE γ o n kk0 EE c0 s0 pc lv (.int (nI m) :: rest) := by
  intro H locs ls h1 h2 h3
  obtain ⟨x1, x2, x3, x4, x5, x6, x7, x8, x9, x10, x11, x12, x13, x14⟩ := X
  refine sz_W (fun hz => ?_)
  have hz := wsE_sz h1 h2 x14 hk hz
  refine va_newaK (atype := .boolean) x1 x2 (x5 _ arr_Z) rfl d rfl (nI_pos (by omega)) (nI_clamp (by omega)) (by show m * 1 ≤ 536870912; omega) (by rw [x11]; exact hc) (by rw [x12]; exact hs) hz (fun H1 cA e1 z1 o1 hAr hNm => ?_)
  have hcA : cA = o.2.2 2 := Option.some.inj (hNm.symm.trans (x6.1.2 2 _ rfl).2)
  subst hcA
  exact k H1 locs ls (wsE_push h1 o1 (by show H1[o.1 + kk0]? = some (vp_cell _ _); rw [e1]; rfl)) (S_push h2 hz z1 o1) h3
theorem v_new (X : CxE γ l o own cc n fr lo rc rs b0) {index ci N : Nat} {C : String} {T : u_T} {ty : Nat → FieldType} {fs : List Value} (hcl : vcl[ci]? = some (C, T, N)) (hin : ∀ w ∈ u_ws C T N, w ∈ gtbl) (hty : ∀ k, k < N → parseFieldDescriptor (T k).2.2.1 = some (ty k)) (hfs : ∀ j, j < N → defaultValue (ty j) = vp_V fs j) (w1 : Cond.classLink own index C ∈ gtbl) (w2 : Cond.instantiable C N ∈ gtbl) (w3 : Cond.initialized C ∈ gtbl) (hk : kk0 = b0 + c0) (hc : c0 + 1 ≤ rc) (hs : s0 + N ≤ rs) (d : decode cc pc = .ok (.new index, 3)) (k : VE γ o n (kk0 + 1) (uf EE kk0 (.inr (ci, fs))) (c0 + 1) (s0 + N) (pc + 3) lv (.ref (ads o kk0) :: rest)) : VE γ o n kk0 EE c0 s0 pc lv rest := by
  intro H locs ls h1 h2 h3
  obtain ⟨x1, x2, x3, x4, x5, x6, x7, x8, x9, x10, x11, x12, x13, x14⟩ := X
  refine sz_W (fun hz => ?_)
  have hz := wsE_sz h1 h2 x14 hk hz
  have hKn := x6.1.1 ci _ hcl
  refine W.newcK x1 x2 x4 (x5 _ w1) (x5 _ w2) (x5 _ w3) rfl d (by rw [x11]; exact hc) (by rw [x12]; exact hs) hKn.2.1 hz (fun H1 kC hkC e1 z1 o1 => ?_)
  exact k H1 locs ls (wsE_push h1 o1 ⟨_, hcl, (u_born ty x5 hin hKn hkC e1 hty).to hfs⟩) (S_push h2 hz z1 o1) h3
theorem v_anewS (X : CxE γ l o own cc n fr lo rc rs b0) {m index : Nat} (w : Cond.classLink own index "NearMarks$State" ∈ gtbl) (hk : kk0 = b0 + c0) (hm : m ≤ 1000) (hc : c0 + 1 ≤ rc) (hs : s0 + m ≤ rs) (d : decode cc pc = .ok (.anewarray index, 3)) (k : VE γ o n (kk0 + 1) (uf EE kk0 (aSt o m (fun _ => none))) (c0 + 1) (s0 + m) (pc + 3) lv (.ref (ads o kk0) :: rest)) : VE γ o n kk0 EE c0 s0 pc lv (.int (nI m) :: rest) := by
  intro H locs ls h1 h2 h3
  obtain ⟨x1, x2, x3, x4, x5, x6, x7, x8, x9, x10, x11, x12, x13, x14⟩ := X
  refine sz_W (fun hz => ?_)
  have hz := wsE_sz h1 h2 x14 hk hz
  have hcl : (nI m).toNatClampNeg = m := nI_clamp (by omega)
  refine W.anew x1 x2 x4 (x5 _ w) (va_AO.use x7.1) rfl d rfl (nI_pos (by omega)) (by rw [hcl]; omega) (by rw [x11]; exact hc) (by rw [x12, hcl]; exact hs) (fun cA kA comp f1 f2 f3 f4 => ?_)
  rw [hcl, hz]
  generalize hH1 : H.push ({ cls := cA, slots := Array.replicate m .null, vm := .none } : Cell) = H1
  have z1 : H1.size = o.1 + kk0 + 1 := by rw [← hH1, Array.size_push, hz]
  have e1 : H1[o.1 + kk0]? = some (arrV cA m (fun _ => .null)) := by rw [← hH1, ← hz, Array.getElem?_push_size, ← arrV_new]
  have o1 : ∀ q : Nat, q < o.1 + kk0 → H1[q]? = H[q]? := fun q hq => by rw [← hH1, Array.getElem?_push, if_neg (by omega)]
  obtain ⟨-, -, -, -, -, g4⟩ := (x6.1.2 4 _ rfl).2
  have hcA : cA = o.2.2 4 := Option.some.inj (f1.symm.trans g4)
  subst hcA
  exact k H1 locs ls (wsE_push h1 o1 (by show H1[o.1 + kk0]? = some (vp_cell _ _); rw [e1]; rfl)) (S_push h2 hz z1 o1) h3
theorem v_anewI (X : CxE γ l o own cc n fr lo rc rs b0) {m index : Nat} (w : Cond.classLink own index "NearMarks$Image" ∈ gtbl) (hk : kk0 = b0 + c0) (hm : m ≤ 1000) (hc : c0 + 1 ≤ rc) (hs : s0 + m ≤ rs) (d : decode cc pc = .ok (.anewarray index, 3)) (k : VE γ o n (kk0 + 1) (uf EE kk0 (aIm o m (fun _ => none))) (c0 + 1) (s0 + m) (pc + 3) lv (.ref (ads o kk0) :: rest)) : VE γ o n kk0 EE c0 s0 pc lv (.int (nI m) :: rest) := by
  intro H locs ls h1 h2 h3
  obtain ⟨x1, x2, x3, x4, x5, x6, x7, x8, x9, x10, x11, x12, x13, x14⟩ := X
  refine sz_W (fun hz => ?_)
  have hz := wsE_sz h1 h2 x14 hk hz
  have hcl : (nI m).toNatClampNeg = m := nI_clamp (by omega)
  refine W.anew x1 x2 x4 (x5 _ w) (va_AO.use x7.2) rfl d rfl (nI_pos (by omega)) (by rw [hcl]; omega) (by rw [x11]; exact hc) (by rw [x12, hcl]; exact hs) (fun cA kA comp f1 f2 f3 f4 => ?_)
  rw [hcl, hz]
  generalize hH1 : H.push ({ cls := cA, slots := Array.replicate m .null, vm := .none } : Cell) = H1
  have z1 : H1.size = o.1 + kk0 + 1 := by rw [← hH1, Array.size_push, hz]
  have e1 : H1[o.1 + kk0]? = some (arrV cA m (fun _ => .null)) := by rw [← hH1, ← hz, Array.getElem?_push_size, ← arrV_new]
  have o1 : ∀ q : Nat, q < o.1 + kk0 → H1[q]? = H[q]? := fun q hq => by rw [← hH1, Array.getElem?_push, if_neg (by omega)]
  obtain ⟨-, -, -, -, -, g4⟩ := (x6.1.2 3 _ rfl).2
  have hcA : cA = o.2.2 3 := Option.some.inj (f1.symm.trans g4)
  subst hcA
  exact k H1 locs ls (wsE_push h1 o1 (by show H1[o.1 + kk0]? = some (vp_cell _ _); rw [e1]; rfl)) (S_push h2 hz z1 o1) h3
/-- a final field's site -/
def FOKf (own : String) (ix ci k : Nat) : Prop := ∃ (C : String) (T : u_T) (N : Nat) (ty0 : Nat → FieldType), vcl[ci]? = some (C, T, N) ∧ (∀ w ∈ u_ws C T N, w ∈ gtbl) ∧ k < N ∧ Cond.fieldLink own ix (T k).1 (T k).2.1 (T k).2.2.1 ∈ gtbl ∧ (∀ k, k < N → parseFieldDescriptor (T k).2.2.1 = some (ty0 k)) ∧ (∀ a, a < N → ∀ b, b < N → a ≠ b → (T a).2.1 ≠ (T b).2.1) ∧ (T k).2.2.2 = true ∧ (T k).1 = own ∧ ∃ ty, parseFieldDescriptor (T k).2.2.1 = some ty ∧ ∀ a, narrow ty (.ref a) = .ref a ∧ fits ty (.ref a) = true
theorem v_putF (X : CxE γ l o own cc n fr lo rc rs b0) (hin : γ.me.name = "<init>") {i ix ci kf a : Nat} {fs : List Value} (f : FOKf own ix ci kf) (hi : i < kk0) (hE : EE i = .inr (ci, fs)) (hl : kf < fs.length) (d : decode cc pc = .ok (.putfield ix, 3)) (k : VE γ o n kk0 (uf EE i (.inr (ci, fs.set kf (.ref a)))) c0 s0 (pc + 3) lv rest) : VE γ o n kk0 EE c0 s0 pc lv (.ref a :: .ref (ads o i) :: rest) := by
  intro H locs ls h1 h2 h3
  obtain ⟨C, T, N, ty0, e1, e2, e3, e4, e5, e6, e7, e8, ty, e9, e10⟩ := f
  refine va_putF X.1 X.2.1 X.2.2.2.2.1 e2 ty0 e5 e6 X.2.2.2.1 X.2.2.2.2.2.1.1 h1 (wsE_D o kk0 EE) h2 i (by rw [wsE_at o EE hi, hE]) e1 kf e3 (X.2.2.2.2.1 _ e4) (fun _ h => h) e7 hin e8 e9 (e10 a).1 (e10 a).2 hl d (fun H1 locs1 g1 g2 g3 => ?_)
  rw [wsE_set o _ hi] at g1
  exact k H1 locs1 ls g1 g3 h3
theorem v_putL (X : CxE γ l o own cc n fr lo rc rs b0) {i ix ci kf : Nat} {fs : List Value} {x : Int64} (f : FOKw own ix ci kf .long) (hi : i < kk0) (hE : EE i = .inr (ci, fs)) (hl : kf < fs.length) (d : decode cc pc = .ok (.putfield ix, 3)) (k : VE γ o n kk0 (uf EE i (.inr (ci, fs.set kf (.long x)))) c0 s0 (pc + 3) lv rest) : VE γ o n kk0 EE c0 s0 pc lv (.long x :: .ref (ads o i) :: rest) := by
  intro H locs ls h1 h2 h3
  obtain ⟨C, T, N, ty0, e1, e2, e3, e4, e5, e6, e7, e8⟩ := f
  refine va_put X.1 X.2.1 X.2.2.2.2.1 e2 ty0 e5 e6 X.2.2.2.1 X.2.2.2.2.2.1.1 h1 (wsE_D o kk0 EE) h2 i (by rw [wsE_at o EE hi, hE]) e1 kf e3 (X.2.2.2.2.1 _ e4) (fun _ h => h) e7 e8 rfl rfl hl d (fun H1 locs1 g1 g2 g3 => ?_)
  rw [wsE_set o _ hi] at g1
  exact k H1 locs1 ls g1 g3 h3
theorem v_get (X : CxE γ l o own cc n fr lo rc rs b0) {i ix ci kf : Nat} {fs : List Value} {v : Value} (f : FOK own ix ci kf) (hi : i < kk0) (hE : EE i = .inr (ci, fs)) (hv : fs[kf]? = some v) (d : decode cc pc = .ok (.getfield ix, 3)) (k : VE γ o n kk0 EE c0 s0 (pc + 3) lv (v :: rest)) : VE γ o n kk0 EE c0 s0 pc lv (.ref (ads o i) :: rest) := by
  intro H locs ls h1 h2 h3
  obtain ⟨C, T, N, e1, e2, e3, e4⟩ := f
  exact va_get X.1 X.2.1 X.2.2.2.2.1 e2 X.2.2.2.1 X.2.2.2.2.2.1.1 h1 i (by rw [wsE_at o EE hi, hE]) e1 kf e3 (X.2.2.2.2.1 _ e4) (fun _ h => h) hv d (k H locs ls h1 h2 h3)
theorem v_aastS (X : CxE γ l o own cc n fr lo rc rs b0) {i j m q : Nat} {F : Nat → Option Nat} {fs : List Value} (hi : i < kk0) (hj : j < kk0) (hEi : EE i = aSt o m F) (hEj : EE j = .inr (8, fs)) (hm : m ≤ 1000) (hq : q < m) (d : decode cc pc = .ok (.aastore, 1)) (k : VE γ o n kk0 (uf EE i (aSt o m (va_up F q (some (ads o j))))) c0 s0 (pc + 1) lv rest) : VE γ o n kk0 EE c0 s0 pc lv (.ref (ads o j) :: .int (nI q) :: .ref (ads o i) :: rest) := by
  intro H locs ls h1 h2 h3
  refine va_astq X.1 X.2.1 X.2.2.2.2.2.1.1 h1 (wsE_D o kk0 EE) h2 i 4 j 8 (r := (CR8, CT8, 5)) (n := m) (f := F) (cA := o.2.2 4) (by rw [wsE_at o EE hi, hEi]; rfl) rfl (by rw [wsE_at o EE hj, hEj]) rfl (vp_in_nI hq (by omega)) d (fun H1 locs1 g1 g2 g3 => ?_)
  rw [nI_clamp (by omega)] at g1
  have g1 := (wsE_set o (E := EE) (aSt o m (va_up F q (some (ads o j)))) hi) ▸ g1
  exact k H1 locs1 ls g1 g3 h3
theorem v_aastI (X : CxE γ l o own cc n fr lo rc rs b0) {i j m q : Nat} {F : Nat → Option Nat} {fs : List Value} (hi : i < kk0) (hj : j < kk0) (hEi : EE i = aIm o m F) (hEj : EE j = .inr (4, fs)) (hm : m ≤ 1000) (hq : q < m) (d : decode cc pc = .ok (.aastore, 1)) (k : VE γ o n kk0 (uf EE i (aIm o m (va_up F q (some (ads o j))))) c0 s0 (pc + 1) lv rest) : VE γ o n kk0 EE c0 s0 pc lv (.ref (ads o j) :: .int (nI q) :: .ref (ads o i) :: rest) := by
  intro H locs ls h1 h2 h3
  refine va_astq X.1 X.2.1 X.2.2.2.2.2.1.1 h1 (wsE_D o kk0 EE) h2 i 3 j 4 (r := (CR4, CT4, 3)) (n := m) (f := F) (cA := o.2.2 3) (by rw [wsE_at o EE hi, hEi]; rfl) rfl (by rw [wsE_at o EE hj, hEj]) rfl (vp_in_nI hq (by omega)) d (fun H1 locs1 g1 g2 g3 => ?_)
  rw [nI_clamp (by omega)] at g1
  have g1 := (wsE_set o (E := EE) (aIm o m (va_up F q (some (ads o j)))) hi) ▸ g1
  exact k H1 locs1 ls g1 g3 h3
theorem PofE.blind {A : List Value} : FrameBlind (PofE o A kk0 EE) := fun a U g mk q => by
  obtain ⟨q0, q1, q2, q3, q4⟩ := q
  exact ⟨q0, q1, q2, Kp.warm (s := U) (U := U.calling g mk a) (State.WarmedH.refl U) q3, AOs.warm (s := U) (U := U.calling g mk a) (State.WarmedH.refl U) q4⟩
theorem VE.run {k2 : Nat} {E2 : Nat → va_E} {a : Array Value} {mc ms : Nat} (hr : ∀ (H : Heap) (locs : List Loc) (ls : Array Slot), va_P o.2.1 vcl (wsE o kk0 EE) H → H.size ≤ γ.s.heap.size + c0 → va_S (isN o) γ.s.heap H locs → lv_has ls n lv → va_Run γ.p γ.l γ.e γ.R γ.s γ.m γ.a γ.b γ.me γ.c H locs c0 s0 mc ms (F0 γ.m pc ls st) rest (QofE o k2 E2 a) (isN o))
    (kk : VE γ o n k2 E2 (c0 + mc) (s0 + ms) (pc + 3) lv rest) : VE γ o n kk0 EE c0 s0 pc lv st := by
  intro H locs ls h1 h2 h3
  refine sz_W (fun hz0 => ?_)
  intro T hT Z
  obtain ⟨v, st₀, t, T', L, h0, Z', hL, e1, e2, ⟨⟨hv, hw, hzz⟩, hz, hk⟩, sg⟩ := hr H locs ls h1 hz0 h2 h3 T hT Z
  cases hv
  rw [h0] at hz hk
  obtain ⟨t2, a1, b1⟩ := kk T'.heap (locs ++ L) ls (by rw [e1]; exact hw)
    ⟨Nat.le_trans h2.1 (by rw [e1]; exact hz), fun q g1 g2 => by rw [e1, hk q (Nat.lt_of_lt_of_le g1 h2.1) g2]; exact h2.2.1 q g1 g2, fun q hq => by
      rcases List.mem_append.mp hq with h | h
      · exact h2.2.2 q h
      · exact hL q h⟩ h3 T' rfl Z'
  exact ⟨t2, sg t2 a1, b1⟩
def IOK (y : MethodName) (cc : ByteArray) (n : Nat) : Prop := Cond.instanceMethod y ∈ gtbl ∧ Cond.initialized y.cls ∈ gtbl ∧ Cond.code y cc n none ∈ gtbl ∧ y.name = "<init>" ∧ (y.cls ≠ "java/lang/invoke/MethodHandle" ∧ y.cls ≠ "java/lang/invoke/VarHandle" ∧ (parseMethodDescriptor y.desc).map (fun d => d.parameters.length) = some 0)
theorem v_callI (X : CxE γ l o own cc n fr lo rc rs b0) {y : MethodName} {cc' : ByteArray} {n' fr' lo' mc ms i ix k2 : Nat} {E2 : Nat → va_E} (hC : ConI l y cc' n' fr' lo' mc ms o i kk0 EE k2 E2) (Y : IOK y cc' n') (w : Cond.methodLink own ix y ∈ gtbl) (hk : kk0 = b0 + c0) (hR : fr' + 1 ≤ fr ∧ 8 + (n' + 11) + lo' ≤ lo) (hW : (rest.map fun v => v.category).sum ≤ 8) (hc : c0 + mc ≤ rc) (hs : s0 + ms ≤ rs) (d : decode cc pc = .ok (.invokespecial ix, 3))
    (kk : VE γ o n k2 E2 (c0 + mc) (s0 + ms) (pc + 3) lv rest) : VE γ o n kk0 EE c0 s0 pc lv (.ref (ads o i) :: rest) := by
  obtain ⟨x1, x2, x3, x4, x5, x6, x7, x8, x9, x10, x11, x12, x13, x14⟩ := X
  subst x9; subst x10; subst x11; subst x12; subst x13
  obtain ⟨y1, y2, y3, y4, y5⟩ := Y
  refine VE.run (fun H locs ls h1 hz h2 h3 => va_runI (As := []) (g := F0 γ.m pc ls _) ⟨x1, x2, x3, x4, x5⟩ hC (cwI 0 x5 (wsY_good y3) rfl rfl rfl (x5 _ y2) (x5 _ w) (x5 _ y1) y4 y5 hR) ⟨PofE.blind, fun U hU hWu => ⟨rfl, by rw [hU]; exact h1, by rw [hU]; exact wsE_sz h1 h2 x14 hk hz, x6.warm hWu, x7.warm hWu⟩⟩ rfl rfl h3.1 rfl (lv_room hW) d ⟨hc, hs⟩) kk
theorem v_callN (X : CxE γ l o own cc n fr lo rc rs b0) {y : MethodName} {cc' : ByteArray} {n' fr' lo' mc ms i ix k2 : Nat} {host : String} {E2 : Nat → va_E} (hC : ConI l y cc' n' fr' lo' mc ms o i kk0 EE k2 E2) (Y : IOK y cc' n') (w : (own, ix, y, host) ∈ nst) (hk : kk0 = b0 + c0) (hR : fr' + 1 ≤ fr ∧ 8 + (n' + 11) + lo' ≤ lo) (hW : (rest.map fun v => v.category).sum ≤ 8) (hc : c0 + mc ≤ rc) (hs : s0 + ms ≤ rs) (d : decode cc pc = .ok (.invokespecial ix, 3))
    (kk : VE γ o n k2 E2 (c0 + mc) (s0 + ms) (pc + 3) lv rest) : VE γ o n kk0 EE c0 s0 pc lv (.ref (ads o i) :: rest) := by
  obtain ⟨x1, x2, x3, x4, x5, x6, x7, x8, x9, x10, x11, x12, x13, x14⟩ := X
  subst x9; subst x10; subst x11; subst x12; subst x13
  obtain ⟨y1, y2, y3, y4, y5⟩ := Y
  refine VE.run (fun H locs ls h1 hz h2 h3 => va_runIN (As := []) (host := host) (g := F0 γ.m pc ls _) ⟨x1, x2, x3, x4, x5⟩ hC ⟨va_cnB 0 x5 (wsY_good y3) rfl rfl rfl (x6.2 _ w) (x5 _ y2) y5 hR, y4, x5 _ y1⟩ ⟨PofE.blind, fun U hU hWu => ⟨rfl, by rw [hU]; exact h1, by rw [hU]; exact wsE_sz h1 h2 x14 hk hz, x6.warm hWu, x7.warm hWu⟩⟩ rfl rfl h3.1 rfl (lv_room hW) d ⟨hc, hs⟩) kk
theorem v_end (X : CxE γ l o own cc n fr lo rc rs b0) (hr : γ.me.sig.returnType = none) {E2 : Nat → va_E} {k2 mc ms : Nat} (hQ : γ.Q = MQ γ.b (QofE o k2 E2) γ.a γ.s mc ms (isN o)) (hk : kk0 = b0 + c0) (e1 : kk0 = k2) (e2 : c0 = mc) (e3 : s0 = ms) (hE : ∀ i, i < kk0 → EE i = E2 i) (d : decode cc pc = .ok (.return_, 1)) : VE γ o n kk0 EE c0 s0 pc lv [] := by
  intro H locs ls h1 h2 h3
  subst e1; subst e2; subst e3
  obtain ⟨x1, x2, x3, x4, x5, x6, x7, x8, x9, x10, x11, x12, x13, x14⟩ := X
  rw [hQ]
  refine sz_W (fun hz => ?_)
  have hz := wsE_sz h1 h2 x14 hk hz
  exact W.vret (Qc := QofE o kk0 E2) x1 x2 hr (fun t ht _ => ⟨⟨rfl, by rw [ht, ← wsE_cong hE]; exact h1, by rw [ht]; exact hz⟩, h2.F ht⟩) h2.2.2 d x8
end ROWSE

theorem ff_Nm_10 : FOKf "NearMarks" 10 9 0 := ⟨CR9, CT9, 10, CY9, rfl, CI9, by decide, g_at 246 (by decide +kernel) (by decide +kernel), CYok9, CN9, rfl, rfl, _, CYok9 0 (by decide), fun _ => ⟨rfl, rfl⟩⟩
theorem ff_Nm_19 : FOKf "NearMarks" 19 9 1 := ⟨CR9, CT9, 10, CY9, rfl, CI9, by decide, g_at 247 (by decide +kernel) (by decide +kernel), CYok9, CN9, rfl, rfl, _, CYok9 1 (by decide), fun _ => ⟨rfl, rfl⟩⟩
theorem ff_Nm_25 : FOKf "NearMarks" 25 9 2 := ⟨CR9, CT9, 10, CY9, rfl, CI9, by decide, g_at 248 (by decide +kernel) (by decide +kernel), CYok9, CN9, rfl, rfl, _, CYok9 2 (by decide), fun _ => ⟨rfl, rfl⟩⟩
theorem ff_Nm_33 : FOKf "NearMarks" 33 9 3 := ⟨CR9, CT9, 10, CY9, rfl, CI9, by decide, g_at 249 (by decide +kernel) (by decide +kernel), CYok9, CN9, rfl, rfl, _, CYok9 3 (by decide), fun _ => ⟨rfl, rfl⟩⟩
theorem ff_Nm_45 : FOKf "NearMarks" 45 9 4 := ⟨CR9, CT9, 10, CY9, rfl, CI9, by decide, g_at 250 (by decide +kernel) (by decide +kernel), CYok9, CN9, rfl, rfl, _, CYok9 4 (by decide), fun _ => ⟨rfl, rfl⟩⟩
theorem ff_Nm_51 : FOKf "NearMarks" 51 9 5 := ⟨CR9, CT9, 10, CY9, rfl, CI9, by decide, g_at 251 (by decide +kernel) (by decide +kernel), CYok9, CN9, rfl, rfl, _, CYok9 5 (by decide), fun _ => ⟨rfl, rfl⟩⟩
theorem ff_Nm_58 : FOKf "NearMarks" 58 9 6 := ⟨CR9, CT9, 10, CY9, rfl, CI9, by decide, g_at 252 (by decide +kernel) (by decide +kernel), CYok9, CN9, rfl, rfl, _, CYok9 6 (by decide), fun _ => ⟨rfl, rfl⟩⟩
theorem ff_Nm_65 : FOKf "NearMarks" 65 9 7 := ⟨CR9, CT9, 10, CY9, rfl, CI9, by decide, g_at 253 (by decide +kernel) (by decide +kernel), CYok9, CN9, rfl, rfl, _, CYok9 7 (by decide), fun _ => ⟨rfl, rfl⟩⟩
theorem ff_Nm_72 : FOKf "NearMarks" 72 9 8 := ⟨CR9, CT9, 10, CY9, rfl, CI9, by decide, g_at 254 (by decide +kernel) (by decide +kernel), CYok9, CN9, rfl, rfl, _, CYok9 8 (by decide), fun _ => ⟨rfl, rfl⟩⟩
theorem ff_Nm_79 : FOKf "NearMarks" 79 9 9 := ⟨CR9, CT9, 10, CY9, rfl, CI9, by decide, g_at 255 (by decide +kernel) (by decide +kernel), CYok9, CN9, rfl, rfl, _, CYok9 9 (by decide), fun _ => ⟨rfl, rfl⟩⟩
theorem ff_Bk_9 : FOKf "NearMarks$Book" 9 0 0 := ⟨CR0, CT0, 4, CY0, rfl, CI0, by decide, g_at 221 (by decide +kernel) (by decide +kernel), CYok0, CN0, rfl, rfl, _, CYok0 0 (by decide), fun _ => ⟨rfl, rfl⟩⟩
theorem ff_Bk_15 : FOKf "NearMarks$Book" 15 0 1 := ⟨CR0, CT0, 4, CY0, rfl, CI0, by decide, g_at 222 (by decide +kernel) (by decide +kernel), CYok0, CN0, rfl, rfl, _, CYok0 1 (by decide), fun _ => ⟨rfl, rfl⟩⟩
theorem ff_Bk_18 : FOKf "NearMarks$Book" 18 0 2 := ⟨CR0, CT0, 4, CY0, rfl, CI0, by decide, g_at 223 (by decide +kernel) (by decide +kernel), CYok0, CN0, rfl, rfl, _, CYok0 2 (by decide), fun _ => ⟨rfl, rfl⟩⟩
theorem ff_Co_9 : FOKf "NearMarks$Columns" 9 1 0 := ⟨CR1, CT1, 2, CY1, rfl, CI1, by decide, g_at 188 (by decide +kernel) (by decide +kernel), CYok1, CN1, rfl, rfl, _, CYok1 0 (by decide), fun _ => ⟨rfl, rfl⟩⟩
theorem ff_Gr_9 : FOKf "NearMarks$Grouping" 9 3 0 := ⟨CR3, CT3, 3, CY3, rfl, CI3, by decide, g_at 170 (by decide +kernel) (by decide +kernel), CYok3, CN3, rfl, rfl, _, CYok3 0 (by decide), fun _ => ⟨rfl, rfl⟩⟩
theorem ff_Gr_15 : FOKf "NearMarks$Grouping" 15 3 1 := ⟨CR3, CT3, 3, CY3, rfl, CI3, by decide, g_at 172 (by decide +kernel) (by decide +kernel), CYok3, CN3, rfl, rfl, _, CYok3 1 (by decide), fun _ => ⟨rfl, rfl⟩⟩
theorem ff_Im_10 : FOKf "NearMarks$Image" 10 4 0 := ⟨CR4, CT4, 3, CY4, rfl, CI4, by decide, g_at 127 (by decide +kernel) (by decide +kernel), CYok4, CN4, rfl, rfl, _, CYok4 0 (by decide), fun _ => ⟨rfl, rfl⟩⟩
theorem ff_Pt_9 : FOKf "NearMarks$Parts" 9 5 0 := ⟨CR5, CT5, 3, CY5, rfl, CI5, by decide, g_at 144 (by decide +kernel) (by decide +kernel), CYok5, CN5, rfl, rfl, _, CYok5 0 (by decide), fun _ => ⟨rfl, rfl⟩⟩
theorem ff_Pt_15 : FOKf "NearMarks$Parts" 15 5 1 := ⟨CR5, CT5, 3, CY5, rfl, CI5, by decide, g_at 146 (by decide +kernel) (by decide +kernel), CYok5, CN5, rfl, rfl, _, CYok5 1 (by decide), fun _ => ⟨rfl, rfl⟩⟩
theorem ff_Pa_11 : FOKf "NearMarks$Past" 11 6 0 := ⟨CR6, CT6, 3, CY6, rfl, CI6, by decide, g_at 107 (by decide +kernel) (by decide +kernel), CYok6, CN6, rfl, rfl, _, CYok6 0 (by decide), fun _ => ⟨rfl, rfl⟩⟩
theorem ff_Si_9 : FOKf "NearMarks$Sightings" 9 7 0 := ⟨CR7, CT7, 4, CY7, rfl, CI7, by decide, g_at 201 (by decide +kernel) (by decide +kernel), CYok7, CN7, rfl, rfl, _, CYok7 0 (by decide), fun _ => ⟨rfl, rfl⟩⟩
theorem ff_Si_15 : FOKf "NearMarks$Sightings" 15 7 1 := ⟨CR7, CT7, 4, CY7, rfl, CI7, by decide, g_at 202 (by decide +kernel) (by decide +kernel), CYok7, CN7, rfl, rfl, _, CYok7 1 (by decide), fun _ => ⟨rfl, rfl⟩⟩
theorem ff_Si_19 : FOKf "NearMarks$Sightings" 19 7 2 := ⟨CR7, CT7, 4, CY7, rfl, CI7, by decide, g_at 203 (by decide +kernel) (by decide +kernel), CYok7, CN7, rfl, rfl, _, CYok7 2 (by decide), fun _ => ⟨rfl, rfl⟩⟩
theorem ff_St_17 : FOKf "NearMarks$State" 17 8 3 := ⟨CR8, CT8, 5, CY8, rfl, CI8, by decide, g_at 79 (by decide +kernel) (by decide +kernel), CYok8, CN8, rfl, rfl, _, CYok8 3 (by decide), fun _ => ⟨rfl, rfl⟩⟩
theorem ff_St_21 : FOKf "NearMarks$State" 21 8 4 := ⟨CR8, CT8, 5, CY8, rfl, CI8, by decide, g_at 83 (by decide +kernel) (by decide +kernel), CYok8, CN8, rfl, rfl, _, CYok8 4 (by decide), fun _ => ⟨rfl, rfl⟩⟩
theorem ff_Mo_7 : FOKf "NearMarksModel" 7 10 0 := ⟨CR10, CT10, 19, CY10, rfl, CI10, by decide, g_at 661 (by decide +kernel) (by decide +kernel), CYok10, CN10, rfl, rfl, _, CYok10 0 (by decide), fun _ => ⟨rfl, rfl⟩⟩
theorem ff_Mo_13 : FOKf "NearMarksModel" 13 10 1 := ⟨CR10, CT10, 19, CY10, rfl, CI10, by decide, g_at 662 (by decide +kernel) (by decide +kernel), CYok10, CN10, rfl, rfl, _, CYok10 1 (by decide), fun _ => ⟨rfl, rfl⟩⟩
theorem ff_Mo_17 : FOKf "NearMarksModel" 17 10 3 := ⟨CR10, CT10, 19, CY10, rfl, CI10, by decide, g_at 664 (by decide +kernel) (by decide +kernel), CYok10, CN10, rfl, rfl, _, CYok10 3 (by decide), fun _ => ⟨rfl, rfl⟩⟩
theorem ff_Mo_20 : FOKf "NearMarksModel" 20 10 4 := ⟨CR10, CT10, 19, CY10, rfl, CI10, by decide, g_at 665 (by decide +kernel) (by decide +kernel), CYok10, CN10, rfl, rfl, _, CYok10 4 (by decide), fun _ => ⟨rfl, rfl⟩⟩
theorem ff_Mo_23 : FOKf "NearMarksModel" 23 10 5 := ⟨CR10, CT10, 19, CY10, rfl, CI10, by decide, g_at 666 (by decide +kernel) (by decide +kernel), CYok10, CN10, rfl, rfl, _, CYok10 5 (by decide), fun _ => ⟨rfl, rfl⟩⟩
theorem ff_Mo_26 : FOKf "NearMarksModel" 26 10 6 := ⟨CR10, CT10, 19, CY10, rfl, CI10, by decide, g_at 667 (by decide +kernel) (by decide +kernel), CYok10, CN10, rfl, rfl, _, CYok10 6 (by decide), fun _ => ⟨rfl, rfl⟩⟩
theorem ff_Mo_29 : FOKf "NearMarksModel" 29 10 7 := ⟨CR10, CT10, 19, CY10, rfl, CI10, by decide, g_at 668 (by decide +kernel) (by decide +kernel), CYok10, CN10, rfl, rfl, _, CYok10 7 (by decide), fun _ => ⟨rfl, rfl⟩⟩
theorem ff_Mo_32 : FOKf "NearMarksModel" 32 10 8 := ⟨CR10, CT10, 19, CY10, rfl, CI10, by decide, g_at 669 (by decide +kernel) (by decide +kernel), CYok10, CN10, rfl, rfl, _, CYok10 8 (by decide), fun _ => ⟨rfl, rfl⟩⟩
theorem ff_Mo_36 : FOKf "NearMarksModel" 36 10 11 := ⟨CR10, CT10, 19, CY10, rfl, CI10, by decide, g_at 672 (by decide +kernel) (by decide +kernel), CYok10, CN10, rfl, rfl, _, CYok10 11 (by decide), fun _ => ⟨rfl, rfl⟩⟩
theorem ff_Mo_39 : FOKf "NearMarksModel" 39 10 12 := ⟨CR10, CT10, 19, CY10, rfl, CI10, by decide, g_at 673 (by decide +kernel) (by decide +kernel), CYok10, CN10, rfl, rfl, _, CYok10 12 (by decide), fun _ => ⟨rfl, rfl⟩⟩
theorem ff_Mo_42 : FOKf "NearMarksModel" 42 10 14 := ⟨CR10, CT10, 19, CY10, rfl, CI10, by decide, g_at 675 (by decide +kernel) (by decide +kernel), CYok10, CN10, rfl, rfl, _, CYok10 14 (by decide), fun _ => ⟨rfl, rfl⟩⟩
theorem ff_Mo_45 : FOKf "NearMarksModel" 45 10 15 := ⟨CR10, CT10, 19, CY10, rfl, CI10, by decide, g_at 676 (by decide +kernel) (by decide +kernel), CYok10, CN10, rfl, rfl, _, CYok10 15 (by decide), fun _ => ⟨rfl, rfl⟩⟩
theorem ff_Mo_48 : FOKf "NearMarksModel" 48 10 16 := ⟨CR10, CT10, 19, CY10, rfl, CI10, by decide, g_at 677 (by decide +kernel) (by decide +kernel), CYok10, CN10, rfl, rfl, _, CYok10 16 (by decide), fun _ => ⟨rfl, rfl⟩⟩
theorem ff_Mo_51 : FOKf "NearMarksModel" 51 10 17 := ⟨CR10, CT10, 19, CY10, rfl, CI10, by decide, g_at 678 (by decide +kernel) (by decide +kernel), CYok10, CN10, rfl, rfl, _, CYok10 17 (by decide), fun _ => ⟨rfl, rfl⟩⟩
theorem ff_Mo_54 : FOKf "NearMarksModel" 54 10 18 := ⟨CR10, CT10, 19, CY10, rfl, CI10, by decide, g_at 679 (by decide +kernel) (by decide +kernel), CYok10, CN10, rfl, rfl, _, CYok10 18 (by decide), fun _ => ⟨rfl, rfl⟩⟩
theorem wo_Nm : Cond.methodLink "NearMarks" 1 Lib.objectInit ∈ gtbl := g_at 60 (by decide +kernel) (by decide +kernel)
theorem wo_Bk : Cond.methodLink "NearMarks$Book" 3 Lib.objectInit ∈ gtbl := g_at 220 (by decide +kernel) (by decide +kernel)
theorem wo_Co : Cond.methodLink "NearMarks$Columns" 3 Lib.objectInit ∈ gtbl := g_at 187 (by decide +kernel) (by decide +kernel)
theorem wo_Dr : Cond.methodLink "NearMarks$Draws" 1 Lib.objectInit ∈ gtbl := g_at 240 (by decide +kernel) (by decide +kernel)
theorem wo_Gr : Cond.methodLink "NearMarks$Grouping" 3 Lib.objectInit ∈ gtbl := g_at 169 (by decide +kernel) (by decide +kernel)
theorem wo_Im : Cond.methodLink "NearMarks$Image" 1 Lib.objectInit ∈ gtbl := g_at 124 (by decide +kernel) (by decide +kernel)
theorem wo_Pt : Cond.methodLink "NearMarks$Parts" 3 Lib.objectInit ∈ gtbl := g_at 143 (by decide +kernel) (by decide +kernel)
theorem wo_Pa : Cond.methodLink "NearMarks$Past" 3 Lib.objectInit ∈ gtbl := g_at 103 (by decide +kernel) (by decide +kernel)
theorem wo_Si : Cond.methodLink "NearMarks$Sightings" 3 Lib.objectInit ∈ gtbl := g_at 200 (by decide +kernel) (by decide +kernel)
theorem wo_St : Cond.methodLink "NearMarks$State" 3 Lib.objectInit ∈ gtbl := g_at 68 (by decide +kernel) (by decide +kernel)
theorem wo_Mo : Cond.methodLink "NearMarksModel" 1 Lib.objectInit ∈ gtbl := g_at 659 (by decide +kernel) (by decide +kernel)
theorem cl_Nm_7 : Cond.classLink "NearMarks" 7 "NearMarks$State" ∈ gtbl := g_at 63 (by decide +kernel) (by decide +kernel)
theorem cl_Nm_16 : Cond.classLink "NearMarks" 16 "NearMarks$Past" ∈ gtbl := g_at 98 (by decide +kernel) (by decide +kernel)
theorem cl_Nm_23 : Cond.classLink "NearMarks" 23 "NearMarks$Image" ∈ gtbl := g_at 118 (by decide +kernel) (by decide +kernel)
theorem cl_Nm_30 : Cond.classLink "NearMarks" 30 "NearMarks$Parts" ∈ gtbl := g_at 138 (by decide +kernel) (by decide +kernel)
theorem cl_Nm_48 : Cond.classLink "NearMarks" 48 "NearMarks$Grouping" ∈ gtbl := g_at 164 (by decide +kernel) (by decide +kernel)
theorem cl_Nm_55 : Cond.classLink "NearMarks" 55 "NearMarks$Columns" ∈ gtbl := g_at 182 (by decide +kernel) (by decide +kernel)
theorem cl_Nm_62 : Cond.classLink "NearMarks" 62 "NearMarks$Sightings" ∈ gtbl := g_at 195 (by decide +kernel) (by decide +kernel)
theorem cl_Nm_69 : Cond.classLink "NearMarks" 69 "NearMarks$Book" ∈ gtbl := g_at 215 (by decide +kernel) (by decide +kernel)
theorem cl_Nm_76 : Cond.classLink "NearMarks" 76 "NearMarks$Draws" ∈ gtbl := g_at 235 (by decide +kernel) (by decide +kernel)
theorem cl_Im_7 : Cond.classLink "NearMarks$Image" 7 "NearMarks$State" ∈ gtbl := g_at 125 (by decide +kernel) (by decide +kernel)
theorem cl_Pa_9 : Cond.classLink "NearMarks$Past" 9 "NearMarks$State" ∈ gtbl := g_at 104 (by decide +kernel) (by decide +kernel)
theorem cl_Lw_7 : Cond.classLink "NearMarksLaw" 7 "NearMarks" ∈ gtbl := g_at 55 (by decide +kernel) (by decide +kernel)
theorem cl_Lw_10 : Cond.classLink "NearMarksLaw" 10 "NearMarksModel" ∈ gtbl := g_at 654 (by decide +kernel) (by decide +kernel)
theorem in_Nm : Cond.instantiable "NearMarks" 10 ∈ gtbl := g_at 56 (by decide +kernel) (by decide +kernel)
theorem ii_Nm : Cond.initialized "NearMarks" ∈ gtbl := g_at 41 (by decide +kernel) (by decide +kernel)
theorem in_St : Cond.instantiable "NearMarks$State" 5 ∈ gtbl := g_at 64 (by decide +kernel) (by decide +kernel)
theorem ii_St : Cond.initialized "NearMarks$State" ∈ gtbl := g_at 42 (by decide +kernel) (by decide +kernel)
theorem in_Pa : Cond.instantiable "NearMarks$Past" 3 ∈ gtbl := g_at 99 (by decide +kernel) (by decide +kernel)
theorem ii_Pa : Cond.initialized "NearMarks$Past" ∈ gtbl := g_at 43 (by decide +kernel) (by decide +kernel)
theorem in_Im : Cond.instantiable "NearMarks$Image" 3 ∈ gtbl := g_at 120 (by decide +kernel) (by decide +kernel)
theorem ii_Im : Cond.initialized "NearMarks$Image" ∈ gtbl := g_at 44 (by decide +kernel) (by decide +kernel)
theorem in_Pt : Cond.instantiable "NearMarks$Parts" 3 ∈ gtbl := g_at 139 (by decide +kernel) (by decide +kernel)
theorem ii_Pt : Cond.initialized "NearMarks$Parts" ∈ gtbl := g_at 45 (by decide +kernel) (by decide +kernel)
theorem in_Gr : Cond.instantiable "NearMarks$Grouping" 3 ∈ gtbl := g_at 165 (by decide +kernel) (by decide +kernel)
theorem ii_Gr : Cond.initialized "NearMarks$Grouping" ∈ gtbl := g_at 46 (by decide +kernel) (by decide +kernel)
theorem in_Co : Cond.instantiable "NearMarks$Columns" 2 ∈ gtbl := g_at 183 (by decide +kernel) (by decide +kernel)
theorem ii_Co : Cond.initialized "NearMarks$Columns" ∈ gtbl := g_at 47 (by decide +kernel) (by decide +kernel)
theorem in_Si : Cond.instantiable "NearMarks$Sightings" 4 ∈ gtbl := g_at 196 (by decide +kernel) (by decide +kernel)
theorem ii_Si : Cond.initialized "NearMarks$Sightings" ∈ gtbl := g_at 48 (by decide +kernel) (by decide +kernel)
theorem in_Bk : Cond.instantiable "NearMarks$Book" 4 ∈ gtbl := g_at 216 (by decide +kernel) (by decide +kernel)
theorem ii_Bk : Cond.initialized "NearMarks$Book" ∈ gtbl := g_at 49 (by decide +kernel) (by decide +kernel)
theorem in_Dr : Cond.instantiable "NearMarks$Draws" 1 ∈ gtbl := g_at 236 (by decide +kernel) (by decide +kernel)
theorem ii_Dr : Cond.initialized "NearMarks$Draws" ∈ gtbl := g_at 50 (by decide +kernel) (by decide +kernel)
theorem in_Mo : Cond.instantiable "NearMarksModel" 19 ∈ gtbl := g_at 655 (by decide +kernel) (by decide +kernel)
theorem ii_Mo : Cond.initialized "NearMarksModel" ∈ gtbl := g_at 51 (by decide +kernel) (by decide +kernel)
theorem ok_Nm_init : IOK y_Nm_init c_Nm_init 2 := ⟨g_at 58 (by decide +kernel) (by decide +kernel), ii_Nm, wc_Nm_init, rfl, ⟨by decide +kernel, by decide +kernel, by decide +kernel⟩⟩
theorem ok_St_init : IOK y_St_init c_St_init 1 := ⟨g_at 66 (by decide +kernel) (by decide +kernel), ii_St, wc_St_init, rfl, ⟨by decide +kernel, by decide +kernel, by decide +kernel⟩⟩
theorem ok_Pa_init : IOK y_Pa_init c_Pa_init 2 := ⟨g_at 101 (by decide +kernel) (by decide +kernel), ii_Pa, wc_Pa_init, rfl, ⟨by decide +kernel, by decide +kernel, by decide +kernel⟩⟩
theorem ok_Im_init : IOK y_Im_init c_Im_init 1 := ⟨g_at 122 (by decide +kernel) (by decide +kernel), ii_Im, wc_Im_init, rfl, ⟨by decide +kernel, by decide +kernel, by decide +kernel⟩⟩
theorem ok_Pt_init : IOK y_Pt_init c_Pt_init 1 := ⟨g_at 141 (by decide +kernel) (by decide +kernel), ii_Pt, wc_Pt_init, rfl, ⟨by decide +kernel, by decide +kernel, by decide +kernel⟩⟩
theorem ok_Gr_init : IOK y_Gr_init c_Gr_init 1 := ⟨g_at 167 (by decide +kernel) (by decide +kernel), ii_Gr, wc_Gr_init, rfl, ⟨by decide +kernel, by decide +kernel, by decide +kernel⟩⟩
theorem ok_Co_init : IOK y_Co_init c_Co_init 1 := ⟨g_at 185 (by decide +kernel) (by decide +kernel), ii_Co, wc_Co_init, rfl, ⟨by decide +kernel, by decide +kernel, by decide +kernel⟩⟩
theorem ok_Si_init : IOK y_Si_init c_Si_init 1 := ⟨g_at 198 (by decide +kernel) (by decide +kernel), ii_Si, wc_Si_init, rfl, ⟨by decide +kernel, by decide +kernel, by decide +kernel⟩⟩
theorem ok_Bk_init : IOK y_Bk_init c_Bk_init 1 := ⟨g_at 218 (by decide +kernel) (by decide +kernel), ii_Bk, wc_Bk_init, rfl, ⟨by decide +kernel, by decide +kernel, by decide +kernel⟩⟩
theorem ok_Dr_init : IOK y_Dr_init c_Dr_init 1 := ⟨g_at 238 (by decide +kernel) (by decide +kernel), ii_Dr, wc_Dr_init, rfl, ⟨by decide +kernel, by decide +kernel, by decide +kernel⟩⟩
theorem ok_Mo_init : IOK y_Mo_init c_Mo_init 1 := ⟨g_at 657 (by decide +kernel) (by decide +kernel), ii_Mo, wc_Mo_init, rfl, ⟨by decide +kernel, by decide +kernel, by decide +kernel⟩⟩
