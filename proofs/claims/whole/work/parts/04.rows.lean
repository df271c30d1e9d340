/-! rows of my layer: arithmetic, branches, fields, arrays, calls, ends -/
def bI (b : Bool) : Int32 := if b then 1 else 0
theorem bI_eq0 (b : Bool) : bI b = 0 ↔ b = false := by cases b <;> decide
theorem bI_t : bI true = 1 := rfl
theorem bI_f : bI false = 0 := rfl
theorem bI_nar (b : Bool) : narrow .boolean (.int (bI b)) = .int (bI b) := by cases b <;> rfl
def shl (x : Int64) (k : Nat) : Int64 := x <<< ((nI k).toInt64 &&& 63)
def shr (x : Int64) (k : Nat) : Int64 := x >>> ((nI k).toInt64 &&& 63)
def ushr (x : Int64) (k : Nat) : Int64 := (x.toUInt64 >>> ((nI k).toInt64.toUInt64 &&& Int64.toUInt64 63)).toInt64
section ROWS2
variable {γ : GT} {l : Launch} {o : OM} {own : String} {cc : ByteArray} {n : Nat} {r : Option FieldType} {fr lo : Nat} {P : Option Value → MI → ML → Prop}
variable {mi : MI} {ml : ML} {pc : Nat} {lv : List (Nat × Value)} {st rest : List Value}
theorem r_iadd (X : Cx γ l o own cc n r fr lo P) {x y v : Int32} (d : decode cc pc = .ok (.iadd, 1)) (hv : x + y = v) (k : V γ o n mi ml (pc + 1) lv (.int v :: rest)) : V γ o n mi ml (pc) lv (.int y :: .int x :: rest) := fun H locs ls h1 h2 h3 => lv_iadd X.1 X.2.1 d (by rw [hv]; exact k H locs ls h1 h2 h3)
theorem r_isub (X : Cx γ l o own cc n r fr lo P) {x y v : Int32} (d : decode cc pc = .ok (.isub, 1)) (hv : x - y = v) (k : V γ o n mi ml (pc + 1) lv (.int v :: rest)) : V γ o n mi ml (pc) lv (.int y :: .int x :: rest) := fun H locs ls h1 h2 h3 => lv_isub X.1 X.2.1 d (by rw [hv]; exact k H locs ls h1 h2 h3)
theorem r_imul (X : Cx γ l o own cc n r fr lo P) {x y v : Int32} (d : decode cc pc = .ok (.imul, 1)) (hv : x * y = v) (k : V γ o n mi ml (pc + 1) lv (.int v :: rest)) : V γ o n mi ml (pc) lv (.int y :: .int x :: rest) := fun H locs ls h1 h2 h3 => lv_imul X.1 X.2.1 d (by rw [hv]; exact k H locs ls h1 h2 h3)
theorem r_iand (X : Cx γ l o own cc n r fr lo P) {x y v : Int32} (d : decode cc pc = .ok (.iand, 1)) (hv : x &&& y = v) (k : V γ o n mi ml (pc + 1) lv (.int v :: rest)) : V γ o n mi ml (pc) lv (.int y :: .int x :: rest) := fun H locs ls h1 h2 h3 => lv_iand X.1 X.2.1 d (by rw [hv]; exact k H locs ls h1 h2 h3)
theorem r_idiv (X : Cx γ l o own cc n r fr lo P) {x y v : Int32} (d : decode cc pc = .ok (.idiv, 1)) (hne : ¬ y = 0) (hv : x / y = v) (k : V γ o n mi ml (pc + 1) lv (.int v :: rest)) : V γ o n mi ml (pc) lv (.int y :: .int x :: rest) := fun H locs ls h1 h2 h3 => lv_idiv X.1 X.2.1 d hne (by rw [hv]; exact k H locs ls h1 h2 h3)
theorem r_irem (X : Cx γ l o own cc n r fr lo P) {x y v : Int32} (d : decode cc pc = .ok (.irem, 1)) (hne : ¬ y = 0) (hv : x - x / y * y = v) (k : V γ o n mi ml (pc + 1) lv (.int v :: rest)) : V γ o n mi ml (pc) lv (.int y :: .int x :: rest) := fun H locs ls h1 h2 h3 => lv_irem X.1 X.2.1 d hne (by rw [hv]; exact k H locs ls h1 h2 h3)
theorem r_ladd (X : Cx γ l o own cc n r fr lo P) {x y v : Int64} (d : decode cc pc = .ok (.ladd, 1)) (hv : x + y = v) (k : V γ o n mi ml (pc + 1) lv (.long v :: rest)) : V γ o n mi ml (pc) lv (.long y :: .long x :: rest) := fun H locs ls h1 h2 h3 => lv_ladd X.1 X.2.1 d (by rw [hv]; exact k H locs ls h1 h2 h3)
theorem r_lsub (X : Cx γ l o own cc n r fr lo P) {x y v : Int64} (d : decode cc pc = .ok (.lsub, 1)) (hv : x - y = v) (k : V γ o n mi ml (pc + 1) lv (.long v :: rest)) : V γ o n mi ml (pc) lv (.long y :: .long x :: rest) := fun H locs ls h1 h2 h3 => lv_lsub X.1 X.2.1 d (by rw [hv]; exact k H locs ls h1 h2 h3)
theorem r_lmul (X : Cx γ l o own cc n r fr lo P) {x y v : Int64} (d : decode cc pc = .ok (.lmul, 1)) (hv : x * y = v) (k : V γ o n mi ml (pc + 1) lv (.long v :: rest)) : V γ o n mi ml (pc) lv (.long y :: .long x :: rest) := fun H locs ls h1 h2 h3 => lv_lmul X.1 X.2.1 d (by rw [hv]; exact k H locs ls h1 h2 h3)
theorem r_land (X : Cx γ l o own cc n r fr lo P) {x y v : Int64} (d : decode cc pc = .ok (.land, 1)) (hv : x &&& y = v) (k : V γ o n mi ml (pc + 1) lv (.long v :: rest)) : V γ o n mi ml (pc) lv (.long y :: .long x :: rest) := fun H locs ls h1 h2 h3 => lv_land X.1 X.2.1 d (by rw [hv]; exact k H locs ls h1 h2 h3)
theorem r_lor (X : Cx γ l o own cc n r fr lo P) {x y v : Int64} (d : decode cc pc = .ok (.lor, 1)) (hv : x ||| y = v) (k : V γ o n mi ml (pc + 1) lv (.long v :: rest)) : V γ o n mi ml (pc) lv (.long y :: .long x :: rest) := fun H locs ls h1 h2 h3 => lv_lor X.1 X.2.1 d (by rw [hv]; exact k H locs ls h1 h2 h3)
theorem r_lxor (X : Cx γ l o own cc n r fr lo P) {x y v : Int64} (d : decode cc pc = .ok (.lxor, 1)) (hv : x ^^^ y = v) (k : V γ o n mi ml (pc + 1) lv (.long v :: rest)) : V γ o n mi ml (pc) lv (.long y :: .long x :: rest) := fun H locs ls h1 h2 h3 => lv_lxor X.1 X.2.1 d (by rw [hv]; exact k H locs ls h1 h2 h3)
theorem r_lrem (X : Cx γ l o own cc n r fr lo P) {x y v : Int64} (d : decode cc pc = .ok (.lrem, 1)) (hne : ¬ y = 0) (hv : x - x / y * y = v) (k : V γ o n mi ml (pc + 1) lv (.long v :: rest)) : V γ o n mi ml (pc) lv (.long y :: .long x :: rest) := fun H locs ls h1 h2 h3 => lv_lrem X.1 X.2.1 d hne (by rw [hv]; exact k H locs ls h1 h2 h3)
theorem r_i2l (X : Cx γ l o own cc n r fr lo P) {x : Int32} {v : Int64} (d : decode cc pc = .ok (.i2l, 1)) (hv : x.toInt64 = v) (k : V γ o n mi ml (pc + 1) lv (.long v :: rest)) : V γ o n mi ml (pc) lv (.int x :: rest) := fun H locs ls h1 h2 h3 => lv_i2l X.1 X.2.1 d hv (k H locs ls h1 h2 h3)
theorem r_l2i (X : Cx γ l o own cc n r fr lo P) {x : Int64} {v : Int32} (d : decode cc pc = .ok (.l2i, 1)) (hv : x.toInt32 = v) (k : V γ o n mi ml (pc + 1) lv (.int v :: rest)) : V γ o n mi ml (pc) lv (.long x :: rest) := fun H locs ls h1 h2 h3 => lv_l2i X.1 X.2.1 d hv (k H locs ls h1 h2 h3)
theorem r_lushr (X : Cx γ l o own cc n r fr lo P) {x v : Int64} {y : Int32} (d : decode cc pc = .ok (.lushr, 1)) (hv : (x.toUInt64 >>> (y.toInt64.toUInt64 &&& Int64.toUInt64 63)).toInt64 = v) (k : V γ o n mi ml (pc + 1) lv (.long v :: rest)) : V γ o n mi ml (pc) lv (.int y :: .long x :: rest) := fun H locs ls h1 h2 h3 => lv_lushr X.1 X.2.1 d hv (k H locs ls h1 h2 h3)
theorem r_lshl (X : Cx γ l o own cc n r fr lo P) {x v : Int64} {y : Int32} (d : decode cc pc = .ok (.lshl, 1)) (hv : x <<< (y.toInt64 &&& 63) = v) (k : V γ o n mi ml (pc + 1) lv (.long v :: rest)) : V γ o n mi ml (pc) lv (.int y :: .long x :: rest) := fun H locs ls h1 h2 h3 => lv_lshl X.1 X.2.1 d hv (k H locs ls h1 h2 h3)
theorem r_lshr (X : Cx γ l o own cc n r fr lo P) {x v : Int64} {y : Int32} (d : decode cc pc = .ok (.lshr, 1)) (hv : x >>> (y.toInt64 &&& 63) = v) (k : V γ o n mi ml (pc + 1) lv (.long v :: rest)) : V γ o n mi ml (pc) lv (.int y :: .long x :: rest) := fun H locs ls h1 h2 h3 => lv_lshr X.1 X.2.1 d hv (k H locs ls h1 h2 h3)
theorem r_dup (X : Cx γ l o own cc n r fr lo P) {a : Value} (d : decode cc pc = .ok (.dup, 1)) (ha : a.category = 1) (k : V γ o n mi ml (pc + 1) lv (a :: a :: rest)) : V γ o n mi ml (pc) lv (a :: rest) := fun H locs ls h1 h2 h3 => lv_dup X.1 X.2.1 d ha (k H locs ls h1 h2 h3)
theorem r_pop (X : Cx γ l o own cc n r fr lo P) {a : Value} (d : decode cc pc = .ok (.pop, 1)) (ha : a.category = 1) (k : V γ o n mi ml (pc + 1) lv (rest)) : V γ o n mi ml (pc) lv (a :: rest) := fun H locs ls h1 h2 h3 => lv_pop X.1 X.2.1 d ha (k H locs ls h1 h2 h3)
theorem r_dup2_2 (X : Cx γ l o own cc n r fr lo P) {a : Value} (d : decode cc pc = .ok (.dup2, 1)) (ha : a.category = 2) (k : V γ o n mi ml (pc + 1) lv (a :: a :: rest)) : V γ o n mi ml (pc) lv (a :: rest) := fun H locs ls h1 h2 h3 => lv_dup2_2 X.1 X.2.1 d ha (k H locs ls h1 h2 h3)
theorem r_dup2_11 (X : Cx γ l o own cc n r fr lo P) {a b : Value} (d : decode cc pc = .ok (.dup2, 1)) (ha : a.category = 1) (hb : b.category = 1) (k : V γ o n mi ml (pc + 1) lv (a :: b :: a :: b :: rest)) : V γ o n mi ml (pc) lv (a :: b :: rest) := fun H locs ls h1 h2 h3 => lv_dup2_11 X.1 X.2.1 d ha hb (k H locs ls h1 h2 h3)
theorem r_lcmp (X : Cx γ l o own cc n r fr lo P) {x y : Int64} (d : decode cc pc = .ok (.lcmp, 1)) (k : V γ o n mi ml (pc + 1) lv (.int (lg_cmp x y) :: rest)) : V γ o n mi ml (pc) lv (.long y :: .long x :: rest) := fun H locs ls h1 h2 h3 => W.lcmp X.1 X.2.1 d (k H locs ls h1 h2 h3)
theorem r_goto (X : Cx γ l o own cc n r fr lo P) {off : Int} {tgt : Nat} (d : decode cc pc = .ok (.goto off, 3)) (ht : (pc : Int) + off = (tgt : Int)) (k : V γ o n mi ml (tgt) lv (rest)) : V γ o n mi ml (pc) lv (rest) := fun H locs ls h1 h2 h3 => lv_goto X.1 X.2.1 d ht (k H locs ls h1 h2 h3)
theorem r_ifeq (X : Cx γ l o own cc n r fr lo P) {x : Int32} {c : Prop} {off : Int} {tgt : Nat} (d : decode cc pc = .ok (.ifCond .eq off, 3)) (ht : (pc : Int) + off = (tgt : Int)) (hc : (x = 0) ↔ c) (kt : c → V γ o n mi ml (tgt) lv (rest)) (kf : ¬ c → V γ o n mi ml (pc + 3) lv (rest)) : V γ o n mi ml (pc) lv (.int x :: rest) := fun H locs ls h1 h2 h3 => lv_if_eq X.1 X.2.1 d ht (fun q => kt (hc.mp q) H locs ls h1 h2 h3) (fun q => kf (fun z => q (hc.mpr z)) H locs ls h1 h2 h3)
theorem r_iceq (X : Cx γ l o own cc n r fr lo P) {x y : Int32} {c : Prop} {off : Int} {tgt : Nat} (d : decode cc pc = .ok (.if_icmp .eq off, 3)) (ht : (pc : Int) + off = (tgt : Int)) (hc : (x = y) ↔ c) (kt : c → V γ o n mi ml (tgt) lv (rest)) (kf : ¬ c → V γ o n mi ml (pc + 3) lv (rest)) : V γ o n mi ml (pc) lv (.int y :: .int x :: rest) := fun H locs ls h1 h2 h3 => lv_icmp_eq X.1 X.2.1 d ht (fun q => kt (hc.mp q) H locs ls h1 h2 h3) (fun q => kf (fun z => q (hc.mpr z)) H locs ls h1 h2 h3)
theorem r_ifne (X : Cx γ l o own cc n r fr lo P) {x : Int32} {c : Prop} {off : Int} {tgt : Nat} (d : decode cc pc = .ok (.ifCond .ne off, 3)) (ht : (pc : Int) + off = (tgt : Int)) (hc : (¬ x = 0) ↔ c) (kt : c → V γ o n mi ml (tgt) lv (rest)) (kf : ¬ c → V γ o n mi ml (pc + 3) lv (rest)) : V γ o n mi ml (pc) lv (.int x :: rest) := fun H locs ls h1 h2 h3 => lv_if_ne X.1 X.2.1 d ht (fun q => kt (hc.mp q) H locs ls h1 h2 h3) (fun q => kf (fun z => hc.mpr z q) H locs ls h1 h2 h3)
theorem r_icne (X : Cx γ l o own cc n r fr lo P) {x y : Int32} {c : Prop} {off : Int} {tgt : Nat} (d : decode cc pc = .ok (.if_icmp .ne off, 3)) (ht : (pc : Int) + off = (tgt : Int)) (hc : (¬ x = y) ↔ c) (kt : c → V γ o n mi ml (tgt) lv (rest)) (kf : ¬ c → V γ o n mi ml (pc + 3) lv (rest)) : V γ o n mi ml (pc) lv (.int y :: .int x :: rest) := fun H locs ls h1 h2 h3 => lv_icmp_ne X.1 X.2.1 d ht (fun q => kt (hc.mp q) H locs ls h1 h2 h3) (fun q => kf (fun z => hc.mpr z q) H locs ls h1 h2 h3)
theorem r_iflt (X : Cx γ l o own cc n r fr lo P) {x : Int32} {c : Prop} {off : Int} {tgt : Nat} (d : decode cc pc = .ok (.ifCond .lt off, 3)) (ht : (pc : Int) + off = (tgt : Int)) (hc : (x < 0) ↔ c) (kt : c → V γ o n mi ml (tgt) lv (rest)) (kf : ¬ c → V γ o n mi ml (pc + 3) lv (rest)) : V γ o n mi ml (pc) lv (.int x :: rest) := fun H locs ls h1 h2 h3 => lv_if_lt X.1 X.2.1 d ht (fun q => kt (hc.mp q) H locs ls h1 h2 h3) (fun q => kf (fun z => q (hc.mpr z)) H locs ls h1 h2 h3)
theorem r_iclt (X : Cx γ l o own cc n r fr lo P) {x y : Int32} {c : Prop} {off : Int} {tgt : Nat} (d : decode cc pc = .ok (.if_icmp .lt off, 3)) (ht : (pc : Int) + off = (tgt : Int)) (hc : (x < y) ↔ c) (kt : c → V γ o n mi ml (tgt) lv (rest)) (kf : ¬ c → V γ o n mi ml (pc + 3) lv (rest)) : V γ o n mi ml (pc) lv (.int y :: .int x :: rest) := fun H locs ls h1 h2 h3 => lv_icmp_lt X.1 X.2.1 d ht (fun q => kt (hc.mp q) H locs ls h1 h2 h3) (fun q => kf (fun z => q (hc.mpr z)) H locs ls h1 h2 h3)
theorem r_ifge (X : Cx γ l o own cc n r fr lo P) {x : Int32} {c : Prop} {off : Int} {tgt : Nat} (d : decode cc pc = .ok (.ifCond .ge off, 3)) (ht : (pc : Int) + off = (tgt : Int)) (hc : (0 ≤ x) ↔ c) (kt : c → V γ o n mi ml (tgt) lv (rest)) (kf : ¬ c → V γ o n mi ml (pc + 3) lv (rest)) : V γ o n mi ml (pc) lv (.int x :: rest) := fun H locs ls h1 h2 h3 => lv_if_ge X.1 X.2.1 d ht (fun q => kt (hc.mp q) H locs ls h1 h2 h3) (fun q => kf (fun z => q (hc.mpr z)) H locs ls h1 h2 h3)
theorem r_icge (X : Cx γ l o own cc n r fr lo P) {x y : Int32} {c : Prop} {off : Int} {tgt : Nat} (d : decode cc pc = .ok (.if_icmp .ge off, 3)) (ht : (pc : Int) + off = (tgt : Int)) (hc : (y ≤ x) ↔ c) (kt : c → V γ o n mi ml (tgt) lv (rest)) (kf : ¬ c → V γ o n mi ml (pc + 3) lv (rest)) : V γ o n mi ml (pc) lv (.int y :: .int x :: rest) := fun H locs ls h1 h2 h3 => lv_icmp_ge X.1 X.2.1 d ht (fun q => kt (hc.mp q) H locs ls h1 h2 h3) (fun q => kf (fun z => q (hc.mpr z)) H locs ls h1 h2 h3)
theorem r_ifgt (X : Cx γ l o own cc n r fr lo P) {x : Int32} {c : Prop} {off : Int} {tgt : Nat} (d : decode cc pc = .ok (.ifCond .gt off, 3)) (ht : (pc : Int) + off = (tgt : Int)) (hc : (0 < x) ↔ c) (kt : c → V γ o n mi ml (tgt) lv (rest)) (kf : ¬ c → V γ o n mi ml (pc + 3) lv (rest)) : V γ o n mi ml (pc) lv (.int x :: rest) := fun H locs ls h1 h2 h3 => lv_if_gt X.1 X.2.1 d ht (fun q => kt (hc.mp q) H locs ls h1 h2 h3) (fun q => kf (fun z => q (hc.mpr z)) H locs ls h1 h2 h3)
theorem r_icgt (X : Cx γ l o own cc n r fr lo P) {x y : Int32} {c : Prop} {off : Int} {tgt : Nat} (d : decode cc pc = .ok (.if_icmp .gt off, 3)) (ht : (pc : Int) + off = (tgt : Int)) (hc : (y < x) ↔ c) (kt : c → V γ o n mi ml (tgt) lv (rest)) (kf : ¬ c → V γ o n mi ml (pc + 3) lv (rest)) : V γ o n mi ml (pc) lv (.int y :: .int x :: rest) := fun H locs ls h1 h2 h3 => lv_icmp_gt X.1 X.2.1 d ht (fun q => kt (hc.mp q) H locs ls h1 h2 h3) (fun q => kf (fun z => q (hc.mpr z)) H locs ls h1 h2 h3)
theorem r_ifle (X : Cx γ l o own cc n r fr lo P) {x : Int32} {c : Prop} {off : Int} {tgt : Nat} (d : decode cc pc = .ok (.ifCond .le off, 3)) (ht : (pc : Int) + off = (tgt : Int)) (hc : (x ≤ 0) ↔ c) (kt : c → V γ o n mi ml (tgt) lv (rest)) (kf : ¬ c → V γ o n mi ml (pc + 3) lv (rest)) : V γ o n mi ml (pc) lv (.int x :: rest) := fun H locs ls h1 h2 h3 => lv_if_le X.1 X.2.1 d ht (fun q => kt (hc.mp q) H locs ls h1 h2 h3) (fun q => kf (fun z => q (hc.mpr z)) H locs ls h1 h2 h3)
theorem r_icle (X : Cx γ l o own cc n r fr lo P) {x y : Int32} {c : Prop} {off : Int} {tgt : Nat} (d : decode cc pc = .ok (.if_icmp .le off, 3)) (ht : (pc : Int) + off = (tgt : Int)) (hc : (x ≤ y) ↔ c) (kt : c → V γ o n mi ml (tgt) lv (rest)) (kf : ¬ c → V γ o n mi ml (pc + 3) lv (rest)) : V γ o n mi ml (pc) lv (.int y :: .int x :: rest) := fun H locs ls h1 h2 h3 => lv_icmp_le X.1 X.2.1 d ht (fun q => kt (hc.mp q) H locs ls h1 h2 h3) (fun q => kf (fun z => q (hc.mpr z)) H locs ls h1 h2 h3)
theorem r_ifeqB (X : Cx γ l o own cc n r fr lo P) {b : Bool} {off : Int} {tgt : Nat} (d : decode cc pc = .ok (.ifCond .eq off, 3)) (ht : (pc : Int) + off = (tgt : Int)) (kt : b = false → V γ o n mi ml (tgt) lv (rest)) (kf : b = true → V γ o n mi ml (pc + 3) lv (rest)) : V γ o n mi ml (pc) lv (.int (bI b) :: rest) := r_ifeq X d ht (bI_eq0 b) kt (fun q => kf (by simpa using q))
theorem r_ifneB (X : Cx γ l o own cc n r fr lo P) {b : Bool} {off : Int} {tgt : Nat} (d : decode cc pc = .ok (.ifCond .ne off, 3)) (ht : (pc : Int) + off = (tgt : Int)) (kt : b = true → V γ o n mi ml (tgt) lv (rest)) (kf : b = false → V γ o n mi ml (pc + 3) lv (rest)) : V γ o n mi ml (pc) lv (.int (bI b) :: rest) := r_ifne X d ht (c := b = true) (by rw [bI_eq0]; simp) kt (fun q => kf (by simpa using q))
theorem r_end_i (X : Cx γ l o own cc n (some .int) fr lo P) {v : Int32} (d : decode cc pc = .ok (.ireturn, 1)) (h : P (some (.int v)) mi ml) : V γ o n mi ml pc lv [.int v] := by
  intro H locs ls h1 h2 h3
  rw [X.2.2.2.2.2.2.2.2.2.2.2]
  exact W.iret (Qc := Qof o P) X.1 X.2.1 X.2.2.2.2.2.2.1 (fun t ht _ => ⟨⟨_, mi, ml, rfl, h, by rw [ht]; exact h1⟩, h2.F ht⟩) h2.2.2 d X.2.2.2.2.2.2.2.1
theorem r_end_z (X : Cx γ l o own cc n (some .boolean) fr lo P) {v : Int32} (hn : narrow .boolean (.int v) = .int v) (d : decode cc pc = .ok (.ireturn, 1)) (h : P (some (.int v)) mi ml) : V γ o n mi ml pc lv [.int v] := by
  intro H locs ls h1 h2 h3
  rw [X.2.2.2.2.2.2.2.2.2.2.2]
  exact W.zret (Qc := Qof o P) X.1 X.2.1 X.2.2.2.2.2.2.1 hn (fun t ht _ => ⟨⟨_, mi, ml, rfl, h, by rw [ht]; exact h1⟩, h2.F ht⟩) h2.2.2 d X.2.2.2.2.2.2.2.1
theorem r_end_l (X : Cx γ l o own cc n (some .long) fr lo P) {v : Int64} (d : decode cc pc = .ok (.lreturn, 1)) (h : P (some (.long v)) mi ml) : V γ o n mi ml pc lv [.long v] := by
  intro H locs ls h1 h2 h3
  rw [X.2.2.2.2.2.2.2.2.2.2.2]
  exact W.lret (Qc := Qof o P) X.1 X.2.1 X.2.2.2.2.2.2.1 (fun t ht _ => ⟨⟨_, mi, ml, rfl, h, by rw [ht]; exact h1⟩, h2.F ht⟩) h2.2.2 d X.2.2.2.2.2.2.2.1
theorem r_end_v (X : Cx γ l o own cc n none fr lo P) (d : decode cc pc = .ok (.return_, 1)) (h : P none mi ml) : V γ o n mi ml pc lv [] := by
  intro H locs ls h1 h2 h3
  rw [X.2.2.2.2.2.2.2.2.2.2.2]
  exact W.vret (Qc := Qof o P) X.1 X.2.1 X.2.2.2.2.2.2.1 (fun t ht _ => ⟨⟨_, mi, ml, rfl, h, by rw [ht]; exact h1⟩, h2.F ht⟩) h2.2.2 d X.2.2.2.2.2.2.2.1
/-- a field's site: class number, slot -/
def FOK (own : String) (ix ci k : Nat) : Prop := ∃ (C : String) (T : u_T) (N : Nat), vcl[ci]? = some (C, T, N) ∧ (∀ w ∈ u_ws C T N, w ∈ gtbl) ∧ k < N ∧ Cond.fieldLink own ix (T k).1 (T k).2.1 (T k).2.2.1 ∈ gtbl
def FOKw (own : String) (ix ci k : Nat) (ty : FieldType) : Prop := ∃ (C : String) (T : u_T) (N : Nat) (ty0 : Nat → FieldType), vcl[ci]? = some (C, T, N) ∧ (∀ w ∈ u_ws C T N, w ∈ gtbl) ∧ k < N ∧ Cond.fieldLink own ix (T k).1 (T k).2.1 (T k).2.2.1 ∈ gtbl ∧ (∀ k, k < N → parseFieldDescriptor (T k).2.2.1 = some (ty0 k)) ∧ (∀ a, a < N → ∀ b, b < N → a ≠ b → (T a).2.1 ≠ (T b).2.1) ∧ (T k).2.2.2 = false ∧ parseFieldDescriptor (T k).2.2.1 = some ty
theorem r_get (X : Cx γ l o own cc n r fr lo P) {i ix ci : Nat} {k : Nat} {F : (Nat → Int32) → (Nat → Int64) → List Value} (f : FOK own ix ci k) (hi : i < 111) (hc : ∀ f g, cE o f g i = .inr (ci, F f g)) {v : Value} (hv : (F (mi i) (ml i))[k]? = some v) (d : decode cc pc = .ok (.getfield ix, 3)) (kk : V γ o n mi ml (pc + 3) lv (v :: rest)) : V γ o n mi ml pc lv (.ref (ads o i) :: rest) := by
  intro H locs ls h1 h2 h3
  obtain ⟨C, T, N, e1, e2, e3, e4⟩ := f
  exact va_get X.1 X.2.1 X.2.2.2.2.1 e2 X.2.2.2.1 X.2.2.2.2.2.1.1 h1 i (by rw [cells_at o mi ml hi, hc]) e1 k e3 (X.2.2.2.2.1 _ e4) (fun _ h => h) hv d (kk H locs ls h1 h2 h3)
theorem r_put (X : Cx γ l o own cc n r fr lo P) {i ix ci : Nat} {k : Nat} {F : (Nat → Int32) → (Nat → Int64) → List Value} {ty : FieldType} (f : FOKw own ix ci k ty) (hi : i < 111) (hc : ∀ f g, cE o f g i = .inr (ci, F f g)) {v : Value} {mi' : MI} {ml' : ML} (hm : ∀ j, j ≠ i → mi' j = mi j ∧ ml' j = ml j) (hs : F (mi' i) (ml' i) = (F (mi i) (ml i)).set k v) (hl : k < (F (mi i) (ml i)).length) (hn : narrow ty v = v) (hf : fits ty v = true) (d : decode cc pc = .ok (.putfield ix, 3)) (kk : V γ o n mi' ml' (pc + 3) lv rest) : V γ o n mi ml pc lv (v :: .ref (ads o i) :: rest) := by
  intro H locs ls h1 h2 h3
  obtain ⟨C, T, N, ty0, e1, e2, e3, e4, e5, e6, e7, e8⟩ := f
  refine va_put X.1 X.2.1 X.2.2.2.2.1 e2 ty0 e5 e6 X.2.2.2.1 X.2.2.2.2.2.1.1 h1 (cells_D o mi ml) h2 i (by rw [cells_at o mi ml hi, hc]) e1 k e3 (X.2.2.2.2.1 _ e4) (fun _ h => h) e7 e8 hn hf hl d (fun H1 locs1 g1 g2 g3 => ?_)
  rw [cells_set o (mi' := mi') (ml' := ml') hi hm (by rw [hc, hs])] at g1
  exact kk H1 locs1 ls g1 g3 h3
theorem r_putI (X : Cx γ l o own cc n r fr lo P) {i ix ci : Nat} {k : Nat} {F : (Nat → Int32) → (Nat → Int64) → List Value} (f : FOKw own ix ci k .int) (hi : i < 111) (hc : ∀ f g, cE o f g i = .inr (ci, F f g)) {x : Int32} (hs : ∀ f g, F (uf f k x) g = (F f g).set k (.int x)) (hl : k < (F (mi i) (ml i)).length) (d : decode cc pc = .ok (.putfield ix, 3)) (kk : V γ o n (u2 mi i k x) ml (pc + 3) lv rest) : V γ o n mi ml pc lv (.int x :: .ref (ads o i) :: rest) :=
  r_put X f hi hc (fun j hj => ⟨u2_n mi k x hj, rfl⟩) (by rw [u2_s]; exact hs _ _) hl rfl rfl d kk
theorem r_putZ (X : Cx γ l o own cc n r fr lo P) {i ix ci : Nat} {k : Nat} {F : (Nat → Int32) → (Nat → Int64) → List Value} (f : FOKw own ix ci k .boolean) (hi : i < 111) (hc : ∀ f g, cE o f g i = .inr (ci, F f g)) {x : Int32} (hs : ∀ f g, F (uf f k x) g = (F f g).set k (.int x)) (hl : k < (F (mi i) (ml i)).length) (hn : narrow .boolean (.int x) = .int x) (hf : fits .boolean (.int x) = true) (d : decode cc pc = .ok (.putfield ix, 3)) (kk : V γ o n (u2 mi i k x) ml (pc + 3) lv rest) : V γ o n mi ml pc lv (.int x :: .ref (ads o i) :: rest) :=
  r_put X f hi hc (fun j hj => ⟨u2_n mi k x hj, rfl⟩) (by rw [u2_s]; exact hs _ _) hl hn hf d kk
theorem r_putL (X : Cx γ l o own cc n r fr lo P) {i ix ci : Nat} {k : Nat} {F : (Nat → Int32) → (Nat → Int64) → List Value} (f : FOKw own ix ci k .long) (hi : i < 111) (hc : ∀ f g, cE o f g i = .inr (ci, F f g)) {x : Int64} (hs : ∀ f g, F f (uf g k x) = (F f g).set k (.long x)) (hl : k < (F (mi i) (ml i)).length) (d : decode cc pc = .ok (.putfield ix, 3)) (kk : V γ o n mi (u2 ml i k x) (pc + 3) lv rest) : V γ o n mi ml pc lv (.long x :: .ref (ads o i) :: rest) :=
  r_put X f hi hc (fun j hj => ⟨rfl, u2_n ml k x hj⟩) (by rw [u2_s]; exact hs _ _) hl rfl rfl d kk
/-- arrays -/
theorem r_iald (X : Cx γ l o own cc n r fr lo P) {i m j : Nat} {v : Int32} (hi : i < 111) (hc : ∀ f g, cE o f g i = aI o m f) (hm : m < 2 ^ 31) (hj : j < m) (hv : mi i j = v) (d : decode cc pc = .ok (.iaload, 1)) (k : V γ o n mi ml (pc + 1) lv (.int v :: rest)) : V γ o n mi ml pc lv (.int (nI j) :: .ref (ads o i) :: rest) := by
  intro H locs ls h1 h2 h3
  refine va_iald X.1 X.2.1 X.2.2.2.2.2.1.1 h1 i 0 (f := mi i) (n := m) (cA := o.2.2 0) (by rw [cells_at o mi ml hi, hc]; rfl) rfl (vp_in_nI hj hm) d ?_
  rw [nI_clamp (Nat.lt_trans hj hm), hv]
  exact k H locs ls h1 h2 h3
theorem r_zald (X : Cx γ l o own cc n r fr lo P) {i m j : Nat} {v : Int32} (hi : i < 111) (hc : ∀ f g, cE o f g i = aZ o m f) (hm : m < 2 ^ 31) (hj : j < m) (hv : mi i j = v) (d : decode cc pc = .ok (.baload, 1)) (k : V γ o n mi ml (pc + 1) lv (.int v :: rest)) : V γ o n mi ml pc lv (.int (nI j) :: .ref (ads o i) :: rest) := by
  intro H locs ls h1 h2 h3
  refine va_zald X.1 X.2.1 X.2.2.2.2.2.1.1 h1 i 2 (f := mi i) (n := m) (cA := o.2.2 2) (by rw [cells_at o mi ml hi, hc]; rfl) rfl (vp_in_nI hj hm) d ?_
  rw [nI_clamp (Nat.lt_trans hj hm), hv]
  exact k H locs ls h1 h2 h3
theorem r_lald (X : Cx γ l o own cc n r fr lo P) {i m j : Nat} {v : Int64} (hi : i < 111) (hc : ∀ f g, cE o f g i = aJ o m g) (hm : m < 2 ^ 31) (hj : j < m) (hv : ml i j = v) (d : decode cc pc = .ok (.laload, 1)) (k : V γ o n mi ml (pc + 1) lv (.long v :: rest)) : V γ o n mi ml pc lv (.int (nI j) :: .ref (ads o i) :: rest) := by
  intro H locs ls h1 h2 h3
  refine va_lald X.1 X.2.1 X.2.2.2.2.2.1.1 h1 i 1 (f := ml i) (n := m) (cA := o.2.2 1) (by rw [cells_at o mi ml hi, hc]; rfl) rfl (vp_in_nI hj hm) d ?_
  rw [nI_clamp (Nat.lt_trans hj hm), hv]
  exact k H locs ls h1 h2 h3
theorem r_aaldS (X : Cx γ l o own cc n r fr lo P) {i m j a : Nat} {F : Nat → Option Nat} (hi : i < 111) (hc : ∀ f g, cE o f g i = aSt o m F) (hm : m < 2 ^ 31) (hj : j < m) (hv : F j = some a) (d : decode cc pc = .ok (.aaload, 1)) (k : V γ o n mi ml (pc + 1) lv (.ref a :: rest)) : V γ o n mi ml pc lv (.int (nI j) :: .ref (ads o i) :: rest) := by
  intro H locs ls h1 h2 h3
  refine va_aldq X.1 X.2.1 X.2.2.2.2.2.1.1 h1 i 4 (f := F) (n := m) (cA := o.2.2 4) (C := "NearMarks$State") (by rw [cells_at o mi ml hi, hc]; rfl) rfl (vp_in_nI hj hm) d ?_
  rw [nI_clamp (Nat.lt_trans hj hm), hv]
  exact k H locs ls h1 h2 h3
theorem r_aaldI (X : Cx γ l o own cc n r fr lo P) {i m j a : Nat} {F : Nat → Option Nat} (hi : i < 111) (hc : ∀ f g, cE o f g i = aIm o m F) (hm : m < 2 ^ 31) (hj : j < m) (hv : F j = some a) (d : decode cc pc = .ok (.aaload, 1)) (k : V γ o n mi ml (pc + 1) lv (.ref a :: rest)) : V γ o n mi ml pc lv (.int (nI j) :: .ref (ads o i) :: rest) := by
  intro H locs ls h1 h2 h3
  refine va_aldq X.1 X.2.1 X.2.2.2.2.2.1.1 h1 i 3 (f := F) (n := m) (cA := o.2.2 3) (C := "NearMarks$Image") (by rw [cells_at o mi ml hi, hc]; rfl) rfl (vp_in_nI hj hm) d ?_
  rw [nI_clamp (Nat.lt_trans hj hm), hv]
  exact k H locs ls h1 h2 h3
theorem r_iast (X : Cx γ l o own cc n r fr lo P) {i m j : Nat} {x : Int32} (hi : i < 111) (hc : ∀ f g, cE o f g i = aI o m f) (hm : m < 2 ^ 31) (hj : j < m) (d : decode cc pc = .ok (.iastore, 1)) (k : V γ o n (u2 mi i j x) ml (pc + 1) lv rest) : V γ o n mi ml pc lv (.int x :: .int (nI j) :: .ref (ads o i) :: rest) := by
  intro H locs ls h1 h2 h3
  refine va_iast X.1 X.2.1 X.2.2.2.2.2.1.1 h1 (cells_D o mi ml) h2 i 0 (f := mi i) (n := m) (cA := o.2.2 0) (by rw [cells_at o mi ml hi, hc]; rfl) rfl (vp_in_nI hj hm) d (fun H1 locs1 g1 g2 g3 => ?_)
  rw [nI_clamp (Nat.lt_trans hj hm), cells_set o (mi' := u2 mi i j x) (ml' := ml) hi (fun q hq => ⟨u2_n mi j x hq, rfl⟩) (by rw [hc, u2_s]; rfl)] at g1
  exact k H1 locs1 ls g1 g3 h3
theorem r_zast (X : Cx γ l o own cc n r fr lo P) {i m j : Nat} {x : Int32} (hx : vp_nar .boolean x = x) (hi : i < 111) (hc : ∀ f g, cE o f g i = aZ o m f) (hm : m < 2 ^ 31) (hj : j < m) (d : decode cc pc = .ok (.bastore, 1)) (k : V γ o n (u2 mi i j x) ml (pc + 1) lv rest) : V γ o n mi ml pc lv (.int x :: .int (nI j) :: .ref (ads o i) :: rest) := by
  intro H locs ls h1 h2 h3
  refine va_zast X.1 X.2.1 X.2.2.2.2.2.1.1 h1 (cells_D o mi ml) h2 i 2 (f := mi i) (n := m) (cA := o.2.2 2) (by rw [cells_at o mi ml hi, hc]; rfl) rfl (vp_in_nI hj hm) d (fun H1 locs1 g1 g2 g3 => ?_)
  rw [nI_clamp (Nat.lt_trans hj hm), hx, cells_set o (mi' := u2 mi i j x) (ml' := ml) hi (fun q hq => ⟨u2_n mi j x hq, rfl⟩) (by rw [hc, u2_s]; rfl)] at g1
  exact k H1 locs1 ls g1 g3 h3
theorem r_last (X : Cx γ l o own cc n r fr lo P) {i m j : Nat} {x : Int64} (hi : i < 111) (hc : ∀ f g, cE o f g i = aJ o m g) (hm : m < 2 ^ 31) (hj : j < m) (d : decode cc pc = .ok (.lastore, 1)) (k : V γ o n mi (u2 ml i j x) (pc + 1) lv rest) : V γ o n mi ml pc lv (.long x :: .int (nI j) :: .ref (ads o i) :: rest) := by
  intro H locs ls h1 h2 h3
  refine va_last X.1 X.2.1 X.2.2.2.2.2.1.1 h1 (cells_D o mi ml) h2 i 1 (f := ml i) (n := m) (cA := o.2.2 1) (by rw [cells_at o mi ml hi, hc]; rfl) rfl (vp_in_nI hj hm) d (fun H1 locs1 g1 g2 g3 => ?_)
  rw [nI_clamp (Nat.lt_trans hj hm), cells_set o (mi' := mi) (ml' := u2 ml i j x) hi (fun q hq => ⟨rfl, u2_n ml j x hq⟩) (by rw [hc, u2_s]; rfl)] at g1
  exact k H1 locs1 ls g1 g3 h3
/-- switches -/
theorem r_tswIn (X : Cx γ l o own cc n r fr lo P) {dflt lo0 hi0 : Int} {offs : Array Int} {len : Nat} {x : Int32} {off : Int} {tgt : Nat} (d : decode cc pc = .ok (.tableswitch dflt lo0 hi0 offs, len)) (a1 : ¬ x.toInt < lo0) (a2 : ¬ hi0 < x.toInt) (ho : offs[(x.toInt - lo0).toNat]? = some off) (ht : (pc : Int) + off = (tgt : Int)) (k : V γ o n mi ml tgt lv rest) : V γ o n mi ml pc lv (.int x :: rest) := fun H locs ls h1 h2 h3 => lv_tableIn X.1 X.2.1 d a1 a2 ho ht (k H locs ls h1 h2 h3)
theorem r_tswOut (X : Cx γ l o own cc n r fr lo P) {dflt lo0 hi0 : Int} {offs : Array Int} {len : Nat} {x : Int32} {tgt : Nat} (d : decode cc pc = .ok (.tableswitch dflt lo0 hi0 offs, len)) (h : x.toInt < lo0 ∨ hi0 < x.toInt) (ht : (pc : Int) + dflt = (tgt : Int)) (k : V γ o n mi ml tgt lv rest) : V γ o n mi ml pc lv (.int x :: rest) := fun H locs ls h1 h2 h3 => lv_tableOut X.1 X.2.1 d h ht (k H locs ls h1 h2 h3)
/-- calls -/
theorem Pof.blind {A : List Value} : FrameBlind (Pof o A mi ml) := fun a U g mk q => by
  obtain ⟨q0, q1, q2⟩ := q
  exact ⟨q0, q1, Kp.warm (s := U) (U := U.calling g mk a) (State.WarmedH.refl U) q2⟩
theorem V.run {P' : Option Value → MI → ML → Prop} {a : Array Value} (hr : ∀ (H : Heap) (locs : List Loc) (ls : Array Slot), Wp o mi ml H → va_S (isA o) γ.s.heap H locs → lv_has ls n lv → va_Run γ.p γ.l γ.e γ.R γ.s γ.m γ.a γ.b γ.me γ.c H locs 0 0 0 0 (F0 γ.m pc ls st) rest (Qof o P' a) (isA o))
    (kk : ∀ (v : Option Value) (mi' : MI) (ml' : ML), P' v mi' ml' → V γ o n mi' ml' (pc + 3) lv (v.toList ++ rest)) : V γ o n mi ml pc lv st := by
  intro H locs ls h1 h2 h3 T hT Z
  obtain ⟨v, st₀, t, T', L, h0, Z', hL, e1, e2, ⟨⟨v', mi', ml', hv, hp, hw⟩, hz, hk⟩, sg⟩ := hr H locs ls h1 h2 h3 T hT Z
  cases hv
  rw [h0] at hz hk
  obtain ⟨t2, a1, b1⟩ := kk v mi' ml' hp T'.heap (locs ++ L) ls (by rw [e1]; exact hw)
    ⟨Nat.le_trans h2.1 (by rw [e1]; exact hz), fun q g1 g2 => by rw [e1, hk q (Nat.lt_of_lt_of_le g1 h2.1) g2]; exact h2.2.1 q g1 g2, fun q hq => by
      rcases List.mem_append.mp hq with h | h
      · exact h2.2.2 q h
      · exact hL q h⟩ h3 T' rfl Z'
  exact ⟨t2, sg t2 a1, b1⟩
def SOK (y : MethodName) (cc : ByteArray) (n : Nat) (r : Option FieldType) (k : Nat) : Prop := Cond.static y ∈ gtbl ∧ Cond.initialized y.cls ∈ gtbl ∧ Cond.code y cc n r ∈ gtbl ∧ (y.cls ≠ "java/lang/invoke/MethodHandle" ∧ y.cls ≠ "java/lang/invoke/VarHandle" ∧ (parseMethodDescriptor y.desc).map (fun d => d.parameters.length) = some k)
def VOK (y : MethodName) (cc : ByteArray) (n : Nat) (r : Option FieldType) (k : Nat) : Prop := Cond.instanceMethod y ∈ gtbl ∧ Cond.selects y.cls y y ∈ gtbl ∧ Cond.initialized y.cls ∈ gtbl ∧ Cond.code y cc n r ∈ gtbl ∧ (y.cls ≠ "java/lang/invoke/MethodHandle" ∧ y.cls ≠ "java/lang/invoke/VarHandle" ∧ (parseMethodDescriptor y.desc).map (fun d => d.parameters.length) = some k)
theorem r_callS (X : Cx γ l o own cc n r fr lo P) {y : MethodName} {cc' : ByteArray} {n' : Nat} {r' : Option FieldType} {fr' lo' k ix : Nat} {As : List Value} {P' : Option Value → MI → ML → Prop} (hC : Con l y cc' n' r' fr' lo' o As mi ml P') (Y : SOK y cc' n' r' k) (w : Cond.methodLink own ix y ∈ gtbl) (hk : As.length = k) (hR : fr' + 1 ≤ fr ∧ 8 + (n' + 11) + lo' ≤ lo) (hst : st = As.reverse ++ rest) (hW : (rest.map fun v => v.category).sum ≤ 8) (d : decode cc pc = .ok (.invokestatic ix, 3))
    (kk : ∀ (v : Option Value) (mi' : MI) (ml' : ML), P' v mi' ml' → V γ o n mi' ml' (pc + 3) lv (v.toList ++ rest)) : V γ o n mi ml pc lv st := by
  obtain ⟨x1, x2, x3, x4, x5, x6, x7, x8, x9, x10, x11, x12⟩ := X
  subst x9; subst x10; subst x11
  obtain ⟨y1, y2, y3, y4⟩ := Y
  refine V.run (fun H locs ls h1 h2 h3 => va_runS (As := As) (g := F0 γ.m pc ls st) ⟨x1, x2, x3, x4, x5⟩ hC (va_cwS k x5 ?_ rfl rfl rfl y4 hR) ⟨Pof.blind, fun U hU hWu => ⟨rfl, by rw [hU]; exact h1, x6.warm hWu⟩⟩ rfl hk h3.1 hst (lv_room hW) d ⟨Nat.zero_le _, Nat.zero_le _⟩) kk
  intro w' hw'
  rcases List.mem_append.mp hw' with h | h
  · have h' : w' = .methodLink own ix y ∨ w' = .static y ∨ w' = .initialized y.cls := by simpa using h
    rcases h' with rfl | rfl | rfl
    · exact gtbl_good _ w
    · exact gtbl_good _ y1
    · exact gtbl_good _ y2
  · exact wsY_good y3 _ h
theorem r_callN (X : Cx γ l o own cc n r fr lo P) {y : MethodName} {cc' : ByteArray} {n' : Nat} {r' : Option FieldType} {fr' lo' k ix : Nat} {host : String} {As : List Value} {P' : Option Value → MI → ML → Prop} (hC : Con l y cc' n' r' fr' lo' o As mi ml P') (Y : SOK y cc' n' r' k) (w : (own, ix, y, host) ∈ nst) (hk : As.length = k) (hR : fr' + 1 ≤ fr ∧ 8 + (n' + 11) + lo' ≤ lo) (hst : st = As.reverse ++ rest) (hW : (rest.map fun v => v.category).sum ≤ 8) (d : decode cc pc = .ok (.invokestatic ix, 3))
    (kk : ∀ (v : Option Value) (mi' : MI) (ml' : ML), P' v mi' ml' → V γ o n mi' ml' (pc + 3) lv (v.toList ++ rest)) : V γ o n mi ml pc lv st := by
  obtain ⟨x1, x2, x3, x4, x5, x6, x7, x8, x9, x10, x11, x12⟩ := X
  subst x9; subst x10; subst x11
  obtain ⟨y1, y2, y3, y4⟩ := Y
  exact V.run (fun H locs ls h1 h2 h3 => va_runSN (As := As) (g := F0 γ.m pc ls st) (host := host) ⟨x1, x2, x3, x4, x5⟩ hC ⟨va_cnB k x5 (wsY_good y3) rfl rfl rfl (x6.2 _ w) (x5 _ y2) y4 hR, x5 _ y1, trivial⟩ ⟨Pof.blind, fun U hU hWu => ⟨rfl, by rw [hU]; exact h1, x6.warm hWu⟩⟩ rfl hk h3.1 hst (lv_room hW) d ⟨Nat.zero_le _, Nat.zero_le _⟩) kk
theorem r_callV (X : Cx γ l o own cc n r fr lo P) {y : MethodName} {cc' : ByteArray} {n' : Nat} {r' : Option FieldType} {fr' lo' k ix i ci : Nat} {F : (Nat → Int32) → (Nat → Int64) → List Value} {T : u_T} {N : Nat} {As : List Value} {P' : Option Value → MI → ML → Prop} (hC : Con l y cc' n' r' fr' lo' o (.ref (ads o i) :: As) mi ml P') (Y : VOK y cc' n' r' k) (w : Cond.methodLink own ix y ∈ gtbl) (hk : As.length = k) (hi : i < 111) (hc : ∀ f g, cE o f g i = .inr (ci, F f g)) (hcl : vcl[ci]? = some (y.cls, T, N)) (hR : fr' + 1 ≤ fr ∧ 8 + (n' + 11) + lo' ≤ lo) (hst : st = As.reverse ++ .ref (ads o i) :: rest) (hW : (rest.map fun v => v.category).sum ≤ 8) (d : decode cc pc = .ok (.invokevirtual ix, 3))
    (kk : ∀ (v : Option Value) (mi' : MI) (ml' : ML), P' v mi' ml' → V γ o n mi' ml' (pc + 3) lv (v.toList ++ rest)) : V γ o n mi ml pc lv st := by
  obtain ⟨x1, x2, x3, x4, x5, x6, x7, x8, x9, x10, x11, x12⟩ := X
  subst x9; subst x10; subst x11
  obtain ⟨y1, y2, y3, y4, y5⟩ := Y
  refine V.run (fun H locs ls h1 h2 h3 => va_runV (C := y.cls) (As := As) (g := F0 γ.m pc ls st) ⟨x1, x2, x3, x4, x5⟩ hC (cwV k x5 ?_ rfl rfl rfl ⟨rfl, y5⟩ hR) ⟨Pof.blind, va_recv x6.1 h1 (q0 := i) hcl (by rw [cells_at o mi ml hi, hc]), fun U hU hWu => ⟨rfl, by rw [hU]; exact h1, x6.warm hWu⟩⟩ rfl hk h3.1 hst (lv_room hW) d ⟨Nat.zero_le _, Nat.zero_le _⟩) kk
  intro w' hw'
  rcases List.mem_append.mp hw' with h | h
  · have h' : w' = .methodLink own ix y ∨ w' = .instanceMethod y ∨ w' = .selects y.cls y y ∨ w' = .initialized y.cls := by simpa using h
    rcases h' with rfl | rfl | rfl | rfl
    · exact gtbl_good _ w
    · exact gtbl_good _ y1
    · exact gtbl_good _ y2
    · exact gtbl_good _ y3
  · exact wsY_good y4 _ h
/-- answers without a change: I int, L long, D any answer and new maps -/
def ConD (l : Launch) (y : MethodName) (cc : ByteArray) (n : Nat) (r : Option FieldType) (fr lo : Nat) (o : OM) (A : List Value) (mi : MI) (ml : ML) (v : Option Value) (mi' : MI) (ml' : ML) : Prop := Con l y cc n r fr lo o A mi ml (fun v0 a b => v0 = v ∧ a = mi' ∧ b = ml')
theorem kD {mi' : MI} {ml' : ML} {v : Option Value} {st' : List Value} (h : v.toList ++ rest = st') (k : V γ o n mi' ml' (pc + 3) lv st') : ∀ (v0 : Option Value) (a : MI) (b : ML), v0 = v ∧ a = mi' ∧ b = ml' → V γ o n a b (pc + 3) lv (v0.toList ++ rest) := by
  rintro _ _ _ ⟨rfl, rfl, rfl⟩
  rw [h]; exact k
end ROWS2
