/-! pure facts: bits of longs, counts -/
theorem bI_add (a : Nat) (b : Bool) : nI a + bI b = nI (a + b.toNat) := by cases b <;> simp [bI, nI, Int32.ofNat_add]
theorem pk_dec {a : Nat} (h : 0 < a) : nI a + Int32.ofInt (-1) = nI (a - 1) := by
  rw [show Int32.ofInt (-1) = (-1 : Int32) from by decide]; exact sb_m1 h
theorem bI_sub {a : Nat} {b : Bool} (h : b.toNat ≤ a) : nI a - bI b = nI (a - b.toNat) := by
  cases b
  · simp [bI]
  · exact pk_sub h
theorem bI_inj (a b : Bool) : bI a = bI b ↔ a = b := by cases a <;> cases b <;> decide
theorem bI_nI (b : Bool) : bI b = nI b.toNat := by cases b <;> rfl
section ROWS3
variable {γ : GT} {l : Launch} {o : OM} {own : String} {cc : ByteArray} {n : Nat} {r : Option FieldType} {fr lo : Nat} {P : Option Value → MI → ML → Prop}
variable {mi : MI} {ml : ML} {pc : Nat} {lv : List (Nat × Value)} {st rest : List Value}
theorem r_ifeqQ (X : Cx γ l o own cc n r fr lo P) {x : Int32} {b : Bool} {off : Int} {tgt : Nat} (d : decode cc pc = .ok (.ifCond .eq off, 3)) (ht : (pc : Int) + off = (tgt : Int)) (hc : x = 0 ↔ b = true) (kt : b = true → V γ o n mi ml tgt lv rest) (kf : b = false → V γ o n mi ml (pc + 3) lv rest) : V γ o n mi ml pc lv (.int x :: rest) := r_ifeq X d ht hc kt (fun q => kf (by simpa using q))
theorem r_ifneQ (X : Cx γ l o own cc n r fr lo P) {x : Int32} {b : Bool} {off : Int} {tgt : Nat} (d : decode cc pc = .ok (.ifCond .ne off, 3)) (ht : (pc : Int) + off = (tgt : Int)) (hc : x = 0 ↔ b = true) (kt : b = false → V γ o n mi ml tgt lv rest) (kf : b = true → V γ o n mi ml (pc + 3) lv rest) : V γ o n mi ml pc lv (.int x :: rest) := r_ifne X d ht (not_congr hc) (fun q => kt (by simpa using q)) (fun q => kf (by simpa using q))
theorem r_icneP (X : Cx γ l o own cc n r fr lo P) {x y : Int32} {c : Prop} {off : Int} {tgt : Nat} (d : decode cc pc = .ok (.if_icmp .ne off, 3)) (ht : (pc : Int) + off = (tgt : Int)) (hc : (x = y) ↔ c) (kt : ¬ c → V γ o n mi ml tgt lv rest) (kf : c → V γ o n mi ml (pc + 3) lv rest) : V γ o n mi ml pc lv (.int y :: .int x :: rest) := r_icne X d ht (not_congr hc) kt (fun q => kf (Classical.not_not.mp q))
theorem r_ifneP (X : Cx γ l o own cc n r fr lo P) {x : Int32} {c : Prop} {off : Int} {tgt : Nat} (d : decode cc pc = .ok (.ifCond .ne off, 3)) (ht : (pc : Int) + off = (tgt : Int)) (hc : (x = 0) ↔ c) (kt : ¬ c → V γ o n mi ml tgt lv rest) (kf : c → V γ o n mi ml (pc + 3) lv rest) : V γ o n mi ml pc lv (.int x :: rest) := r_ifne X d ht (not_congr hc) kt (fun q => kf (Classical.not_not.mp q))
end ROWS3
def bt (x : Int64) (i : Nat) : Bool := x.toBitVec.getLsbD i
theorem bt_ext {x y : Int64} (h : ∀ i, i < 64 → bt x i = bt y i) : x = y := Int64.toBitVec_inj.mp (BitVec.eq_of_getLsbD_eq (fun i hi => h i hi))
theorem bt_or (x y : Int64) (i : Nat) : bt (x ||| y) i = (bt x i || bt y i) := by unfold bt; rw [Int64.toBitVec_or, BitVec.getLsbD_or]
theorem bt_and (x y : Int64) (i : Nat) : bt (x &&& y) i = (bt x i && bt y i) := by unfold bt; rw [Int64.toBitVec_and, BitVec.getLsbD_and]
theorem bt_xor (x y : Int64) (i : Nat) : bt (x ^^^ y) i = (bt x i ^^ bt y i) := by unfold bt; rw [Int64.toBitVec_xor, BitVec.getLsbD_xor]
theorem bt_big {x : Int64} {i : Nat} (h : 64 ≤ i) : bt x i = false := BitVec.getLsbD_of_ge _ _ h
theorem bt_0 (i : Nat) : bt 0 i = false := BitVec.getLsbD_zero
theorem bt_1 (i : Nat) : bt 1 i = decide (i = 0) := by
  rcases Nat.lt_or_ge i 64 with h | h
  · exact (by decide +kernel : ∀ i, i < 64 → bt 1 i = decide (i = 0)) i h
  · rw [bt_big h, decide_eq_false (by omega)]
theorem s_l64 : ∀ n, n < 64 → (((nI n).toInt64 &&& 63).toBitVec.smod 64).toNat = n := by decide +kernel
theorem s_u64 : ∀ n, n < 64 → (((nI n).toInt64.toUInt64 &&& Int64.toUInt64 63).toBitVec % 64).toNat = n := by decide +kernel
theorem bt_shl (x : Int64) {k i : Nat} (hk : k < 64) (hi : i < 64) : bt (shl x k) i = (decide (k ≤ i) && bt x (i - k)) := by
  unfold bt shl
  rw [Int64.toBitVec_shiftLeft]
  show (x.toBitVec <<< (((nI k).toInt64 &&& 63).toBitVec.smod 64).toNat).getLsbD i = _
  rw [s_l64 k hk, BitVec.getLsbD_shiftLeft]
  rcases Nat.lt_or_ge i k with h | h
  · simp [h, Nat.not_le.mpr h]
  · simp [hi, h, Nat.not_lt.mpr h]
theorem bt_ushr (x : Int64) {k : Nat} (hk : k < 64) (i : Nat) : bt (ushr x k) i = bt x (k + i) := by
  show (x.toUInt64 >>> ((nI k).toInt64.toUInt64 &&& Int64.toUInt64 63)).toBitVec.getLsbD i = x.toUInt64.toBitVec.getLsbD (k + i)
  rw [UInt64.toBitVec_shiftRight]
  show (x.toUInt64.toBitVec >>> (((nI k).toInt64.toUInt64 &&& Int64.toUInt64 63).toBitVec % 64).toNat).getLsbD i = _
  rw [s_u64 k hk, BitVec.getLsbD_ushiftRight]
theorem bt_shr (x : Int64) {k i : Nat} (hk : k < 64) (hi : i < 64) : bt (shr x k) i = if k + i < 64 then bt x (k + i) else bt x 63 := by
  unfold bt shr
  rw [Int64.toBitVec_shiftRight]
  show (x.toBitVec.sshiftRight (((nI k).toInt64 &&& 63).toBitVec.smod 64).toNat).getLsbD i = _
  rw [s_l64 k hk, BitVec.getLsbD_sshiftRight, BitVec.msb_eq_getLsbD_last]
  simp [hi]
theorem and1_eq1 (y : Int64) : y &&& 1 = 1 ↔ bt y 0 = true := by
  constructor
  · intro h
    have e := congrArg (fun z => bt z 0) h
    simp only [bt_and, bt_1] at e
    simpa using e
  · intro h
    apply bt_ext
    intro i hi
    rw [bt_and, bt_1]
    by_cases e : i = 0
    · subst e; simp [h]
    · simp [e]
theorem and1_eq0 (y : Int64) : y &&& 1 = 0 ↔ bt y 0 = false := by
  constructor
  · intro h
    have e := congrArg (fun z => bt z 0) h
    simp only [bt_and, bt_1, bt_0] at e
    simpa using e
  · intro h
    apply bt_ext
    intro i hi
    rw [bt_and, bt_1, bt_0]
    by_cases e : i = 0
    · subst e; simp [h]
    · simp [e]
theorem has_shr (x : Int64) {k : Nat} (hk : k < 64) : (shr x k) &&& 1 = 1 ↔ bt x k = true := by
  rw [and1_eq1, bt_shr x hk (by omega)]; simp [hk]
theorem has_ushr (x : Int64) {k : Nat} (hk : k < 64) : (ushr x k) &&& 1 = 0 ↔ bt x k = false := by
  rw [and1_eq0, bt_ushr x hk]; simp
/-- how many of the first n are so -/
def ct (p : Nat → Bool) : Nat → Nat
  | 0 => 0
  | n + 1 => ct p n + (p n).toNat
theorem ct_le (p : Nat → Bool) : ∀ n, ct p n ≤ n
  | 0 => Nat.le_refl 0
  | n + 1 => by
    have h := ct_le p n
    have h2 : (p n).toNat ≤ 1 := Bool.toNat_le _
    show ct p n + (p n).toNat ≤ n + 1
    omega
theorem ct_cong {p q : Nat → Bool} : ∀ {n : Nat}, (∀ k, k < n → p k = q k) → ct p n = ct q n
  | 0, _ => rfl
  | n + 1, h => by
    show ct p n + (p n).toNat = ct q n + (q n).toNat
    rw [ct_cong (fun k hk => h k (by omega)), h n (by omega)]
def pop (x : Int64) : Nat := ct (bt x) 64
theorem pop_le (x : Int64) : pop x ≤ 64 := ct_le _ _
theorem pop_lt (x : Int64) : pop x < 2 ^ 31 := by have := pop_le x; omega
/-- the last of the first n that is so, NONE else -/
def lastB (p : Nat → Bool) : Nat → Int32
  | 0 => -1
  | k + 1 => if p k then nI k else lastB p k
/-- all of the first n are so -/
def alB (p : Nat → Bool) : Nat → Bool
  | 0 => true
  | k + 1 => alB p k && p k
theorem alB_iff {p : Nat → Bool} : ∀ {n : Nat}, alB p n = true ↔ ∀ k, k < n → p k = true
  | 0 => by simp [alB]
  | n + 1 => by
    simp only [alB, Bool.and_eq_true, alB_iff (p := p) (n := n)]
    constructor
    · intro h k hk
      rcases Nat.lt_or_ge k n with h2 | h2
      · exact h.1 k h2
      · rw [show k = n by omega]; exact h.2
    · intro h
      exact ⟨fun k hk => h k (by omega), h n (by omega)⟩
theorem alB_no {p : Nat → Bool} {i n : Nat} (h : alB p i = false) (hi : i ≤ n) : alB p n = false := by
  rcases hb : alB p n with _ | _
  · rfl
  · have := alB_iff.mpr (fun k hk => alB_iff.mp hb k (Nat.lt_of_lt_of_le hk hi))
    rw [h] at this; cases this
def ds (x y : Int64) : Nat := pop (x ^^^ y)
theorem ds_le (x y : Int64) : ds x y ≤ 64 := pop_le _
theorem ds_lt (x y : Int64) : ds x y < 2 ^ 31 := pop_lt _
/-- a part alike by a cut, as it is gone through bit by bit -/
def lkS (u c : Int64) : Nat → Bool × Bool
  | 0 => (false, false)
  | b + 1 => ((lkS u c b).1 || (decide (0 < b) && bt c b && (lkS u c b).2), (bt c b || (lkS u c b).2) && !bt u b)
def lk (x y c : Int64) : Bool := (lkS (x ^^^ y) c 64).1 || (lkS (x ^^^ y) c 64).2
def oM (ml : ML) (k : Nat) : Int64 := ml 96 (3 + k)
/-- ahead: how many of n stand nearer than k, by f -/
def ahd (f : Nat → Nat) (n k : Nat) : Nat := ct (fun j => decide (f j < f k) || (decide (f j = f k) && !decide (k ≤ j))) n
theorem alB_d {p : Nat → Bool} (h : p 0 = true) : ∀ n, alB p (n - 1 + 1) = alB p n
  | 0 => by simp [alB, h]
  | _ + 1 => rfl
/-- the first from i on, of d, that is so; NONE else -/
def fromB (p : Nat → Bool) : Nat → Nat → Int32
  | 0, _ => -1
  | d + 1, i => if p i then nI i else fromB p d (i + 1)
/-- the same with a value of its own, and another for none -/
def fromC (p : Nat → Bool) (v : Nat → Int32) (e : Int32) : Nat → Nat → Int32
  | 0, _ => e
  | d + 1, i => if p i then v i else fromC p v e d (i + 1)
theorem fromC_no {p : Nat → Bool} {v : Nat → Int32} {e : Int32} (h : ∀ i, p i = false) : ∀ d i, fromC p v e d i = e
  | 0, _ => rfl
  | d + 1, i => by rw [fromC, h i]; exact fromC_no h d (i + 1)
def deadM (M : Nat → Int64) (n b : Nat) : Bool := alB (fun k => decide (bt (M k) b = bt (M 0) b)) n
def togM (M : Nat → Int64) (n a b : Nat) : Bool := alB (fun k => decide (bt (M k) a = bt (M k) b)) n || alB (fun k => !decide (bt (M k) a = bt (M k) b)) n
def togR (p : Nat → Nat → Bool) : Nat → Nat → Int32
  | 0, _ => -1
  | d + 1, a => fromC (p a) (fun b => nI (64 * a + b)) (togR p d (a + 1)) (63 - a) (a + 1)
def pairM (M : Nat → Int64) (n a b : Nat) : Bool := !deadM M n a && (!deadM M n b && togM M n a b)
def cb (x : Int64) (SM : Nat → Int64) (SA : Nat → Int32) (s : Nat) : Bool := alB (fun i => decide (nI (ds x (SM i)) = SA i)) s
/-- going down from n: how many of the upper i; the least of them -/
def ctD (p : Nat → Bool) (n : Nat) : Nat → Nat
  | 0 => 0
  | i + 1 => ctD p n i + (p (n - i - 1)).toNat
def lastD (p : Nat → Bool) (n : Nat) : Nat → Int32
  | 0 => -1
  | i + 1 => if p (n - i - 1) then nI (n - i - 1) else lastD p n i
theorem ctD_le (p : Nat → Bool) (n : Nat) : ∀ i, ctD p n i ≤ i
  | 0 => Nat.le_refl 0
  | i + 1 => by
    have h := ctD_le p n i
    have h2 : (p (n - i - 1)).toNat ≤ 1 := Bool.toNat_le _
    show ctD p n i + (p (n - i - 1)).toNat ≤ i + 1
    omega
theorem dec_eq (x : Int32) : x + Int32.ofInt (-1) = x - nI 1 := by
  rw [Int32.sub_eq_add_neg]; rfl
def isMk (n : Nat) (k : Int32) : Bool := decide (0 ≤ k) && decide (k < nI n)
theorem isMk_eq {n : Nat} (hn : n < 2 ^ 30) (k : Int32) : (!decide (k.toInt64 < 0) && !decide ((nI n - nI 1).toInt64 < k.toInt64)) = isMk n k := by
  have e1 : (k.toInt64 < 0) ↔ ¬ 0 ≤ k := by
    rw [show (0 : Int64) = (0 : Int32).toInt64 from rfl, Int64.lt_iff_toInt_lt, Int32.toInt_toInt64, Int32.toInt_toInt64, Int32.le_iff_toInt_le]; omega
  have e2 : ((nI n - nI 1).toInt64 < k.toInt64) ↔ ¬ k < nI n := by
    rw [Int64.lt_iff_toInt_lt, Int32.toInt_toInt64, Int32.toInt_toInt64, Int32.lt_iff_toInt_lt, pk_sub_toInt (by omega) (by omega), nI_toInt (by omega)]; omega
  unfold isMk
  simp only [e1, e2]
  by_cases a1 : 0 ≤ k <;> by_cases a2 : k < nI n <;> simp [a1, a2]
theorem isMk_nI {n a : Nat} (hn : n < 2 ^ 31) (ha : a < 2 ^ 31) : isMk n (nI a) = decide (a < n) := by
  unfold isMk
  have e1 : 0 ≤ nI a := nI_pos' ha
  have e2 := nI_ltI ha hn
  simp [e1, e2]
theorem isMk_ex {n : Nat} {k : Int32} (hn : n < 2 ^ 31) (h : isMk n k = true) : ∃ j, j < n ∧ k = nI j := by
  unfold isMk at h
  simp only [Bool.and_eq_true, decide_eq_true_eq] at h
  obtain ⟨j, hj, rfl⟩ := nI_of (x := k) (by rw [Int32.lt_iff_toInt_lt]; have := h.1; rw [Int32.le_iff_toInt_le] at this; omega)
  exact ⟨j, (nI_ltI hj hn).mp h.2, rfl⟩
theorem lastB_ex {p : Nat → Bool} : ∀ {n : Nat}, ¬ lastB p n = -1 → ∃ j, j < n ∧ lastB p n = nI j ∧ p j = true
  | 0, h => absurd rfl h
  | n + 1, h => by
    by_cases hp : p n = true
    · exact ⟨n, by omega, by simp [lastB, hp], hp⟩
    · have e : lastB p (n + 1) = lastB p n := by simp [lastB, hp]
      rw [e] at h
      obtain ⟨j, h1, h2, h3⟩ := lastB_ex h
      exact ⟨j, by omega, by rw [e, h2], h3⟩
theorem tsw_lo {x : Int32} (h : x < 0) : x.toInt < 0 := by rw [Int32.lt_iff_toInt_lt] at h; exact h
theorem tsw_hi {x : Int32} {n : Nat} {m : Int} (hm : n < 2 ^ 31 ∧ m + 1 = (n : Int)) (h : nI n ≤ x) : m < x.toInt := by
  rw [Int32.le_iff_toInt_le, nI_toInt hm.1] at h; omega
/-- a number below m, or none -/
def ix (w : Int32) (m : Nat) : Option Nat := if 0 ≤ w ∧ w < nI m then some w.toNatClampNeg else none
def oI (x : Option Nat) (e : Int32) (f : Nat → Int32) : Int32 := match x with
  | none => e
  | some q => f q
def oJ (x : Option Nat) (e : Int64) (f : Nat → Int64) : Int64 := match x with
  | none => e
  | some q => f q
theorem ix_lo {w : Int32} {m : Nat} (h : w < 0) : ix w m = none := by
  unfold ix; rw [if_neg]; rintro ⟨a, -⟩
  rw [Int32.lt_iff_toInt_lt] at h; rw [Int32.le_iff_toInt_le] at a; omega
theorem ix_hi {w : Int32} {m : Nat} (h : nI m ≤ w) : ix w m = none := by
  unfold ix; rw [if_neg]; rintro ⟨-, a⟩
  rw [Int32.lt_iff_toInt_lt] at a; rw [Int32.le_iff_toInt_le] at h; omega
theorem ix_in {j m : Nat} (h : j < m) (hm : m < 2 ^ 31) : ix (nI j) m = some j := by
  unfold ix; rw [if_pos ⟨nI_pos' (by omega), (nI_ltI (by omega) hm).mpr h⟩, nI_clamp (by omega)]
theorem isMk_ix {n : Nat} {k : Int32} : isMk n k = (ix k n).isSome := by
  unfold isMk ix; by_cases h1 : 0 ≤ k <;> by_cases h2 : k < nI n <;> simp [h1, h2]
theorem isMk_none {n : Nat} {k : Int32} (h : isMk n k = false) : ix k n = none := by
  rw [isMk_ix] at h; simpa using h
/-- ASK: how many of the first j have the number t; the greatest part; the best -/
def cn (f : Nat → Nat) (c : Nat → Bool) (t j : Nat) : Nat := ct (fun k => c k && decide (f k = t)) j
def mst (f : Nat → Nat) (c : Nat → Bool) : Nat → Nat
  | 0 => 0
  | j + 1 => if c j then (if decide (cn f c (f j) j + 1 ≤ mst f c j) then mst f c j else cn f c (f j) j + 1) else mst f c j
theorem cn_le (f : Nat → Nat) (c : Nat → Bool) (t j : Nat) : cn f c t j ≤ j := ct_le _ _
theorem mst_le (f : Nat → Nat) (c : Nat → Bool) : ∀ j, mst f c j ≤ j
  | 0 => Nat.le_refl 0
  | j + 1 => by
    have h := mst_le f c j
    have h2 := cn_le f c (f j) j
    unfold mst
    split
    · split <;> omega
    · omega
def askS (g : Nat → Nat) (few : Nat) : Nat → Nat × Int32
  | 0 => (few, -1)
  | m + 1 => (if decide ((askS g few m).1 ≤ g m) then (askS g few m).1 else g m, if decide ((askS g few m).1 ≤ g m) then (askS g few m).2 else nI m)
theorem askS_le (g : Nat → Nat) (few : Nat) : ∀ m, (askS g few m).1 ≤ few
  | 0 => Nat.le_refl _
  | m + 1 => by
    have h := askS_le g few m
    show (if decide ((askS g few m).1 ≤ g m) then (askS g few m).1 else g m) ≤ few
    split
    · exact h
    · rename_i h2; simp at h2; omega
theorem cn_no {f : Nat → Nat} {c : Nat → Bool} {j : Nat} {r : Nat → Int32} (h : c j = false) (hr : ∀ t, t < 65 → r t = nI (cn f c t j)) : ∀ t, t < 65 → r t = nI (cn f c t (j + 1)) := by
  intro t ht
  rw [hr t ht]
  simp [cn, ct, h]
theorem cn_yes {f : Nat → Nat} {c : Nat → Bool} {j d : Nat} {m : MI} (h : c j = true) (hd : f j = d) (hr : ∀ t, t < 65 → m 110 t = nI (cn f c t j)) : ∀ t, t < 65 → u2 m 110 d (nI (cn f c d j + 1)) 110 t = nI (cn f c t (j + 1)) := by
  intro t ht
  rw [u2_s]
  by_cases e : t = d
  · subst e; rw [uf_s]; simp [cn, ct, h, hd]
  · rw [uf_n _ _ e, hr t ht]
    have e2 : ¬ f j = t := fun q => e (by rw [← q, hd])
    simp [cn, ct, e2]
theorem zf_step {m : MI} {i t : Nat} {x : Int32} (h : ∀ q, q < t → m i q = x) : ∀ q, q < t + 1 → u2 m i t x i q = x := by
  intro q hq
  rw [u2_s]
  by_cases e : q = t
  · subst e; rw [uf_s]
  · rw [uf_n _ _ e]; exact h q (by omega)
theorem in_nat {j a m : Nat} (h1 : a ≤ j) (h2 : j ≤ m) (hm : m < 2 ^ 31) : (!decide (lN j < lN a) && !decide (lN m < lN j)) = true := by
  have e1 := lN_lt (a := j) (b := a) (by omega) (by omega)
  have e2 := lN_lt (a := m) (b := j) (by omega) (by omega)
  simp only [e1, e2]
  simp; omega
theorem in_out {x : Int32} {a m : Nat} (ha : a < 2 ^ 31) (hm : m < 2 ^ 31) (h : x < nI a ∨ nI m < x) : (!decide (x.toInt64 < lN a) && !decide (lN m < x.toInt64)) = false := by
  have e1 : (x.toInt64 < lN a) ↔ x < nI a := by
    rw [← nI_l ha, Int64.lt_iff_toInt_lt, Int32.toInt_toInt64, Int32.toInt_toInt64, Int32.lt_iff_toInt_lt]
  have e2 : (lN m < x.toInt64) ↔ nI m < x := by
    rw [← nI_l hm, Int64.lt_iff_toInt_lt, Int32.toInt_toInt64, Int32.toInt_toInt64, Int32.lt_iff_toInt_lt]
  simp only [e1, e2]
  rcases h with h | h <;> simp [h]
theorem ct_mono (p : Nat → Bool) : ∀ {a b : Nat}, a ≤ b → ct p a ≤ ct p b := by
  intro a b h
  induction b with
  | zero => rw [show a = 0 by omega]; exact Nat.le_refl _
  | succ b ih =>
    rcases Nat.lt_or_ge b a with h2 | h2
    · rw [show a = b + 1 by omega]; exact Nat.le_refl _
    · exact Nat.le_trans (ih h2) (Nat.le_add_right _ _)
/-- where the p-th one stands -/
def kf (q : Nat → Bool) (p : Nat) : Nat → Nat → Nat
  | 0, b => b
  | d + 1, b => if q b && decide (ct q b = p) then b else kf q p d (b + 1)
def kthP (q : Nat → Bool) (n p : Nat) : Nat := kf q p n 0
def kth (c : Int64) (p : Nat) : Nat := kthP (bt c) 64 p
theorem kf_spec (q : Nat → Bool) (p : Nat) : ∀ d b, ct q b ≤ p → p < ct q (b + d) → b ≤ kf q p d b ∧ kf q p d b < b + d ∧ q (kf q p d b) = true ∧ ct q (kf q p d b) = p
  | 0, b, h1, h2 => by
    have h2 : p < ct q b := h2
    omega
  | d + 1, b, h1, h2 => by
    unfold kf
    by_cases h : (q b && decide (ct q b = p)) = true
    · rw [if_pos h]
      simp only [Bool.and_eq_true, decide_eq_true_eq] at h
      exact ⟨Nat.le_refl _, by omega, h.1, h.2⟩
    · rw [if_neg h]
      have h3 : ct q (b + 1) ≤ p := by
        show ct q b + (q b).toNat ≤ p
        simp only [Bool.and_eq_true, decide_eq_true_eq] at h
        rcases hb : q b with _ | _
        · simpa using h1
        · have : ct q b ≠ p := fun e => h ⟨hb, e⟩
          simp; omega
      have h4 := kf_spec q p d (b + 1) h3 (by rw [show b + 1 + d = b + (d + 1) by omega]; exact h2)
      exact ⟨by omega, by omega, h4.2.2.1, h4.2.2.2⟩
theorem kthP_spec {q : Nat → Bool} {n p : Nat} (h : p < ct q n) : kthP q n p < n ∧ q (kthP q n p) = true ∧ ct q (kthP q n p) = p := by
  have := kf_spec q p n 0 (Nat.zero_le _) (by rw [Nat.zero_add]; exact h)
  exact ⟨by have := this.2.1; unfold kthP; omega, this.2.2.1, this.2.2.2⟩
theorem kth_spec {c : Int64} {p : Nat} (h : p < pop c) : kth c p < 64 ∧ bt c (kth c p) = true ∧ ct (bt c) (kth c p) = p := kthP_spec h
theorem kth_lt {c : Int64} {p : Nat} (h : p < pop c) : kth c p < 2 ^ 31 := by have := (kth_spec h).1; omega
theorem kth_mono {c : Int64} {p q : Nat} (h : p < q) (hq : q < pop c) : kth c p < kth c q := by
  obtain ⟨a1, a2, a3⟩ := kth_spec (c := c) (p := p) (by omega)
  obtain ⟨b1, b2, b3⟩ := kth_spec hq
  rcases Nat.lt_or_ge (kth c p) (kth c q) with h2 | h2
  · exact h2
  · have := ct_mono (bt c) h2
    omega
def enM (c : Int64) (p : Nat) : Nat := if decide (pop c ≤ p + 1) then 64 else kth c (p + 1)
theorem enM_le (c : Int64) (p : Nat) : enM c p ≤ 64 := by
  unfold enM; split
  · exact Nat.le_refl _
  · rename_i h; simp at h; have := (kth_spec h).1; omega
theorem enM_gt {c : Int64} {p : Nat} (h : p < pop c) : kth c p < enM c p := by
  unfold enM; split
  · exact (kth_spec h).1
  · rename_i h2; simp at h2; exact kth_mono (by omega) h2
def haveM (M : Nat → Int64) (h c : Int64) (p n : Nat) : Nat := ct (fun k => alB (fun t => decide (bt (M k) (kth c p + t) = bt h (kth c p + t))) (enM c p - kth c p)) n
/-- a set of the first n that are so -/
def stB (p : Nat → Bool) : Nat → Int64
  | 0 => 0
  | k + 1 => stB p k ||| (if p k then shl 1 k else 0)
def nearP (K : Int32) (d q c : Nat) : Bool := (!decide (q < d) && (!decide (K = nI 1) && (!decide (K = nI 2) || (decide (c - 1 ≤ q) || !decide (q / 2 < d)))))
/-- groups: near by b; by others; labels -/
def Rb (M : Nat → Int64) (b j k : Nat) : Prop := ds (M j) (M k) ≤ b
def Cn (M : Nat → Int64) (n b j k : Nat) : Prop := ∀ P : Nat → Prop, P j → (∀ a c, a < n → c < n → P a → Rb M b a c → P c) → P k
def Lv1 (M : Nat → Int64) (n b : Nat) (g : Nat → Nat) : Prop := ∀ k, k < n → g k ≤ k ∧ Cn M n b (g k) k
def Stb (M : Nat → Int64) (n b : Nat) (g : Nat → Nat) : Prop := ∀ j k, j < n → k < n → Rb M b j k → g k ≤ g j
def Lab (M : Nat → Int64) (n b : Nat) (g : Nat → Nat) : Prop := Lv1 M n b g ∧ Stb M n b g
theorem Cn.rf {M : Nat → Int64} {n b j : Nat} : Cn M n b j j := fun _ h _ => h
theorem Cn.step {M : Nat → Int64} {n b i j k : Nat} (h : Cn M n b i j) (hj : j < n) (hk : k < n) (hr : Rb M b j k) : Cn M n b i k := fun P h1 h2 => h2 j k hj hk (h P h1 h2) hr
theorem Lv1.set {M : Nat → Int64} {n b u w : Nat} {g : Nat → Nat} (h : Lv1 M n b g) (hu : u < n) (hw : w < n) (hlt : g u < g w) (hr : Rb M b u w) : Lv1 M n b (uf g w (g u)) := by
  intro k hk
  by_cases e : k = w
  · subst e
    rw [uf_s]
    exact ⟨by have := (h k hk).1; omega, (h u hu).2.step hu hk hr⟩
  · rw [uf_n _ _ e]; exact h k hk
def sm (f : Nat → Nat) : Nat → Nat
  | 0 => 0
  | n + 1 => sm f n + f n
theorem sm_out (f : Nat → Nat) (v : Nat) {i : Nat} : ∀ {n : Nat}, n ≤ i → sm (uf f i v) n = sm f n
  | 0, _ => rfl
  | n + 1, h => by
    show sm (uf f i v) n + uf f i v n = sm f n + f n
    rw [sm_out f v (by omega), uf_n _ _ (by omega)]
theorem sm_uf (f : Nat → Nat) (v : Nat) {i : Nat} : ∀ {n : Nat}, i < n → sm (uf f i v) n + f i = sm f n + v
  | 0, h => absurd h (Nat.not_lt_zero i)
  | n + 1, h => by
    show sm (uf f i v) n + uf f i v n + f i = sm f n + f n + v
    by_cases e : i = n
    · subst e; rw [sm_out f v (Nat.le_refl _), uf_s]; omega
    · have := sm_uf f v (i := i) (n := n) (by omega)
      rw [uf_n _ _ (Ne.symm e)]; omega
/-- the greatest, gone through -/
def mxI (h : Nat → Nat) (m : Nat) : Nat → Nat
  | 0 => m
  | k + 1 => if decide (h k ≤ mxI h m k) then mxI h m k else h k
def mxO (f : Nat → Nat → Nat) : Nat → Nat
  | 0 => 0
  | j + 1 => mxI (f j) (mxO f j) j
theorem mxI_le {h : Nat → Nat} {m c : Nat} (hm : m ≤ c) : ∀ {k : Nat}, (∀ i, i < k → h i ≤ c) → mxI h m k ≤ c
  | 0, _ => hm
  | k + 1, hk => by
    unfold mxI; split
    · exact mxI_le hm (fun i hi => hk i (by omega))
    · exact hk k (by omega)
theorem mxO_le {f : Nat → Nat → Nat} {c : Nat} (h : ∀ j k, f j k ≤ c) : ∀ n, mxO f n ≤ c
  | 0 => Nat.zero_le _
  | n + 1 => mxI_le (mxO_le h n) (fun _ _ => h _ _)
theorem id_step {m : MI} {i t : Nat} (h : ∀ k, k < t → m i k = nI k) : ∀ k, k < t + 1 → u2 m i t (nI t) i k = nI k := by
  intro q hq
  rw [u2_s]
  by_cases e : q = t
  · subst e; rw [uf_s]
  · rw [uf_n _ _ e]; exact h q (by omega)
theorem lab_step {m : MI} {i n w x : Nat} {g : Nat → Nat} (h : ∀ k, k < n → m i k = nI (g k)) : ∀ k, k < n → u2 m i w (nI x) i k = nI (uf g w x k) := by
  intro k hk
  rw [u2_s]
  by_cases e : k = w
  · subst e; rw [uf_s, uf_s]
  · rw [uf_n _ _ e, uf_n _ _ e]; exact h k hk
theorem sm_cong {f g : Nat → Nat} (h : ∀ k, f k = g k) (n : Nat) : sm f n = sm g n := by rw [show f = g from funext h]
theorem sm_le {G2 G : Nat → Nat} {on : Bool} {n : Nat} (h1 : on = true → sm G2 n < sm G n) (h2 : on = false → ∀ k, G2 k = G k) : sm G2 n ≤ sm G n := by
  cases on
  · exact Nat.le_of_eq (sm_cong (h2 rfl) n)
  · exact Nat.le_of_lt (h1 rfl)
theorem ite64 (p : Bool) {x : Nat} (h : x ≤ 64) : (if p then 0 else x) ≤ 64 := by cases p <;> simp [h]
def rootsN (G : Nat → Nat) (n : Nat) : Nat := ct (fun k => decide (G k = k)) n
def rootAt (G : Nat → Nat) (n x : Nat) : Nat := kthP (fun k => decide (G k = k)) n x
def grpM (M : Nat → Int64) (n : Nat) (G : Nat → Nat) (x z : Nat) : Int32 := match z with
  | 0 => nI (ct (fun k => decide (G k = rootAt G n x)) n)
  | 1 => nI (rootAt G n x)
  | _ => nI (mxO (fun a c => if (!decide (G a = rootAt G n x) || !decide (G c = rootAt G n x)) then 0 else ds (M a) (M c)) n)
def stN (p : Nat → Bool) : Nat → Int64
  | 0 => 0
  | k + 1 => stN p k ||| (if p k then 0 else shl 1 k)
def midP (M : Nat → Int64) (n : Nat) (G : Nat → Nat) (r b : Nat) : Bool := decide (2 * ct (fun k => decide (G k = r) && bt (M k) b) n ≤ ct (fun k => decide (G k = r)) n)
def lookP (ml : ML) (v : Bool) (k : Nat) : Bool := lk (oM ml k) (ml 96 0) (ml 96 1) && (!v || !decide (ds (oM ml k) (ml 96 0) < pop (ml 96 1)))
def wrongP (mi : MI) (ml : ML) (n : Nat) (B1 B2 : Nat → Nat) (e : Nat) : Bool := !(isMk n (nI (B1 e)) && isMk n (nI (B2 e))) || !decide (nI (ds (oM ml (B1 e)) (oM ml (B2 e))) = mi 108 e)
def nrst (ml : ML) (n : Nat) (w : Int32) : Int32 := lastB (fun k => decide (nI (ahd (fun q => ds (oM ml q) (ml 96 0)) n k) = w)) n
def cbM (mi : MI) (ml : ML) (s k : Nat) : Bool := cb (oM ml k) (ml 104) (mi 105) s
def toldM (mi : MI) (ml : ML) (n s E : Nat) (B1 B2 : Nat → Nat) (q : Nat) : Int32 := match q with
  | 0 => nI n
  | 1 => nI (pop (ml 96 1))
  | 2 => nI (pop (ml 96 0))
  | 3 => lastB (fun k => decide (oM ml k = ml 96 0)) n
  | 4 => nI (ct (lookP ml false) n)
  | 5 => nI (ct (lookP ml true) n)
  | 6 => nrst ml n 0
  | 7 => if nrst ml n 0 = -1 then -1 else nI (ds (oM ml (nrst ml n 0).toNatClampNeg) (ml 96 0))
  | 8 => nI (ct (fun b => deadM (oM ml) n b) 64)
  | 9 => togR (pairM (oM ml) n) 64 0
  | 10 => nI s
  | 11 => nI (ctD (cbM mi ml s) n n)
  | 12 => lastD (cbM mi ml s) n n
  | 13 => (askS (fun z => mst (fun q => ds (oM ml q) (oM ml z)) (cbM mi ml s) n) (ctD (cbM mi ml s) n n) n).2
  | 14 => nI E
  | 15 => fromB (wrongP mi ml n B1 B2) E 0
  | _ => mi 95 2
def markM (mi : MI) (ml : ML) (n k q : Nat) : Int32 := match q with
  | 0 => mi 97 k
  | 1 => nI (pop (oM ml k))
  | 2 => nI (ds (oM ml k) (ml 96 0))
  | 3 => nI (ct (fun j => (!decide (j = k) && !decide (pop (ml 96 1) ≤ ds (oM ml j) (oM ml k)))) n)
  | _ => bI (lk (oM ml k) (ml 96 0) (ml 96 1))
def partM (ml : ML) (n p q : Nat) : Int32 := match q with
  | 0 => nI (kth (ml 96 1) p)
  | 1 => nI (enM (ml 96 1) p - kth (ml 96 1) p)
  | _ => nI (haveM (oM ml) (ml 96 0) (ml 96 1) p n)
/-- cuts into p parts -/
def moreM (p P h : Nat) : Bool := bif decide (2 ≤ h) then (!decide (64 % P ≤ (if decide (p % 2 = 0) then p / 2 else (P + 1) / 2 + p / 2))) else (bif decide (h = 0) then !decide (64 % P ≤ p) else !decide (p < P - 64 % P))
def cutS (P h : Nat) : Nat → Int64 × Nat
  | 0 => (0, 0)
  | p + 1 => ((cutS P h p).1 ||| shl 1 (cutS P h p).2, (cutS P h p).2 + (64 / P + (moreM p P h).toNat))
theorem cutS_le {P h : Nat} : ∀ p, (cutS P h p).2 ≤ p * (64 / P + 1)
  | 0 => by simp [cutS]
  | p + 1 => by
    have h1 := cutS_le (P := P) (h := h) p
    have h2 : (moreM p P h).toNat ≤ 1 := Bool.toNat_le _
    show (cutS P h p).2 + (64 / P + (moreM p P h).toNat) ≤ (p + 1) * (64 / P + 1)
    rw [Nat.succ_mul]; omega
def looksM (M : Nat → Int64) (n : Nat) (c : Int64) : Nat → Nat
  | 0 => 0
  | j + 1 => looksM M n c j + ct (fun k => lk (M j) (M k) c) n
theorem looksM_le (M : Nat → Int64) (n : Nat) (c : Int64) : ∀ j, looksM M n c j ≤ j * n
  | 0 => by simp [looksM]
  | j + 1 => by
    have h1 := looksM_le M n c j
    have h2 := ct_le (fun k => lk (M j) (M k) c) n
    show looksM M n c j + ct (fun k => lk (M j) (M k) c) n ≤ (j + 1) * n
    rw [Nat.succ_mul]; omega
def fewS (f : Nat → Nat) : Nat → Nat × Nat
  | 0 => (0, 0)
  | h + 1 => (if (decide (h = 0) || !decide ((fewS f h).1 ≤ f h)) then f h else (fewS f h).1, if (decide (h ≤ 0) || decide ((fewS f h).1 ≤ f h)) then (fewS f h).2 else h)
theorem fewS_le {f : Nat → Nat} {B : Nat} (h : ∀ i, f i ≤ B) : ∀ i, (fewS f i).1 ≤ B
  | 0 => Nat.zero_le _
  | i + 1 => by
    show (if (decide (i = 0) || !decide ((fewS f i).1 ≤ f i)) then f i else (fewS f i).1) ≤ B
    split
    · exact h i
    · exact fewS_le h i
theorem fewS2_le (f : Nat → Nat) : ∀ i, (fewS f i).2 ≤ i
  | 0 => Nat.zero_le _
  | i + 1 => by
    show (if (decide (i ≤ 0) || decide ((fewS f i).1 ≤ f i)) then (fewS f i).2 else i) ≤ i + 1
    split
    · have := fewS2_le f i; omega
    · omega
theorem looksM_40 (M : Nat → Int64) {n : Nat} (c : Int64) (hn : n ≤ 40) {j : Nat} (hj : j ≤ n) : looksM M n c j ≤ 1600 := by
  have h1 := looksM_le M n c j
  have h2 : j * n ≤ 40 * 40 := Nat.mul_le_mul (by omega) hn
  omega
