/-! Long.bitCount counts the ones -/
theorem land_app (w a b u v : Nat) (hu : u < 2 ^ w) (hv : v < 2 ^ w) : (2 ^ w * a + u) &&& (2 ^ w * b + v) = 2 ^ w * (a &&& b) + (u &&& v) := by
  apply Nat.eq_of_testBit_eq
  intro i
  have huv : u &&& v < 2 ^ w := Nat.lt_of_le_of_lt Nat.and_le_left hu
  rw [Nat.testBit_and, Nat.testBit_two_pow_mul_add a hu, Nat.testBit_two_pow_mul_add b hv, Nat.testBit_two_pow_mul_add _ huv]
  split
  · rw [Nat.testBit_and]
  · rw [Nat.testBit_and]
theorem land256 (a b : Nat) {u v : Nat} (hu : u < 256) (hv : v < 256) : (256 * a + u) &&& (256 * b + v) = 256 * (a &&& b) + (u &&& v) := land_app 8 a b u v hu hv
def mk8 (b : Nat) : Nat → Nat
  | 0 => 0
  | k + 1 => 256 * mk8 b k + b
def q1 (k X : Nat) : Nat := X - (X / 2 &&& mk8 85 k)
def q2 (k Y : Nat) : Nat := (Y &&& mk8 51 k) + (Y / 4 &&& mk8 51 k)
def q3 (k Y : Nat) : Nat := (Y + Y / 16) &&& mk8 15 k
def b1 (u : Nat) : Nat := u - (u / 2 &&& 85)
def b2 (y : Nat) : Nat := (y &&& 51) + (y / 4 &&& 51)
def b3 (y : Nat) : Nat := (y + y / 16) &&& 15
theorem t_b1 : ∀ u, u < 256 → ∀ t, t < 2 → ((128 * t + u / 2) &&& 85) = (u / 2 &&& 85) ∧ (u / 2 &&& 85) ≤ u ∧ b1 u < 256 := by decide +kernel
theorem t_b2 : ∀ u, u < 256 → ∀ t, t < 4 → ((64 * t + b1 u / 4) &&& 51) = (b1 u / 4 &&& 51) ∧ b2 (b1 u) < 256 ∧ b2 (b1 u) % 16 ≤ 4 ∧ b2 (b1 u) ≤ 68 := by decide +kernel
theorem t_b3 : ∀ u, u < 256 → ∀ t, t < 5 → ((b2 (b1 u) + b2 (b1 u) / 16 + 16 * t) &&& 15) = b3 (b2 (b1 u)) ∧ b3 (b2 (b1 u)) ≤ 8 := by decide +kernel
theorem q1_s (k X u : Nat) (hu : u < 256) : q1 (k + 1) (256 * X + u) = 256 * q1 k X + b1 u := by
  unfold q1
  have e : (256 * X + u) / 2 = 256 * (X / 2) + (128 * (X % 2) + u / 2) := by omega
  obtain ⟨h1, h2, h3⟩ := t_b1 u hu (X % 2) (Nat.mod_lt _ (by decide))
  rw [e, mk8, land256 _ _ (by omega) (by decide), h1]
  have h4 : (X / 2 &&& mk8 85 k) ≤ X := Nat.le_trans Nat.and_le_left (Nat.div_le_self _ _)
  unfold b1
  omega
theorem q2_s (k Y u : Nat) (hu : u < 256) : q2 (k + 1) (256 * Y + b1 u) = 256 * q2 k Y + b2 (b1 u) := by
  unfold q2
  have hb := (t_b1 u hu 0 (by decide)).2.2
  have e : (256 * Y + b1 u) / 4 = 256 * (Y / 4) + (64 * (Y % 4) + b1 u / 4) := by omega
  obtain ⟨h1, h2, h3⟩ := t_b2 u hu (Y % 4) (Nat.mod_lt _ (by decide))
  rw [e, mk8, land256 _ _ hb (by decide), land256 _ _ (by omega) (by decide), h1]
  unfold b2
  omega
theorem q2_m {k X u : Nat} (hu : u < 256) : q2 (k + 1) (q1 (k + 1) (256 * X + u)) % 16 ≤ 4 := by
  rw [q1_s k X u hu, q2_s k _ u hu]
  have := (t_b2 u hu 0 (by decide)).2.2.1
  omega
theorem q3_s (k Y u : Nat) (hu : u < 256) (hY : Y % 16 ≤ 4) : q3 (k + 1) (256 * Y + b2 (b1 u)) = 256 * q3 k Y + b3 (b2 (b1 u)) := by
  unfold q3
  obtain ⟨-, h2, -, h5⟩ := t_b2 u hu 0 (by decide)
  have e : 256 * Y + b2 (b1 u) + (256 * Y + b2 (b1 u)) / 16 = 256 * (Y + Y / 16) + (b2 (b1 u) + b2 (b1 u) / 16 + 16 * (Y % 16)) := by omega
  obtain ⟨h1, -⟩ := t_b3 u hu (Y % 16) (by omega)
  rw [e, mk8, land256 _ _ (by omega) (by decide), h1]
def qq (k X : Nat) : Nat := q3 k (q2 k (q1 k X))
theorem qq_s (k X u : Nat) (hu : u < 256) (hX : q2 k (q1 k X) % 16 ≤ 4) : qq (k + 1) (256 * X + u) = 256 * qq k X + b3 (b2 (b1 u)) := by
  unfold qq; rw [q1_s k X u hu, q2_s k _ u hu, q3_s k _ u hu hX]
def p8 (u : Nat) : Nat := b3 (b2 (b1 u))
theorem qm (k X : Nat) : q2 k (q1 k X) % 16 ≤ 4 := by
  cases k with
  | zero => simp [q2, mk8]
  | succ k =>
    have e : X = 256 * (X / 256) + X % 256 := by omega
    rw [e]; exact q2_m (Nat.mod_lt _ (by decide))
theorem qq_r (k X : Nat) : qq (k + 1) X = 256 * qq k (X / 256) + p8 (X % 256) := by
  have e : X = 256 * (X / 256) + X % 256 := by omega
  have h := qq_s k (X / 256) (X % 256) (Nat.mod_lt _ (by decide)) (qm k _)
  rw [← e] at h
  exact h
def byt (X j : Nat) : Nat := X / 256 ^ j % 256
theorem p8_le (u : Nat) (h : u < 256) : p8 u ≤ 8 := (t_b3 u h 0 (by decide)).2
theorem qq_8 (X : Nat) : qq 8 X = p8 (X % 256) + 256 * (p8 (X / 256 % 256) + 256 * (p8 (X / 256 / 256 % 256) + 256 * (p8 (X / 256 / 256 / 256 % 256) + 256 * (p8 (X / 256 / 256 / 256 / 256 % 256) + 256 * (p8 (X / 256 / 256 / 256 / 256 / 256 % 256) + 256 * (p8 (X / 256 / 256 / 256 / 256 / 256 / 256 % 256) + 256 * p8 (X / 256 / 256 / 256 / 256 / 256 / 256 / 256 % 256))))))) := by
  rw [qq_r, qq_r, qq_r, qq_r, qq_r, qq_r, qq_r, qq_r]
  have : qq 0 (X / 256 / 256 / 256 / 256 / 256 / 256 / 256 / 256) = 0 := by simp [qq, q3, mk8]
  omega
theorem dv (a T : Nat) (h : a < 256) : (a + 256 * T) / 256 = T := by omega
theorem fold8 {d0 d1 d2 d3 d4 d5 d6 d7 : Nat} (h0 : d0 ≤ 8) (h1 : d1 ≤ 8) (h2 : d2 ≤ 8) (h3 : d3 ≤ 8) (h4 : d4 ≤ 8) (h5 : d5 ≤ 8) (h6 : d6 ≤ 8) (h7 : d7 ≤ 8) {Y A B C : Nat} (hY : Y = d0 + 256 * (d1 + 256 * (d2 + 256 * (d3 + 256 * (d4 + 256 * (d5 + 256 * (d6 + 256 * (d7)))))))) (hA : A = Y + Y / 256) (hB : B = A + A / 256 / 256) (hC : C = B + B / 256 / 256 / 256 / 256) : C % 128 = d0 + d1 + d2 + d3 + d4 + d5 + d6 + d7 ∧ C < 2 ^ 63 := by
  rw [hY, dv _ _ (by omega)] at hA
  have e1 : A = (d0 + d1) + 256 * ((d1 + d2) + 256 * ((d2 + d3) + 256 * ((d3 + d4) + 256 * ((d4 + d5) + 256 * ((d5 + d6) + 256 * ((d6 + d7) + 256 * ((d7)))))))) := by rw [hA]; simp only [Nat.mul_add]; omega
  clear hA hY
  rw [e1, dv _ _ (by omega), dv _ _ (by omega)] at hB
  have e2 : B = (d0 + d1 + d2 + d3) + 256 * ((d1 + d2 + d3 + d4) + 256 * ((d2 + d3 + d4 + d5) + 256 * ((d3 + d4 + d5 + d6) + 256 * ((d4 + d5 + d6 + d7) + 256 * ((d5 + d6 + d7) + 256 * ((d6 + d7) + 256 * ((d7)))))))) := by rw [hB]; simp only [Nat.mul_add]; omega
  clear hB e1
  rw [e2, dv _ _ (by omega), dv _ _ (by omega), dv _ _ (by omega), dv _ _ (by omega)] at hC
  have e3 : C = (d0 + d1 + d2 + d3 + d4 + d5 + d6 + d7) + 256 * ((d1 + d2 + d3 + d4 + d5 + d6 + d7) + 256 * ((d2 + d3 + d4 + d5 + d6 + d7) + 256 * ((d3 + d4 + d5 + d6 + d7) + 256 * ((d4 + d5 + d6 + d7) + 256 * ((d5 + d6 + d7) + 256 * ((d6 + d7) + 256 * ((d7)))))))) := by rw [hC]; simp only [Nat.mul_add]; omega
  clear hC e2
  constructor
  · rw [e3]
    generalize (d1 + d2 + d3 + d4 + d5 + d6 + d7) + 256 * ((d2 + d3 + d4 + d5 + d6 + d7) + 256 * ((d3 + d4 + d5 + d6 + d7) + 256 * ((d4 + d5 + d6 + d7) + 256 * ((d5 + d6 + d7) + 256 * ((d6 + d7) + 256 * ((d7))))))) = T
    omega
  · rw [e3]
    simp only [Nat.mul_add]
    omega
theorem p8_ct : ∀ u, u < 256 → p8 u = ct (fun i => u.testBit i) 8 := by decide +kernel
theorem ct_add (p : Nat → Bool) (m : Nat) : ∀ n, ct p (m + n) = ct p m + ct (fun i => p (m + i)) n
  | 0 => rfl
  | n + 1 => by
    show ct p (m + n) + (p (m + n)).toNat = ct p m + (ct (fun i => p (m + i)) n + (p (m + n)).toNat)
    rw [ct_add p m n]; omega
theorem ct_byte (X j : Nat) : ct (fun i => X.testBit (8 * j + i)) 8 = p8 (X / 256 ^ j % 256) := by
  rw [p8_ct _ (Nat.mod_lt _ (by decide))]
  apply ct_cong
  intro i hi
  rw [show (256 : Nat) = 2 ^ 8 from rfl, Nat.testBit_mod_two_pow, ← Nat.pow_mul, Nat.testBit_div_two_pow, Nat.add_comm (8 * j) i]
  simp [hi]
theorem bt_tb (x : Int64) (i : Nat) : bt x i = x.toBitVec.toNat.testBit i := rfl
theorem pop_p8 (x : Int64) : pop x = p8 (x.toBitVec.toNat / 256 ^ 0 % 256) + p8 (x.toBitVec.toNat / 256 ^ 1 % 256) + p8 (x.toBitVec.toNat / 256 ^ 2 % 256) + p8 (x.toBitVec.toNat / 256 ^ 3 % 256) + p8 (x.toBitVec.toNat / 256 ^ 4 % 256) + p8 (x.toBitVec.toNat / 256 ^ 5 % 256) + p8 (x.toBitVec.toNat / 256 ^ 6 % 256) + p8 (x.toBitVec.toNat / 256 ^ 7 % 256) := by
  have e : pop x = ct (fun i => x.toBitVec.toNat.testBit i) (8 + (8 + (8 + (8 + (8 + (8 + (8 + 8))))))) := rfl
  rw [e, ct_add _ 8, ct_add _ 8, ct_add _ 8, ct_add _ 8, ct_add _ 8, ct_add _ 8, ct_add _ 8]
  have h : ∀ j, ct (fun i => x.toBitVec.toNat.testBit (8 * j + i)) 8 = p8 (x.toBitVec.toNat / 256 ^ j % 256) := ct_byte _
  have h0 := h 0; have h1 := h 1; have h2 := h 2; have h3 := h 3; have h4 := h 4; have h5 := h 5; have h6 := h 6; have h7 := h 7
  simp only [Nat.mul_zero, Nat.zero_add, Nat.mul_one] at h0 h1
  rw [← h0, ← h1, ← h2, ← h3, ← h4, ← h5, ← h6, ← h7]
  have g : ∀ a b i : Nat, a + (b + i) = (a + b) + i := fun a b i => by omega
  simp only [g]
theorem lN_tb (n : Nat) : (lN n).toBitVec = BitVec.ofNat 64 n := rfl
theorem lN_tn {n : Nat} (h : n < 2 ^ 64) : (lN n).toBitVec.toNat = n := by rw [lN_tb, BitVec.toNat_ofNat, Nat.mod_eq_of_lt h]
theorem lN_of (x : Int64) : lN x.toBitVec.toNat = x := by
  apply Int64.toBitVec_inj.mp
  rw [lN_tb, BitVec.ofNat_toNat, BitVec.setWidth_eq]
theorem lN_land (a b : Nat) : lN a &&& lN b = lN (a &&& b) := by
  apply Int64.toBitVec_inj.1
  show BitVec.ofNat 64 a &&& BitVec.ofNat 64 b = BitVec.ofNat 64 (a &&& b)
  apply BitVec.eq_of_getLsbD_eq
  intro i hi
  simp [hi]
theorem ushr_lN {X k : Nat} (hX : X < 2 ^ 64) (hk : k < 64) : ushr (lN X) k = lN (X / 2 ^ k) := by
  apply bt_ext
  intro i hi
  rw [bt_ushr _ hk, bt_tb, bt_tb, lN_tn hX, lN_tn (Nat.lt_of_le_of_lt (Nat.div_le_self _ _) hX), Nat.testBit_div_two_pow, Nat.add_comm]
theorem nI_127 (a : Nat) : nI a &&& nI 127 = nI (a % 128) := by
  apply Int32.toBitVec_inj.1
  show BitVec.ofNat 32 a &&& BitVec.ofNat 32 127 = BitVec.ofNat 32 (a % 128)
  apply BitVec.eq_of_getLsbD_eq
  intro i hi
  have h1 : (127 : Nat).testBit i = decide (i < 7) := (by decide +kernel : ∀ i, i < 32 → (127 : Nat).testBit i = decide (i < 7)) i hi
  rw [BitVec.getLsbD_and, BitVec.getLsbD_ofNat, BitVec.getLsbD_ofNat, BitVec.getLsbD_ofNat, h1, show (128 : Nat) = 2 ^ 7 from rfl, Nat.testBit_mod_two_pow]
  simp [hi, Bool.and_comm]
theorem q_le (X : Nat) (hX : X < 2 ^ 64) : q1 8 X < 2 ^ 64 ∧ q2 8 (q1 8 X) < 2 ^ 63 ∧ (X / 2 &&& mk8 85 8) ≤ X := by
  refine ⟨Nat.lt_of_le_of_lt (Nat.sub_le _ _) hX, ?_, Nat.le_trans Nat.and_le_left (Nat.div_le_self _ _)⟩
  unfold q2
  have h1 : (q1 8 X &&& mk8 51 8) ≤ mk8 51 8 := Nat.and_le_right
  have h2 : (q1 8 X / 4 &&& mk8 51 8) ≤ mk8 51 8 := Nat.and_le_right
  have h3 : mk8 51 8 = 3689348814741910323 := by decide
  omega
/-- the end of bitCount -/
theorem bc_end {X : Nat} (hX : X < 2 ^ 64) {A B C : Nat} (hA : A = qq 8 X + qq 8 X / 256) (hB : B = A + A / 65536) (hC : C = B + B / 4294967296) : nI (C % 128) = nI (pop (lN X)) := by
  have e := fold8 (B := B) (C := C) (p8_le (X % 256) (Nat.mod_lt _ (by decide))) (p8_le (X / 256 % 256) (Nat.mod_lt _ (by decide))) (p8_le (X / 256 / 256 % 256) (Nat.mod_lt _ (by decide))) (p8_le (X / 256 / 256 / 256 % 256) (Nat.mod_lt _ (by decide))) (p8_le (X / 256 / 256 / 256 / 256 % 256) (Nat.mod_lt _ (by decide))) (p8_le (X / 256 / 256 / 256 / 256 / 256 % 256) (Nat.mod_lt _ (by decide))) (p8_le (X / 256 / 256 / 256 / 256 / 256 / 256 % 256) (Nat.mod_lt _ (by decide))) (p8_le (X / 256 / 256 / 256 / 256 / 256 / 256 / 256 % 256) (Nat.mod_lt _ (by decide))) (qq_8 X) hA (by rw [hB, Nat.div_div_eq_div_mul]) (by rw [hC, Nat.div_div_eq_div_mul, Nat.div_div_eq_div_mul, Nat.div_div_eq_div_mul])
  rw [e.1, pop_p8, lN_tn hX]
  simp only [Nat.div_div_eq_div_mul, Nat.pow_zero, Nat.div_one, Nat.reducePow, Nat.reduceMul]
theorem isMk_cl (n : Nat) (k : Int32) : (!decide (k < 0) && !decide (nI n ≤ k)) = isMk n k := by
  have e1 : (k < 0) ↔ ¬ 0 ≤ k := by rw [Int32.lt_iff_toInt_lt, Int32.le_iff_toInt_le]; omega
  have e2 : (nI n ≤ k) ↔ ¬ k < nI n := by rw [Int32.lt_iff_toInt_lt, Int32.le_iff_toInt_le]; omega
  unfold isMk
  simp only [e1, e2]
  by_cases a1 : 0 ≤ k <;> by_cases a2 : k < nI n <;> simp [a1, a2]
theorem or0 (x : Int64) : x ||| 0 = x := by
  apply bt_ext; intro i hi; rw [bt_or, bt_0, Bool.or_false]
/-- the widest of a set, gone through as the class does -/
def wdI (b : Nat → Bool) (f : Nat → Nat → Nat) (j m : Nat) : Nat → Nat
  | 0 => m
  | t + 1 => if b j && b (j + 1 + t) then (if decide (wdI b f j m t < f j (j + 1 + t)) then f j (j + 1 + t) else wdI b f j m t) else wdI b f j m t
def wdO (b : Nat → Bool) (f : Nat → Nat → Nat) (n : Nat) : Nat → Nat
  | 0 => 0
  | j + 1 => wdI b f j (wdO b f n j) (n - (j + 1))
theorem wdI_le {b : Nat → Bool} {f : Nat → Nat → Nat} {j m : Nat} (hf : ∀ x y, f x y ≤ 64) (hm : m ≤ 64) : ∀ t, wdI b f j m t ≤ 64
  | 0 => hm
  | t + 1 => by
    have h := wdI_le (b := b) (j := j) hf hm t
    unfold wdI; split
    · split
      · exact hf _ _
      · exact h
    · exact h
theorem wdO_le {b : Nat → Bool} {f : Nat → Nat → Nat} {n : Nat} (hf : ∀ x y, f x y ≤ 64) : ∀ j, wdO b f n j ≤ 64
  | 0 => Nat.zero_le _
  | j + 1 => wdI_le hf (wdO_le hf j) _
theorem lN_mask31 (a : Nat) : lN a &&& lN 2147483647 = lN (a % 2147483648) := by
  rw [lN_land, show (2147483647 : Nat) = 2 ^ 31 - 1 from rfl, Nat.and_two_pow_sub_one_eq_mod]
/-- one part alike, by the masks -/
def anyP (d : Int64) (mk : Nat → Int64) (c : Nat) : Bool := !alB (fun p => !decide (d &&& mk p = 0)) c
def turnO (p P h : Nat) : Nat := if h = 0 then p else if h = 1 then P - 1 - p else if p % 2 = 0 then p / 2 else (P + 1) / 2 + p / 2
def evS (P h : Nat) : Nat → Int64 × Nat
  | 0 => (0, 0)
  | p + 1 => ((evS P h p).1 ||| shl 1 (evS P h p).2, (evS P h p).2 + (if decide (64 - 64 / P * P ≤ turnO p P h) then 64 / P else 64 / P + 1))
def rowsE (d : Nat) : Nat → Int64
  | 0 => 0
  | r + 1 => typed (rowsE d r) r d
theorem fromB_hit {p : Nat → Bool} {d i : Nat} (h : p i = true) : fromB p (d + 1) i = nI i := by rw [fromB, if_pos h]
theorem fromB_miss {p : Nat → Bool} {d i : Nat} (h : p i = false) : fromB p (d + 1) i = fromB p d (i + 1) := by rw [fromB, if_neg (by rw [h]; decide)]
theorem ct_t {p : Nat → Bool} {n : Nat} (h : p n = true) : ct p (n + 1) = ct p n + 1 := by rw [ct, h]; rfl
theorem ct_f {p : Nat → Bool} {n : Nat} (h : p n = false) : ct p (n + 1) = ct p n := by rw [ct, h]; rfl
theorem wdI_y {b : Nat → Bool} {f : Nat → Nat → Nat} {j m t : Nat} (h1 : b j = true) (h2 : b (j + 1 + t) = true) : wdI b f j m (t + 1) = if decide (wdI b f j m t < f j (j + 1 + t)) then f j (j + 1 + t) else wdI b f j m t := by
  rw [wdI, if_pos (by rw [h1, h2]; rfl)]
theorem wdI_n1 {b : Nat → Bool} {f : Nat → Nat → Nat} {j m t : Nat} (h1 : b j = false) : wdI b f j m (t + 1) = wdI b f j m t := by
  rw [wdI, if_neg (by rw [h1]; simp)]
theorem wdI_n2 {b : Nat → Bool} {f : Nat → Nat → Nat} {j m t : Nat} (h1 : b (j + 1 + t) = false) : wdI b f j m (t + 1) = wdI b f j m t := by
  rw [wdI, if_neg (by rw [h1]; simp)]
section ROWS4
variable {γ : GT} {l : Launch} {o : OM} {own : String} {cc : ByteArray} {n : Nat} {r : Option FieldType} {fr lo : Nat} {P : Option Value → MI → ML → Prop}
variable {mi : MI} {ml : ML} {pc : Nat} {lv : List (Nat × Value)} {rest : List Value}
theorem w_ma_s : Cond.static y_Ma_max ∈ gtbl := ok_Ma_max.1
theorem w_ma_i : Cond.initialized "java/lang/Math" ∈ gtbl := ok_Ma_max.2.1
theorem r_max (X : Cx γ l o own cc n r fr lo P) {ix a b : Nat} (ha : a < 2147483648) (hb : b < 2147483648) (w : Cond.methodLink own ix y_Ma_max ∈ gtbl) (hfr : 1 ≤ fr) (hlo : (rest.map fun v => v.category).sum + 13 ≤ lo) (d : decode cc pc = .ok (.invokestatic ix, 3)) (k : V γ o n mi ml (pc + 3) lv (.int (nI (if decide (a < b) then b else a)) :: rest)) : V γ o n mi ml pc lv (.int (nI b) :: .int (nI a) :: rest) := by
  obtain ⟨x1, x2, x3, x4, x5, x6, x7, x8, x9, x10, x11, x12⟩ := X
  intro H locs ls h1 h2 h3
  refine va_mmax x1 x2 (by rw [x3]; exact h3.1.symm) x4 (x5 _ w) (x5 _ ok_Ma_max.1) (x5 _ w_ma_i) (x5 _ wc_Ma_max) (by rw [x9]; exact hfr) (by rw [x10]; exact hlo) (Nat.zero_le _) (Nat.zero_le _) d ?_
  have e : (if nI a < nI b then nI b else nI a) = nI (if decide (a < b) then b else a) := by
    have := nI_ltI ha hb
    by_cases h : a < b <;> simp [this, h]
  rw [e]
  exact k H locs ls h1 h2 h3
theorem r_min (X : Cx γ l o own cc n r fr lo P) {ix a b : Nat} (ha : a < 2147483648) (hb : b < 2147483648) (w : Cond.methodLink own ix y_Ma_min ∈ gtbl) (hfr : 1 ≤ fr) (hlo : (rest.map fun v => v.category).sum + 13 ≤ lo) (d : decode cc pc = .ok (.invokestatic ix, 3)) (k : V γ o n mi ml (pc + 3) lv (.int (nI (if decide (b < a) then b else a)) :: rest)) : V γ o n mi ml pc lv (.int (nI b) :: .int (nI a) :: rest) := by
  obtain ⟨x1, x2, x3, x4, x5, x6, x7, x8, x9, x10, x11, x12⟩ := X
  intro H locs ls h1 h2 h3
  refine va_mmin x1 x2 (by rw [x3]; exact h3.1.symm) x4 (x5 _ w) (x5 _ ok_Ma_min.1) (x5 _ w_ma_i) (x5 _ wc_Ma_min) (by rw [x9]; exact hfr) (by rw [x10]; exact hlo) (Nat.zero_le _) (Nat.zero_le _) d ?_
  have e : (if nI b < nI a then nI b else nI a) = nI (if decide (b < a) then b else a) := by
    have := nI_ltI hb ha
    by_cases h : b < a <;> simp [this, h]
  rw [e]
  exact k H locs ls h1 h2 h3
end ROWS4
