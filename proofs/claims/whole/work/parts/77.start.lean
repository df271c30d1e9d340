/-! behind the constructors: class and reference stand alike; the rows of the law itself -/
theorem ini_m {m : MI} {z : ML} (h : iniP m z) {t : Nat} (h1 : t ≠ 75) (h2 : t ≠ 76) : m t = fun _ => 0 := h.2.1 t h1 h2
theorem ini_n {m : MI} {z : ML} (h : iniP m z) {t : Nat} (h1 : t ≠ 75) (h2 : t ≠ 76) (k : Nat) : m t k = nI 0 := by rw [ini_m h h1 h2, nI_0]
theorem ini_z {m : MI} {z : ML} (h : iniP m z) {t : Nat} (h1 : t ≠ 77) (h2 : ¬ (t = 1 ∨ t = 68 ∨ t = 72 ∨ (6 ≤ t ∧ t < 66 ∧ t % 3 = 0))) : z t = fun _ => 0 := by rw [h.2.2 t h1, ml0_N h2]
theorem ini_rel {m : MI} {z : ML} (h : iniP m z) : Rel m (u2 z 96 1 281479271743489) := by
  have e1 : u2 z 96 1 281479271743489 1 = ml0 1 := by rw [u2_n _ _ _ (by decide), h.2.2 1 (by decide)]
  have e96 : u2 z 96 1 281479271743489 96 = uf (fun _ => 0) 1 281479271743489 := by rw [u2_s, ini_z h (by decide) (by decide)]
  have e11 : u2 z 96 1 281479271743489 1 1 = 281479271743489 := by rw [e1]; rfl
  refine ⟨0, 0, 0, 0, 0, 0, fun _ => 0, fun _ => 0, ⟨by decide, ini_n h (by decide) (by decide) 2, ?_, ?_, ?_, fun k hk => absurd hk (Nat.not_lt_zero k), fun k hk => absurd hk (Nat.not_lt_zero k), ?_, fun j k hj => absurd hj (Nat.not_lt_zero j), fun k hk => absurd hk (Nat.not_lt_zero k)⟩, ?_, ⟨ini_n h (by decide) (by decide) 1, by decide, ini_n h (by decide) (by decide) 2, by decide, ini_n h (by decide) (by decide) 2, fun j hj => absurd hj (Nat.not_lt_zero j)⟩, ⟨Or.inl ⟨ini_n h (by decide) (by decide) 2, ini_n h (by decide) (by decide) 0⟩, Or.inl ⟨ini_n h (by decide) (by decide) 2, ini_n h (by decide) (by decide) 1⟩⟩, ⟨by decide, ini_n h (by decide) (by decide) 0, ini_n h (by decide) (by decide) 9⟩, ⟨by decide, ini_n h (by decide) (by decide) 3, ini_n h (by decide) (by decide) 10, fun i hi => absurd hi (Nat.not_lt_zero i)⟩, ⟨by decide, ini_n h (by decide) (by decide) 3, ini_n h (by decide) (by decide) 13, fun e he => absurd he (Nat.not_lt_zero e)⟩⟩
  · rw [e96]; rfl
  · rw [e96, e1]; rfl
  · rw [e96, e1]; rfl
  · rw [e11]; exact ⟨by decide +kernel, by decide +kernel⟩
  · rw [e11]; exact h.1.cg rfl rfl (by rw [u2_n _ _ _ (by decide)])
theorem ini_eq {o : OM} {m : MI} {z : ML} (h : iniP m z) {i : Nat} (hi : i < 111) : eMo_init o (uf (eM o m z) 95 (.inr (10, [.null, .null, .int 0, .null, .null, .null, .null, .null, .null, .int 0, .int 0, .null, .null, .int 0, .null, .null, .null, .null, .null]))) 95 96 i = eM o m (u2 z 96 1 281479271743489) i := by
  rcases (show i < 95 ∨ i = 95 ∨ i = 96 ∨ i = 97 ∨ i = 98 ∨ i = 99 ∨ i = 100 ∨ i = 101 ∨ i = 102 ∨ i = 103 ∨ i = 104 ∨ i = 105 ∨ i = 106 ∨ i = 107 ∨ i = 108 ∨ i = 109 ∨ i = 110 by omega) with hi | rfl | rfl | rfl | rfl | rfl | rfl | rfl | rfl | rfl | rfl | rfl | rfl | rfl | rfl | rfl | rfl
  · rw [eMo_init_n (by omega) (by omega), uf_n _ _ (by omega)]
    unfold eM
    rw [u2_n _ _ _ (by omega)]
  · show _ = cE o (m 95) (u2 z 96 1 281479271743489 95) 95
    rw [ini_m h (by decide) (by decide)]; rfl
  · show _ = cE o (m 96) (u2 z 96 1 281479271743489 96) 96
    rw [u2_s, ini_z h (by decide) (by decide)]; rfl
  · show _ = cE o (m 97) (u2 z 96 1 281479271743489 97) 97
    rw [ini_m h (by decide) (by decide)]; rfl
  · show _ = cE o (m 98) (u2 z 96 1 281479271743489 98) 98
    rw [u2_n _ _ _ (by decide), ini_z h (by decide) (by decide)]; rfl
  · show _ = cE o (m 99) (u2 z 96 1 281479271743489 99) 99
    rw [ini_m h (by decide) (by decide)]; rfl
  · show _ = cE o (m 100) (u2 z 96 1 281479271743489 100) 100
    rw [u2_n _ _ _ (by decide), ini_z h (by decide) (by decide)]; rfl
  · show _ = cE o (m 101) (u2 z 96 1 281479271743489 101) 101
    rw [ini_m h (by decide) (by decide)]; rfl
  · show _ = cE o (m 102) (u2 z 96 1 281479271743489 102) 102
    rw [ini_m h (by decide) (by decide)]; rfl
  · show _ = cE o (m 103) (u2 z 96 1 281479271743489 103) 103
    rw [ini_m h (by decide) (by decide)]; rfl
  · show _ = cE o (m 104) (u2 z 96 1 281479271743489 104) 104
    rw [u2_n _ _ _ (by decide), ini_z h (by decide) (by decide)]; rfl
  · show _ = cE o (m 105) (u2 z 96 1 281479271743489 105) 105
    rw [ini_m h (by decide) (by decide)]; rfl
  · show _ = cE o (m 106) (u2 z 96 1 281479271743489 106) 106
    rw [ini_m h (by decide) (by decide)]; rfl
  · show _ = cE o (m 107) (u2 z 96 1 281479271743489 107) 107
    rw [ini_m h (by decide) (by decide)]; rfl
  · show _ = cE o (m 108) (u2 z 96 1 281479271743489 108) 108
    rw [ini_m h (by decide) (by decide)]; rfl
  · show _ = cE o (m 109) (u2 z 96 1 281479271743489 109) 109
    rw [ini_m h (by decide) (by decide)]; rfl
  · show _ = cE o (m 110) (u2 z 96 1 281479271743489 110) 110
    rw [ini_m h (by decide) (by decide)]; rfl
def LScr (γ : GT) (o : OM) (b L : Nat) (xs : Nat → Int32) : Prop := va_X b L xs γ.s γ.s.heap ∧ b < γ.s.heap.size ∧ (¬ isN o b) ∧ L ≤ 2048
def LRet (γ : GT) (b : Nat) : Prop := γ.R = room_1 ∧ γ.a = #[Value.ref b] ∧ γ.Q = lw_Z γ.b #[Value.ref b] γ.s ∧ γ.me.sig.returnType = ret
theorem sub4 {L i : Nat} (hL : L ≤ 2048) (hi : i ≤ 2048) : (nI L - nI 4 < nI i) ↔ L < i + 4 := by
  have h1 : (nI L - nI 4).toInt = (L : Int) - 4 := by
    rw [Int32.toInt_sub, nI_toInt (by omega), nI_toInt (by omega)]
    exact Int.bmod_eq_of_le (by omega) (by omega)
  rw [Int32.lt_iff_toInt_lt, h1, nI_toInt (by omega)]
  omega
theorem and31 (x : Int32) : ∃ k, k < 32 ∧ x &&& nI 31 = nI k := by
  refine ⟨x.toBitVec.toNat % 32, Nat.mod_lt _ (by decide), ?_⟩
  apply Int32.toBitVec_inj.1
  show x.toBitVec &&& BitVec.ofNat 32 31 = BitVec.ofNat 32 (x.toBitVec.toNat % 32)
  apply BitVec.eq_of_getLsbD_eq
  intro i hi
  have h1 : (31 : Nat).testBit i = decide (i < 5) := (by decide +kernel : ∀ i, i < 32 → (31 : Nat).testBit i = decide (i < 5)) i hi
  have h2 : (x.toBitVec.toNat % 32).testBit i = (decide (i < 5) && x.toBitVec.toNat.testBit i) := Nat.testBit_mod_two_pow _ 5 i
  have h3 : x.toBitVec.getLsbD i = x.toBitVec.toNat.testBit i := rfl
  rw [BitVec.getLsbD_and, BitVec.getLsbD_ofNat, BitVec.getLsbD_ofNat, h1, h2, h3]
  simp [hi, Bool.and_comm]
section ROWSLAW
variable {γ : GT} {l : Launch} {o : OM} {own : String} {cc : ByteArray} {n : Nat} {fr lo rc rs b0 : Nat}
variable {kk0 : Nat} {EE : Nat → va_E} {c0 s0 : Nat} {pc : Nat} {lv : List (Nat × Value)} {st rest : List Value} {b L : Nat} {xs : Nat → Int32}
theorem v_sld (X : CxE γ l o own cc n fr lo rc rs b0) (S : LScr γ o b L xs) {j : Nat} (hj : j < L) (d : decode cc pc = .ok (.iaload, 1)) (k : VE γ o n kk0 EE c0 s0 (pc + 1) lv (.int (xs j) :: rest)) : VE γ o n kk0 EE c0 s0 pc lv (.int (nI j) :: .ref b :: rest) := by
  intro H locs ls h1 h2 h3
  obtain ⟨S1, S2, S3, S4⟩ := S
  refine va_sld X.1 X.2.1 S1 S2 S3 h2 (vp_in_nI hj (by omega)) d ?_
  rw [nI_clamp (by omega)]
  exact k H locs ls h1 h2 h3
theorem v_slen (X : CxE γ l o own cc n fr lo rc rs b0) (S : LScr γ o b L xs) (d : decode cc pc = .ok (.arraylength, 1)) (k : VE γ o n kk0 EE c0 s0 (pc + 1) lv (.int (nI L) :: rest)) : VE γ o n kk0 EE c0 s0 pc lv (.ref b :: rest) := by
  intro H locs ls h1 h2 h3
  obtain ⟨S1, S2, S3, S4⟩ := S
  exact va_slen X.1 X.2.1 S1 S2 S3 h2 d (k H locs ls h1 h2 h3)
theorem v_lawret (X : CxE γ l o own code n fr lo rc rs 0) (R : LRet γ b) (hc : c0 ≤ 600000) (hs : s0 ≤ 7302250) (d : decode code pc = .ok (.ireturn, 1)) : VE γ o n kk0 EE c0 s0 pc lv [.int 1] := by
  intro H locs ls h1 h2 h3
  obtain ⟨x1, x2, x3, x4, x5, x6, x7, x8, x9, x10, x11, x12, x13, x14⟩ := X
  obtain ⟨r1, r2, r3, r4⟩ := R
  refine va_forget (fun q hq => ?_) ?_
  · have h : o.1 ≤ q.base := h2.2.2 q hq
    omega
  · refine W.widen hc hs ?_
    rw [r1, r2, r3]
    exact lw_ret x1 x2 r4 x8 d
end ROWSLAW
