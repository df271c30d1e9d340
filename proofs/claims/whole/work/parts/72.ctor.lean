section ROWSE2
variable {γ : GT} {l : Launch} {o : OM} {own : String} {cc : ByteArray} {n : Nat} {fr lo rc rs b0 : Nat}
variable {kk0 : Nat} {EE : Nat → va_E} {c0 s0 : Nat} {pc : Nat} {lv : List (Nat × Value)} {st rest : List Value}
theorem v_last (X : CxE γ l o own cc n fr lo rc rs b0) {i m j : Nat} {g : Nat → Int64} {x : Int64} (hi : i < kk0) (hE : EE i = aJ o m g) (hm : m ≤ 1000) (hj : j < m) (d : decode cc pc = .ok (.lastore, 1)) (k : VE γ o n kk0 (uf EE i (aJ o m (uf g j x))) c0 s0 (pc + 1) lv rest) : VE γ o n kk0 EE c0 s0 pc lv (.long x :: .int (nI j) :: .ref (ads o i) :: rest) := by
  intro H locs ls h1 h2 h3
  refine va_last X.1 X.2.1 X.2.2.2.2.2.1.1 h1 (wsE_D o kk0 EE) h2 i 1 (f := g) (n := m) (cA := o.2.2 1) (by rw [wsE_at o EE hi, hE]; rfl) rfl (vp_in_nI hj (by omega)) d (fun H1 locs1 g1 g2 g3 => ?_)
  rw [nI_clamp (by omega)] at g1
  have g1 := (wsE_set o (E := EE) (aJ o m (uf g j x)) hi) ▸ g1
  exact k H1 locs1 ls g1 g3 h3
end ROWSE2

def eSt_init (o : OM) (E : Nat → va_E) (a k : Nat) : Nat → va_E := (uf (uf (uf E k (aJ o 40 (fun _ => 0))) (k + 1) (aI o 40 (fun _ => 0))) a (.inr (8, [.long 0, .long (281479271743489), .int 0, .ref (ads o (k)), .ref (ads o (k + 1))])))
theorem eSt_init_n {o : OM} {E : Nat → va_E} {a k i : Nat} (h : i ≠ a) (hk : i < k) : eSt_init o E a k i = E i := by
  unfold eSt_init; rw [uf_n _ _ h, uf_n _ _ (by omega), uf_n _ _ (by omega)]
theorem eSt_init_a {o : OM} {E : Nat → va_E} {a k : Nat} : eSt_init o E a k a = .inr (8, [.long 0, .long (281479271743489), .int 0, .ref (ads o (k)), .ref (ads o (k + 1))]) := by
  unfold eSt_init; rw [uf_s]
set_option maxRecDepth 100000 in
theorem m_St_init (l : Launch) (o : OM) (a k : Nat) (E : Nat → va_E) (ha : a < k) (hE : E a = .inr (8, [.long 0, .long 0, .int 0, .null, .null])) : ConI l y_St_init c_St_init 1 1 20 2 80 o a k E (k + 2) (eSt_init o E a k) := by
  refine ConI.mk (by decide) rfl (Nat.le_of_ble_eq_true rfl) (fun γ X hr hin hQ => ?_)
  refine v_aload_n X 0 d_St_init_0 rfl rfl ?_
  refine v_obj X wo_St (Nat.le_of_ble_eq_true rfl) (Nat.le_of_ble_eq_true rfl) (Nat.le_of_ble_eq_true rfl) d_St_init_1 ?_
  refine v_aload_n X 0 d_St_init_4 rfl rfl ?_
  refine v_ldc2 X (v := (281479271743489 : Int64)) k_St_9 d_St_init_5 ?_
  refine v_putL X (fs := [.long 0, .long 0, .int 0, .null, .null]) fw_St_11 (by omega) hE (Nat.le_of_ble_eq_true rfl) d_St_init_8 ?_
  show VE γ o 1 (k) (uf E a (.inr (8, [.long 0, .long (281479271743489), .int 0, .null, .null]))) 0 0 11 [(0, .ref (ads o (a)))] []
  refine v_aload_n X 0 d_St_init_11 rfl rfl ?_
  refine v_bipush X (v := nI (40)) d_St_init_12 (by decide) ?_
  refine v_newJ X (m := 40) (by omega) (Nat.le_of_ble_eq_true rfl) (Nat.le_of_ble_eq_true rfl) (Nat.le_of_ble_eq_true rfl) d_St_init_14 ?_
  refine v_putF X hin (fs := [.long 0, .long (281479271743489), .int 0, .null, .null]) ff_St_17 (by omega) (by rw [uf_n _ _ (by omega), uf_s]) (Nat.le_of_ble_eq_true rfl) d_St_init_16 ?_
  show VE γ o 1 (k + 1) (uf (uf (uf E a (.inr (8, [.long 0, .long (281479271743489), .int 0, .null, .null]))) k (aJ o 40 (fun _ => 0))) a (.inr (8, [.long 0, .long (281479271743489), .int 0, .ref (ads o (k)), .null]))) 1 40 19 [(0, .ref (ads o (a)))] []
  refine v_aload_n X 0 d_St_init_19 rfl rfl ?_
  refine v_bipush X (v := nI (40)) d_St_init_20 (by decide) ?_
  refine v_newI X (m := 40) (by omega) (Nat.le_of_ble_eq_true rfl) (Nat.le_of_ble_eq_true rfl) (Nat.le_of_ble_eq_true rfl) d_St_init_22 ?_
  refine v_putF X hin (fs := [.long 0, .long (281479271743489), .int 0, .ref (ads o (k)), .null]) ff_St_21 (by omega) (by rw [uf_n _ _ (by omega), uf_s]) (Nat.le_of_ble_eq_true rfl) d_St_init_24 ?_
  show VE γ o 1 (k + 2) (uf (uf (uf (uf (uf E a (.inr (8, [.long 0, .long (281479271743489), .int 0, .null, .null]))) k (aJ o 40 (fun _ => 0))) a (.inr (8, [.long 0, .long (281479271743489), .int 0, .ref (ads o (k)), .null]))) (k + 1) (aI o 40 (fun _ => 0))) a (.inr (8, [.long 0, .long (281479271743489), .int 0, .ref (ads o (k)), .ref (ads o (k + 1))]))) 2 80 27 [(0, .ref (ads o (a)))] []
  refine v_end X hr hQ (by omega) rfl rfl rfl (fun i hi => ?_) d_St_init_27
  unfold eSt_init; simp only [uf]
  all_goals by_cases hk2 : i = k
  all_goals first | (have ha3 : ¬ k = a := (by omega); subst hk2; simp [ha3]; done) | (by_cases ha2 : i = a <;> first | (subst ha2; simp [hk2]; done) | (simp [ha2, hk2]; done))

def ePt_init (o : OM) (E : Nat → va_E) (a k : Nat) : Nat → va_E := (uf (uf (uf E k (aI o 8 (fun _ => 0))) (k + 1) (aJ o 8 (fun _ => 0))) a (.inr (5, [.ref (ads o (k)), .ref (ads o (k + 1)), .int 0])))
theorem ePt_init_n {o : OM} {E : Nat → va_E} {a k i : Nat} (h : i ≠ a) (hk : i < k) : ePt_init o E a k i = E i := by
  unfold ePt_init; rw [uf_n _ _ h, uf_n _ _ (by omega), uf_n _ _ (by omega)]
theorem ePt_init_a {o : OM} {E : Nat → va_E} {a k : Nat} : ePt_init o E a k a = .inr (5, [.ref (ads o (k)), .ref (ads o (k + 1)), .int 0]) := by
  unfold ePt_init; rw [uf_s]
set_option maxRecDepth 100000 in
theorem m_Pt_init (l : Launch) (o : OM) (a k : Nat) (E : Nat → va_E) (ha : a < k) (hE : E a = .inr (5, [.null, .null, .int 0])) : ConI l y_Pt_init c_Pt_init 1 1 20 2 16 o a k E (k + 2) (ePt_init o E a k) := by
  refine ConI.mk (by decide) rfl (Nat.le_of_ble_eq_true rfl) (fun γ X hr hin hQ => ?_)
  refine v_aload_n X 0 d_Pt_init_0 rfl rfl ?_
  refine v_obj X wo_Pt (Nat.le_of_ble_eq_true rfl) (Nat.le_of_ble_eq_true rfl) (Nat.le_of_ble_eq_true rfl) d_Pt_init_1 ?_
  refine v_aload_n X 0 d_Pt_init_4 rfl rfl ?_
  refine v_bipush X (v := nI (8)) d_Pt_init_5 (by decide) ?_
  refine v_newI X (m := 8) (by omega) (Nat.le_of_ble_eq_true rfl) (Nat.le_of_ble_eq_true rfl) (Nat.le_of_ble_eq_true rfl) d_Pt_init_7 ?_
  refine v_putF X hin (fs := [.null, .null, .int 0]) ff_Pt_9 (by omega) (by rw [uf_n _ _ (by omega)]; exact hE) (Nat.le_of_ble_eq_true rfl) d_Pt_init_9 ?_
  show VE γ o 1 (k + 1) (uf (uf E k (aI o 8 (fun _ => 0))) a (.inr (5, [.ref (ads o (k)), .null, .int 0]))) 1 8 12 [(0, .ref (ads o (a)))] []
  refine v_aload_n X 0 d_Pt_init_12 rfl rfl ?_
  refine v_bipush X (v := nI (8)) d_Pt_init_13 (by decide) ?_
  refine v_newJ X (m := 8) (by omega) (Nat.le_of_ble_eq_true rfl) (Nat.le_of_ble_eq_true rfl) (Nat.le_of_ble_eq_true rfl) d_Pt_init_15 ?_
  refine v_putF X hin (fs := [.ref (ads o (k)), .null, .int 0]) ff_Pt_15 (by omega) (by rw [uf_n _ _ (by omega), uf_s]) (Nat.le_of_ble_eq_true rfl) d_Pt_init_17 ?_
  show VE γ o 1 (k + 2) (uf (uf (uf (uf E k (aI o 8 (fun _ => 0))) a (.inr (5, [.ref (ads o (k)), .null, .int 0]))) (k + 1) (aJ o 8 (fun _ => 0))) a (.inr (5, [.ref (ads o (k)), .ref (ads o (k + 1)), .int 0]))) 2 16 20 [(0, .ref (ads o (a)))] []
  refine v_end X hr hQ (by omega) rfl rfl rfl (fun i hi => ?_) d_Pt_init_20
  unfold ePt_init; simp only [uf]
  all_goals by_cases hk2 : i = k
  all_goals first | (have ha3 : ¬ k = a := (by omega); subst hk2; simp [ha3]; done) | (by_cases ha2 : i = a <;> first | (subst ha2; simp [hk2]; done) | (simp [ha2, hk2]; done))

def eGr_init (o : OM) (E : Nat → va_E) (a k : Nat) : Nat → va_E := (uf (uf (uf E k (aJ o 40 (fun _ => 0))) (k + 1) (aJ o 40 (fun _ => 0))) a (.inr (3, [.ref (ads o (k)), .ref (ads o (k + 1)), .int 0])))
theorem eGr_init_n {o : OM} {E : Nat → va_E} {a k i : Nat} (h : i ≠ a) (hk : i < k) : eGr_init o E a k i = E i := by
  unfold eGr_init; rw [uf_n _ _ h, uf_n _ _ (by omega), uf_n _ _ (by omega)]
theorem eGr_init_a {o : OM} {E : Nat → va_E} {a k : Nat} : eGr_init o E a k a = .inr (3, [.ref (ads o (k)), .ref (ads o (k + 1)), .int 0]) := by
  unfold eGr_init; rw [uf_s]
set_option maxRecDepth 100000 in
theorem m_Gr_init (l : Launch) (o : OM) (a k : Nat) (E : Nat → va_E) (ha : a < k) (hE : E a = .inr (3, [.null, .null, .int 0])) : ConI l y_Gr_init c_Gr_init 1 1 20 2 80 o a k E (k + 2) (eGr_init o E a k) := by
  refine ConI.mk (by decide) rfl (Nat.le_of_ble_eq_true rfl) (fun γ X hr hin hQ => ?_)
  refine v_aload_n X 0 d_Gr_init_0 rfl rfl ?_
  refine v_obj X wo_Gr (Nat.le_of_ble_eq_true rfl) (Nat.le_of_ble_eq_true rfl) (Nat.le_of_ble_eq_true rfl) d_Gr_init_1 ?_
  refine v_aload_n X 0 d_Gr_init_4 rfl rfl ?_
  refine v_bipush X (v := nI (40)) d_Gr_init_5 (by decide) ?_
  refine v_newJ X (m := 40) (by omega) (Nat.le_of_ble_eq_true rfl) (Nat.le_of_ble_eq_true rfl) (Nat.le_of_ble_eq_true rfl) d_Gr_init_7 ?_
  refine v_putF X hin (fs := [.null, .null, .int 0]) ff_Gr_9 (by omega) (by rw [uf_n _ _ (by omega)]; exact hE) (Nat.le_of_ble_eq_true rfl) d_Gr_init_9 ?_
  show VE γ o 1 (k + 1) (uf (uf E k (aJ o 40 (fun _ => 0))) a (.inr (3, [.ref (ads o (k)), .null, .int 0]))) 1 40 12 [(0, .ref (ads o (a)))] []
  refine v_aload_n X 0 d_Gr_init_12 rfl rfl ?_
  refine v_bipush X (v := nI (40)) d_Gr_init_13 (by decide) ?_
  refine v_newJ X (m := 40) (by omega) (Nat.le_of_ble_eq_true rfl) (Nat.le_of_ble_eq_true rfl) (Nat.le_of_ble_eq_true rfl) d_Gr_init_15 ?_
  refine v_putF X hin (fs := [.ref (ads o (k)), .null, .int 0]) ff_Gr_15 (by omega) (by rw [uf_n _ _ (by omega), uf_s]) (Nat.le_of_ble_eq_true rfl) d_Gr_init_17 ?_
  show VE γ o 1 (k + 2) (uf (uf (uf (uf E k (aJ o 40 (fun _ => 0))) a (.inr (3, [.ref (ads o (k)), .null, .int 0]))) (k + 1) (aJ o 40 (fun _ => 0))) a (.inr (3, [.ref (ads o (k)), .ref (ads o (k + 1)), .int 0]))) 2 80 20 [(0, .ref (ads o (a)))] []
  refine v_end X hr hQ (by omega) rfl rfl rfl (fun i hi => ?_) d_Gr_init_20
  unfold eGr_init; simp only [uf]
  all_goals by_cases hk2 : i = k
  all_goals first | (have ha3 : ¬ k = a := (by omega); subst hk2; simp [ha3]; done) | (by_cases ha2 : i = a <;> first | (subst ha2; simp [hk2]; done) | (simp [ha2, hk2]; done))

def eCo_init (o : OM) (E : Nat → va_E) (a k : Nat) : Nat → va_E := (uf (uf E k (aJ o 64 (fun _ => 0))) a (.inr (1, [.ref (ads o (k)), .long 0])))
theorem eCo_init_n {o : OM} {E : Nat → va_E} {a k i : Nat} (h : i ≠ a) (hk : i < k) : eCo_init o E a k i = E i := by
  unfold eCo_init; rw [uf_n _ _ h, uf_n _ _ (by omega)]
theorem eCo_init_a {o : OM} {E : Nat → va_E} {a k : Nat} : eCo_init o E a k a = .inr (1, [.ref (ads o (k)), .long 0]) := by
  unfold eCo_init; rw [uf_s]
set_option maxRecDepth 100000 in
theorem m_Co_init (l : Launch) (o : OM) (a k : Nat) (E : Nat → va_E) (ha : a < k) (hE : E a = .inr (1, [.null, .long 0])) : ConI l y_Co_init c_Co_init 1 1 20 1 64 o a k E (k + 1) (eCo_init o E a k) := by
  refine ConI.mk (by decide) rfl (Nat.le_of_ble_eq_true rfl) (fun γ X hr hin hQ => ?_)
  refine v_aload_n X 0 d_Co_init_0 rfl rfl ?_
  refine v_obj X wo_Co (Nat.le_of_ble_eq_true rfl) (Nat.le_of_ble_eq_true rfl) (Nat.le_of_ble_eq_true rfl) d_Co_init_1 ?_
  refine v_aload_n X 0 d_Co_init_4 rfl rfl ?_
  refine v_bipush X (v := nI (64)) d_Co_init_5 (by decide) ?_
  refine v_newJ X (m := 64) (by omega) (Nat.le_of_ble_eq_true rfl) (Nat.le_of_ble_eq_true rfl) (Nat.le_of_ble_eq_true rfl) d_Co_init_7 ?_
  refine v_putF X hin (fs := [.null, .long 0]) ff_Co_9 (by omega) (by rw [uf_n _ _ (by omega)]; exact hE) (Nat.le_of_ble_eq_true rfl) d_Co_init_9 ?_
  show VE γ o 1 (k + 1) (uf (uf E k (aJ o 64 (fun _ => 0))) a (.inr (1, [.ref (ads o (k)), .long 0]))) 1 64 12 [(0, .ref (ads o (a)))] []
  refine v_end X hr hQ (by omega) rfl rfl rfl (fun i hi => ?_) d_Co_init_12
  unfold eCo_init; simp only [uf]
  all_goals by_cases hk2 : i = k
  all_goals first | (have ha3 : ¬ k = a := (by omega); subst hk2; simp [ha3]; done) | (by_cases ha2 : i = a <;> first | (subst ha2; simp [hk2]; done) | (simp [ha2, hk2]; done))

def eSi_init (o : OM) (E : Nat → va_E) (a k : Nat) : Nat → va_E := (uf (uf (uf (uf E k (aJ o 6 (fun _ => 0))) (k + 1) (aI o 6 (fun _ => 0))) (k + 2) (aI o 65 (fun _ => 0))) a (.inr (7, [.ref (ads o (k)), .ref (ads o (k + 1)), .ref (ads o (k + 2)), .int 0])))
theorem eSi_init_n {o : OM} {E : Nat → va_E} {a k i : Nat} (h : i ≠ a) (hk : i < k) : eSi_init o E a k i = E i := by
  unfold eSi_init; rw [uf_n _ _ h, uf_n _ _ (by omega), uf_n _ _ (by omega), uf_n _ _ (by omega)]
theorem eSi_init_a {o : OM} {E : Nat → va_E} {a k : Nat} : eSi_init o E a k a = .inr (7, [.ref (ads o (k)), .ref (ads o (k + 1)), .ref (ads o (k + 2)), .int 0]) := by
  unfold eSi_init; rw [uf_s]
set_option maxRecDepth 100000 in
theorem m_Si_init (l : Launch) (o : OM) (a k : Nat) (E : Nat → va_E) (ha : a < k) (hE : E a = .inr (7, [.null, .null, .null, .int 0])) : ConI l y_Si_init c_Si_init 1 1 20 3 77 o a k E (k + 3) (eSi_init o E a k) := by
  refine ConI.mk (by decide) rfl (Nat.le_of_ble_eq_true rfl) (fun γ X hr hin hQ => ?_)
  refine v_aload_n X 0 d_Si_init_0 rfl rfl ?_
  refine v_obj X wo_Si (Nat.le_of_ble_eq_true rfl) (Nat.le_of_ble_eq_true rfl) (Nat.le_of_ble_eq_true rfl) d_Si_init_1 ?_
  refine v_aload_n X 0 d_Si_init_4 rfl rfl ?_
  refine v_bipush X (v := nI (6)) d_Si_init_5 (by decide) ?_
  refine v_newJ X (m := 6) (by omega) (Nat.le_of_ble_eq_true rfl) (Nat.le_of_ble_eq_true rfl) (Nat.le_of_ble_eq_true rfl) d_Si_init_7 ?_
  refine v_putF X hin (fs := [.null, .null, .null, .int 0]) ff_Si_9 (by omega) (by rw [uf_n _ _ (by omega)]; exact hE) (Nat.le_of_ble_eq_true rfl) d_Si_init_9 ?_
  show VE γ o 1 (k + 1) (uf (uf E k (aJ o 6 (fun _ => 0))) a (.inr (7, [.ref (ads o (k)), .null, .null, .int 0]))) 1 6 12 [(0, .ref (ads o (a)))] []
  refine v_aload_n X 0 d_Si_init_12 rfl rfl ?_
  refine v_bipush X (v := nI (6)) d_Si_init_13 (by decide) ?_
  refine v_newI X (m := 6) (by omega) (Nat.le_of_ble_eq_true rfl) (Nat.le_of_ble_eq_true rfl) (Nat.le_of_ble_eq_true rfl) d_Si_init_15 ?_
  refine v_putF X hin (fs := [.ref (ads o (k)), .null, .null, .int 0]) ff_Si_15 (by omega) (by rw [uf_n _ _ (by omega), uf_s]) (Nat.le_of_ble_eq_true rfl) d_Si_init_17 ?_
  show VE γ o 1 (k + 2) (uf (uf (uf (uf E k (aJ o 6 (fun _ => 0))) a (.inr (7, [.ref (ads o (k)), .null, .null, .int 0]))) (k + 1) (aI o 6 (fun _ => 0))) a (.inr (7, [.ref (ads o (k)), .ref (ads o (k + 1)), .null, .int 0]))) 2 12 20 [(0, .ref (ads o (a)))] []
  refine v_aload_n X 0 d_Si_init_20 rfl rfl ?_
  refine v_bipush X (v := nI (65)) d_Si_init_21 (by decide) ?_
  refine v_newI X (m := 65) (by omega) (Nat.le_of_ble_eq_true rfl) (Nat.le_of_ble_eq_true rfl) (Nat.le_of_ble_eq_true rfl) d_Si_init_23 ?_
  refine v_putF X hin (fs := [.ref (ads o (k)), .ref (ads o (k + 1)), .null, .int 0]) ff_Si_19 (by omega) (by rw [uf_n _ _ (by omega), uf_s]) (Nat.le_of_ble_eq_true rfl) d_Si_init_25 ?_
  show VE γ o 1 (k + 3) (uf (uf (uf (uf (uf (uf E k (aJ o 6 (fun _ => 0))) a (.inr (7, [.ref (ads o (k)), .null, .null, .int 0]))) (k + 1) (aI o 6 (fun _ => 0))) a (.inr (7, [.ref (ads o (k)), .ref (ads o (k + 1)), .null, .int 0]))) (k + 2) (aI o 65 (fun _ => 0))) a (.inr (7, [.ref (ads o (k)), .ref (ads o (k + 1)), .ref (ads o (k + 2)), .int 0]))) 3 77 28 [(0, .ref (ads o (a)))] []
  refine v_end X hr hQ (by omega) rfl rfl rfl (fun i hi => ?_) d_Si_init_28
  unfold eSi_init; simp only [uf]
  all_goals by_cases hk2 : i = k
  all_goals first | (have ha3 : ¬ k = a := (by omega); subst hk2; simp [ha3]; done) | (by_cases ha2 : i = a <;> first | (subst ha2; simp [hk2]; done) | (simp [ha2, hk2]; done))

def eBk_init (o : OM) (E : Nat → va_E) (a k : Nat) : Nat → va_E := (uf (uf (uf (uf E k (aI o 20 (fun _ => 0))) (k + 1) (aI o 20 (fun _ => 0))) (k + 2) (aI o 20 (fun _ => 0))) a (.inr (0, [.ref (ads o (k)), .ref (ads o (k + 1)), .ref (ads o (k + 2)), .int 0])))
theorem eBk_init_n {o : OM} {E : Nat → va_E} {a k i : Nat} (h : i ≠ a) (hk : i < k) : eBk_init o E a k i = E i := by
  unfold eBk_init; rw [uf_n _ _ h, uf_n _ _ (by omega), uf_n _ _ (by omega), uf_n _ _ (by omega)]
theorem eBk_init_a {o : OM} {E : Nat → va_E} {a k : Nat} : eBk_init o E a k a = .inr (0, [.ref (ads o (k)), .ref (ads o (k + 1)), .ref (ads o (k + 2)), .int 0]) := by
  unfold eBk_init; rw [uf_s]
set_option maxRecDepth 100000 in
theorem m_Bk_init (l : Launch) (o : OM) (a k : Nat) (E : Nat → va_E) (ha : a < k) (hE : E a = .inr (0, [.null, .null, .null, .int 0])) : ConI l y_Bk_init c_Bk_init 1 1 20 3 60 o a k E (k + 3) (eBk_init o E a k) := by
  refine ConI.mk (by decide) rfl (Nat.le_of_ble_eq_true rfl) (fun γ X hr hin hQ => ?_)
  refine v_aload_n X 0 d_Bk_init_0 rfl rfl ?_
  refine v_obj X wo_Bk (Nat.le_of_ble_eq_true rfl) (Nat.le_of_ble_eq_true rfl) (Nat.le_of_ble_eq_true rfl) d_Bk_init_1 ?_
  refine v_aload_n X 0 d_Bk_init_4 rfl rfl ?_
  refine v_bipush X (v := nI (20)) d_Bk_init_5 (by decide) ?_
  refine v_newI X (m := 20) (by omega) (Nat.le_of_ble_eq_true rfl) (Nat.le_of_ble_eq_true rfl) (Nat.le_of_ble_eq_true rfl) d_Bk_init_7 ?_
  refine v_putF X hin (fs := [.null, .null, .null, .int 0]) ff_Bk_9 (by omega) (by rw [uf_n _ _ (by omega)]; exact hE) (Nat.le_of_ble_eq_true rfl) d_Bk_init_9 ?_
  show VE γ o 1 (k + 1) (uf (uf E k (aI o 20 (fun _ => 0))) a (.inr (0, [.ref (ads o (k)), .null, .null, .int 0]))) 1 20 12 [(0, .ref (ads o (a)))] []
  refine v_aload_n X 0 d_Bk_init_12 rfl rfl ?_
  refine v_bipush X (v := nI (20)) d_Bk_init_13 (by decide) ?_
  refine v_newI X (m := 20) (by omega) (Nat.le_of_ble_eq_true rfl) (Nat.le_of_ble_eq_true rfl) (Nat.le_of_ble_eq_true rfl) d_Bk_init_15 ?_
  refine v_putF X hin (fs := [.ref (ads o (k)), .null, .null, .int 0]) ff_Bk_15 (by omega) (by rw [uf_n _ _ (by omega), uf_s]) (Nat.le_of_ble_eq_true rfl) d_Bk_init_17 ?_
  show VE γ o 1 (k + 2) (uf (uf (uf (uf E k (aI o 20 (fun _ => 0))) a (.inr (0, [.ref (ads o (k)), .null, .null, .int 0]))) (k + 1) (aI o 20 (fun _ => 0))) a (.inr (0, [.ref (ads o (k)), .ref (ads o (k + 1)), .null, .int 0]))) 2 40 20 [(0, .ref (ads o (a)))] []
  refine v_aload_n X 0 d_Bk_init_20 rfl rfl ?_
  refine v_bipush X (v := nI (20)) d_Bk_init_21 (by decide) ?_
  refine v_newI X (m := 20) (by omega) (Nat.le_of_ble_eq_true rfl) (Nat.le_of_ble_eq_true rfl) (Nat.le_of_ble_eq_true rfl) d_Bk_init_23 ?_
  refine v_putF X hin (fs := [.ref (ads o (k)), .ref (ads o (k + 1)), .null, .int 0]) ff_Bk_18 (by omega) (by rw [uf_n _ _ (by omega), uf_s]) (Nat.le_of_ble_eq_true rfl) d_Bk_init_25 ?_
  show VE γ o 1 (k + 3) (uf (uf (uf (uf (uf (uf E k (aI o 20 (fun _ => 0))) a (.inr (0, [.ref (ads o (k)), .null, .null, .int 0]))) (k + 1) (aI o 20 (fun _ => 0))) a (.inr (0, [.ref (ads o (k)), .ref (ads o (k + 1)), .null, .int 0]))) (k + 2) (aI o 20 (fun _ => 0))) a (.inr (0, [.ref (ads o (k)), .ref (ads o (k + 1)), .ref (ads o (k + 2)), .int 0]))) 3 60 28 [(0, .ref (ads o (a)))] []
  refine v_end X hr hQ (by omega) rfl rfl rfl (fun i hi => ?_) d_Bk_init_28
  unfold eBk_init; simp only [uf]
  all_goals by_cases hk2 : i = k
  all_goals first | (have ha3 : ¬ k = a := (by omega); subst hk2; simp [ha3]; done) | (by_cases ha2 : i = a <;> first | (subst ha2; simp [hk2]; done) | (simp [ha2, hk2]; done))

def eDr_init (o : OM) (E : Nat → va_E) (a k : Nat) : Nat → va_E := E
theorem eDr_init_n {o : OM} {E : Nat → va_E} {a k i : Nat} (_ : i ≠ a) (_ : i < k) : eDr_init o E a k i = E i := rfl
set_option maxRecDepth 100000 in
theorem m_Dr_init (l : Launch) (o : OM) (a k : Nat) (E : Nat → va_E) (ha : a < k) (hE : E a = .inr (2, [.int 0])) : ConI l y_Dr_init c_Dr_init 1 1 20 0 0 o a k E (k) (eDr_init o E a k) := by
  refine ConI.mk (by decide) rfl (Nat.le_of_ble_eq_true rfl) (fun γ X hr hin hQ => ?_)
  refine v_aload_n X 0 d_Dr_init_0 rfl rfl ?_
  refine v_obj X wo_Dr (Nat.le_of_ble_eq_true rfl) (Nat.le_of_ble_eq_true rfl) (Nat.le_of_ble_eq_true rfl) d_Dr_init_1 ?_
  refine v_end X hr hQ (by omega) rfl rfl rfl (fun i hi => ?_) d_Dr_init_4
  unfold eDr_init; simp only [uf]
  all_goals by_cases hk2 : i = k
  all_goals first | (have ha3 : ¬ k = a := (by omega); subst hk2; simp [ha3]; done) | (by_cases ha2 : i = a <;> first | (subst ha2; simp [hk2]; done) | (simp [ha2, hk2]; done))

def eMo_init (o : OM) (E : Nat → va_E) (a k : Nat) : Nat → va_E := (uf (uf (uf (uf (uf (uf (uf (uf (uf (uf (uf (uf (uf (uf (uf (uf E k (aJ o 43 (uf (fun _ => 0) 1 281479271743489))) (k + 1) (aI o 40 (fun _ => 0))) (k + 2) (aJ o 860 (fun _ => 0))) (k + 3) (aI o 800 (fun _ => 0))) (k + 4) (aJ o 86 (fun _ => 0))) (k + 5) (aI o 80 (fun _ => 0))) (k + 6) (aI o 2 (fun _ => 0))) (k + 7) (aZ o 2 (fun _ => 0))) (k + 8) (aJ o 6 (fun _ => 0))) (k + 9) (aI o 6 (fun _ => 0))) (k + 10) (aI o 20 (fun _ => 0))) (k + 11) (aI o 20 (fun _ => 0))) (k + 12) (aI o 20 (fun _ => 0))) (k + 13) (aI o 40 (fun _ => 0))) (k + 14) (aI o 65 (fun _ => 0))) a (.inr (10, [.ref (ads o (k)), .ref (ads o (k + 1)), .int 0, .ref (ads o (k + 2)), .ref (ads o (k + 3)), .ref (ads o (k + 4)), .ref (ads o (k + 5)), .ref (ads o (k + 6)), .ref (ads o (k + 7)), .int 0, .int 0, .ref (ads o (k + 8)), .ref (ads o (k + 9)), .int 0, .ref (ads o (k + 10)), .ref (ads o (k + 11)), .ref (ads o (k + 12)), .ref (ads o (k + 13)), .ref (ads o (k + 14))])))
theorem eMo_init_n {o : OM} {E : Nat → va_E} {a k i : Nat} (h : i ≠ a) (hk : i < k) : eMo_init o E a k i = E i := by
  unfold eMo_init; rw [uf_n _ _ h, uf_n _ _ (by omega), uf_n _ _ (by omega), uf_n _ _ (by omega), uf_n _ _ (by omega), uf_n _ _ (by omega), uf_n _ _ (by omega), uf_n _ _ (by omega), uf_n _ _ (by omega), uf_n _ _ (by omega), uf_n _ _ (by omega), uf_n _ _ (by omega), uf_n _ _ (by omega), uf_n _ _ (by omega), uf_n _ _ (by omega), uf_n _ _ (by omega)]
theorem eMo_init_a {o : OM} {E : Nat → va_E} {a k : Nat} : eMo_init o E a k a = .inr (10, [.ref (ads o (k)), .ref (ads o (k + 1)), .int 0, .ref (ads o (k + 2)), .ref (ads o (k + 3)), .ref (ads o (k + 4)), .ref (ads o (k + 5)), .ref (ads o (k + 6)), .ref (ads o (k + 7)), .int 0, .int 0, .ref (ads o (k + 8)), .ref (ads o (k + 9)), .int 0, .ref (ads o (k + 10)), .ref (ads o (k + 11)), .ref (ads o (k + 12)), .ref (ads o (k + 13)), .ref (ads o (k + 14))]) := by
  unfold eMo_init; rw [uf_s]
set_option maxRecDepth 100000 in
theorem m_Mo_init (l : Launch) (o : OM) (a k : Nat) (E : Nat → va_E) (ha : a < k) (hE : E a = .inr (10, [.null, .null, .int 0, .null, .null, .null, .null, .null, .null, .int 0, .int 0, .null, .null, .int 0, .null, .null, .null, .null, .null])) : ConI l y_Mo_init c_Mo_init 1 1 20 15 2090 o a k E (k + 15) (eMo_init o E a k) := by
  refine ConI.mk (by decide) rfl (Nat.le_of_ble_eq_true rfl) (fun γ X hr hin hQ => ?_)
  refine v_aload_n X 0 d_Mo_init_0 rfl rfl ?_
  refine v_obj X wo_Mo (Nat.le_of_ble_eq_true rfl) (Nat.le_of_ble_eq_true rfl) (Nat.le_of_ble_eq_true rfl) d_Mo_init_1 ?_
  refine v_aload_n X 0 d_Mo_init_4 rfl rfl ?_
  refine v_bipush X (v := nI (43)) d_Mo_init_5 (by decide) ?_
  refine v_newJ X (m := 43) (by omega) (Nat.le_of_ble_eq_true rfl) (Nat.le_of_ble_eq_true rfl) (Nat.le_of_ble_eq_true rfl) d_Mo_init_7 ?_
  refine v_putF X hin (fs := [.null, .null, .int 0, .null, .null, .null, .null, .null, .null, .int 0, .int 0, .null, .null, .int 0, .null, .null, .null, .null, .null]) ff_Mo_7 (by omega) (by rw [uf_n _ _ (by omega)]; exact hE) (Nat.le_of_ble_eq_true rfl) d_Mo_init_9 ?_
  show VE γ o 1 (k + 1) (uf (uf E k (aJ o 43 (fun _ => 0))) a (.inr (10, [.ref (ads o (k)), .null, .int 0, .null, .null, .null, .null, .null, .null, .int 0, .int 0, .null, .null, .int 0, .null, .null, .null, .null, .null]))) 1 43 12 [(0, .ref (ads o (a)))] []
  refine v_aload_n X 0 d_Mo_init_12 rfl rfl ?_
  refine v_bipush X (v := nI (40)) d_Mo_init_13 (by decide) ?_
  refine v_newI X (m := 40) (by omega) (Nat.le_of_ble_eq_true rfl) (Nat.le_of_ble_eq_true rfl) (Nat.le_of_ble_eq_true rfl) d_Mo_init_15 ?_
  refine v_putF X hin (fs := [.ref (ads o (k)), .null, .int 0, .null, .null, .null, .null, .null, .null, .int 0, .int 0, .null, .null, .int 0, .null, .null, .null, .null, .null]) ff_Mo_13 (by omega) (by rw [uf_n _ _ (by omega), uf_s]) (Nat.le_of_ble_eq_true rfl) d_Mo_init_17 ?_
  show VE γ o 1 (k + 2) (uf (uf (uf (uf E k (aJ o 43 (fun _ => 0))) a (.inr (10, [.ref (ads o (k)), .null, .int 0, .null, .null, .null, .null, .null, .null, .int 0, .int 0, .null, .null, .int 0, .null, .null, .null, .null, .null]))) (k + 1) (aI o 40 (fun _ => 0))) a (.inr (10, [.ref (ads o (k)), .ref (ads o (k + 1)), .int 0, .null, .null, .null, .null, .null, .null, .int 0, .int 0, .null, .null, .int 0, .null, .null, .null, .null, .null]))) 2 83 20 [(0, .ref (ads o (a)))] []
  refine v_aload_n X 0 d_Mo_init_20 rfl rfl ?_
  refine v_sipush X (v := nI (860)) d_Mo_init_21 (by decide) ?_
  refine v_newJ X (m := 860) (by omega) (Nat.le_of_ble_eq_true rfl) (Nat.le_of_ble_eq_true rfl) (Nat.le_of_ble_eq_true rfl) d_Mo_init_24 ?_
  refine v_putF X hin (fs := [.ref (ads o (k)), .ref (ads o (k + 1)), .int 0, .null, .null, .null, .null, .null, .null, .int 0, .int 0, .null, .null, .int 0, .null, .null, .null, .null, .null]) ff_Mo_17 (by omega) (by rw [uf_n _ _ (by omega), uf_s]) (Nat.le_of_ble_eq_true rfl) d_Mo_init_26 ?_
  show VE γ o 1 (k + 3) (uf (uf (uf (uf (uf (uf E k (aJ o 43 (fun _ => 0))) a (.inr (10, [.ref (ads o (k)), .null, .int 0, .null, .null, .null, .null, .null, .null, .int 0, .int 0, .null, .null, .int 0, .null, .null, .null, .null, .null]))) (k + 1) (aI o 40 (fun _ => 0))) a (.inr (10, [.ref (ads o (k)), .ref (ads o (k + 1)), .int 0, .null, .null, .null, .null, .null, .null, .int 0, .int 0, .null, .null, .int 0, .null, .null, .null, .null, .null]))) (k + 2) (aJ o 860 (fun _ => 0))) a (.inr (10, [.ref (ads o (k)), .ref (ads o (k + 1)), .int 0, .ref (ads o (k + 2)), .null, .null, .null, .null, .null, .int 0, .int 0, .null, .null, .int 0, .null, .null, .null, .null, .null]))) 3 943 29 [(0, .ref (ads o (a)))] []
  refine v_aload_n X 0 d_Mo_init_29 rfl rfl ?_
  refine v_sipush X (v := nI (800)) d_Mo_init_30 (by decide) ?_
  refine v_newI X (m := 800) (by omega) (Nat.le_of_ble_eq_true rfl) (Nat.le_of_ble_eq_true rfl) (Nat.le_of_ble_eq_true rfl) d_Mo_init_33 ?_
  refine v_putF X hin (fs := [.ref (ads o (k)), .ref (ads o (k + 1)), .int 0, .ref (ads o (k + 2)), .null, .null, .null, .null, .null, .int 0, .int 0, .null, .null, .int 0, .null, .null, .null, .null, .null]) ff_Mo_20 (by omega) (by rw [uf_n _ _ (by omega), uf_s]) (Nat.le_of_ble_eq_true rfl) d_Mo_init_35 ?_
  show VE γ o 1 (k + 4) (uf (uf (uf (uf (uf (uf (uf (uf E k (aJ o 43 (fun _ => 0))) a (.inr (10, [.ref (ads o (k)), .null, .int 0, .null, .null, .null, .null, .null, .null, .int 0, .int 0, .null, .null, .int 0, .null, .null, .null, .null, .null]))) (k + 1) (aI o 40 (fun _ => 0))) a (.inr (10, [.ref (ads o (k)), .ref (ads o (k + 1)), .int 0, .null, .null, .null, .null, .null, .null, .int 0, .int 0, .null, .null, .int 0, .null, .null, .null, .null, .null]))) (k + 2) (aJ o 860 (fun _ => 0))) a (.inr (10, [.ref (ads o (k)), .ref (ads o (k + 1)), .int 0, .ref (ads o (k + 2)), .null, .null, .null, .null, .null, .int 0, .int 0, .null, .null, .int 0, .null, .null, .null, .null, .null]))) (k + 3) (aI o 800 (fun _ => 0))) a (.inr (10, [.ref (ads o (k)), .ref (ads o (k + 1)), .int 0, .ref (ads o (k + 2)), .ref (ads o (k + 3)), .null, .null, .null, .null, .int 0, .int 0, .null, .null, .int 0, .null, .null, .null, .null, .null]))) 4 1743 38 [(0, .ref (ads o (a)))] []
  refine v_aload_n X 0 d_Mo_init_38 rfl rfl ?_
  refine v_bipush X (v := nI (86)) d_Mo_init_39 (by decide) ?_
  refine v_newJ X (m := 86) (by omega) (Nat.le_of_ble_eq_true rfl) (Nat.le_of_ble_eq_true rfl) (Nat.le_of_ble_eq_true rfl) d_Mo_init_41 ?_
  refine v_putF X hin (fs := [.ref (ads o (k)), .ref (ads o (k + 1)), .int 0, .ref (ads o (k + 2)), .ref (ads o (k + 3)), .null, .null, .null, .null, .int 0, .int 0, .null, .null, .int 0, .null, .null, .null, .null, .null]) ff_Mo_23 (by omega) (by rw [uf_n _ _ (by omega), uf_s]) (Nat.le_of_ble_eq_true rfl) d_Mo_init_43 ?_
  show VE γ o 1 (k + 5) (uf (uf (uf (uf (uf (uf (uf (uf (uf (uf E k (aJ o 43 (fun _ => 0))) a (.inr (10, [.ref (ads o (k)), .null, .int 0, .null, .null, .null, .null, .null, .null, .int 0, .int 0, .null, .null, .int 0, .null, .null, .null, .null, .null]))) (k + 1) (aI o 40 (fun _ => 0))) a (.inr (10, [.ref (ads o (k)), .ref (ads o (k + 1)), .int 0, .null, .null, .null, .null, .null, .null, .int 0, .int 0, .null, .null, .int 0, .null, .null, .null, .null, .null]))) (k + 2) (aJ o 860 (fun _ => 0))) a (.inr (10, [.ref (ads o (k)), .ref (ads o (k + 1)), .int 0, .ref (ads o (k + 2)), .null, .null, .null, .null, .null, .int 0, .int 0, .null, .null, .int 0, .null, .null, .null, .null, .null]))) (k + 3) (aI o 800 (fun _ => 0))) a (.inr (10, [.ref (ads o (k)), .ref (ads o (k + 1)), .int 0, .ref (ads o (k + 2)), .ref (ads o (k + 3)), .null, .null, .null, .null, .int 0, .int 0, .null, .null, .int 0, .null, .null, .null, .null, .null]))) (k + 4) (aJ o 86 (fun _ => 0))) a (.inr (10, [.ref (ads o (k)), .ref (ads o (k + 1)), .int 0, .ref (ads o (k + 2)), .ref (ads o (k + 3)), .ref (ads o (k + 4)), .null, .null, .null, .int 0, .int 0, .null, .null, .int 0, .null, .null, .null, .null, .null]))) 5 1829 46 [(0, .ref (ads o (a)))] []
  refine v_aload_n X 0 d_Mo_init_46 rfl rfl ?_
  refine v_bipush X (v := nI (80)) d_Mo_init_47 (by decide) ?_
  refine v_newI X (m := 80) (by omega) (Nat.le_of_ble_eq_true rfl) (Nat.le_of_ble_eq_true rfl) (Nat.le_of_ble_eq_true rfl) d_Mo_init_49 ?_
  refine v_putF X hin (fs := [.ref (ads o (k)), .ref (ads o (k + 1)), .int 0, .ref (ads o (k + 2)), .ref (ads o (k + 3)), .ref (ads o (k + 4)), .null, .null, .null, .int 0, .int 0, .null, .null, .int 0, .null, .null, .null, .null, .null]) ff_Mo_26 (by omega) (by rw [uf_n _ _ (by omega), uf_s]) (Nat.le_of_ble_eq_true rfl) d_Mo_init_51 ?_
  show VE γ o 1 (k + 6) (uf (uf (uf (uf (uf (uf (uf (uf (uf (uf (uf (uf E k (aJ o 43 (fun _ => 0))) a (.inr (10, [.ref (ads o (k)), .null, .int 0, .null, .null, .null, .null, .null, .null, .int 0, .int 0, .null, .null, .int 0, .null, .null, .null, .null, .null]))) (k + 1) (aI o 40 (fun _ => 0))) a (.inr (10, [.ref (ads o (k)), .ref (ads o (k + 1)), .int 0, .null, .null, .null, .null, .null, .null, .int 0, .int 0, .null, .null, .int 0, .null, .null, .null, .null, .null]))) (k + 2) (aJ o 860 (fun _ => 0))) a (.inr (10, [.ref (ads o (k)), .ref (ads o (k + 1)), .int 0, .ref (ads o (k + 2)), .null, .null, .null, .null, .null, .int 0, .int 0, .null, .null, .int 0, .null, .null, .null, .null, .null]))) (k + 3) (aI o 800 (fun _ => 0))) a (.inr (10, [.ref (ads o (k)), .ref (ads o (k + 1)), .int 0, .ref (ads o (k + 2)), .ref (ads o (k + 3)), .null, .null, .null, .null, .int 0, .int 0, .null, .null, .int 0, .null, .null, .null, .null, .null]))) (k + 4) (aJ o 86 (fun _ => 0))) a (.inr (10, [.ref (ads o (k)), .ref (ads o (k + 1)), .int 0, .ref (ads o (k + 2)), .ref (ads o (k + 3)), .ref (ads o (k + 4)), .null, .null, .null, .int 0, .int 0, .null, .null, .int 0, .null, .null, .null, .null, .null]))) (k + 5) (aI o 80 (fun _ => 0))) a (.inr (10, [.ref (ads o (k)), .ref (ads o (k + 1)), .int 0, .ref (ads o (k + 2)), .ref (ads o (k + 3)), .ref (ads o (k + 4)), .ref (ads o (k + 5)), .null, .null, .int 0, .int 0, .null, .null, .int 0, .null, .null, .null, .null, .null]))) 6 1909 54 [(0, .ref (ads o (a)))] []
  refine v_aload_n X 0 d_Mo_init_54 rfl rfl ?_
  refine v_iconst X (v := nI (2)) d_Mo_init_55 (by decide) ?_
  refine v_newI X (m := 2) (by omega) (Nat.le_of_ble_eq_true rfl) (Nat.le_of_ble_eq_true rfl) (Nat.le_of_ble_eq_true rfl) d_Mo_init_56 ?_
  refine v_putF X hin (fs := [.ref (ads o (k)), .ref (ads o (k + 1)), .int 0, .ref (ads o (k + 2)), .ref (ads o (k + 3)), .ref (ads o (k + 4)), .ref (ads o (k + 5)), .null, .null, .int 0, .int 0, .null, .null, .int 0, .null, .null, .null, .null, .null]) ff_Mo_29 (by omega) (by rw [uf_n _ _ (by omega), uf_s]) (Nat.le_of_ble_eq_true rfl) d_Mo_init_58 ?_
  show VE γ o 1 (k + 7) (uf (uf (uf (uf (uf (uf (uf (uf (uf (uf (uf (uf (uf (uf E k (aJ o 43 (fun _ => 0))) a (.inr (10, [.ref (ads o (k)), .null, .int 0, .null, .null, .null, .null, .null, .null, .int 0, .int 0, .null, .null, .int 0, .null, .null, .null, .null, .null]))) (k + 1) (aI o 40 (fun _ => 0))) a (.inr (10, [.ref (ads o (k)), .ref (ads o (k + 1)), .int 0, .null, .null, .null, .null, .null, .null, .int 0, .int 0, .null, .null, .int 0, .null, .null, .null, .null, .null]))) (k + 2) (aJ o 860 (fun _ => 0))) a (.inr (10, [.ref (ads o (k)), .ref (ads o (k + 1)), .int 0, .ref (ads o (k + 2)), .null, .null, .null, .null, .null, .int 0, .int 0, .null, .null, .int 0, .null, .null, .null, .null, .null]))) (k + 3) (aI o 800 (fun _ => 0))) a (.inr (10, [.ref (ads o (k)), .ref (ads o (k + 1)), .int 0, .ref (ads o (k + 2)), .ref (ads o (k + 3)), .null, .null, .null, .null, .int 0, .int 0, .null, .null, .int 0, .null, .null, .null, .null, .null]))) (k + 4) (aJ o 86 (fun _ => 0))) a (.inr (10, [.ref (ads o (k)), .ref (ads o (k + 1)), .int 0, .ref (ads o (k + 2)), .ref (ads o (k + 3)), .ref (ads o (k + 4)), .null, .null, .null, .int 0, .int 0, .null, .null, .int 0, .null, .null, .null, .null, .null]))) (k + 5) (aI o 80 (fun _ => 0))) a (.inr (10, [.ref (ads o (k)), .ref (ads o (k + 1)), .int 0, .ref (ads o (k + 2)), .ref (ads o (k + 3)), .ref (ads o (k + 4)), .ref (ads o (k + 5)), .null, .null, .int 0, .int 0, .null, .null, .int 0, .null, .null, .null, .null, .null]))) (k + 6) (aI o 2 (fun _ => 0))) a (.inr (10, [.ref (ads o (k)), .ref (ads o (k + 1)), .int 0, .ref (ads o (k + 2)), .ref (ads o (k + 3)), .ref (ads o (k + 4)), .ref (ads o (k + 5)), .ref (ads o (k + 6)), .null, .int 0, .int 0, .null, .null, .int 0, .null, .null, .null, .null, .null]))) 7 1911 61 [(0, .ref (ads o (a)))] []
  refine v_aload_n X 0 d_Mo_init_61 rfl rfl ?_
  refine v_iconst X (v := nI (2)) d_Mo_init_62 (by decide) ?_
  refine v_newZ X (m := 2) (by omega) (Nat.le_of_ble_eq_true rfl) (Nat.le_of_ble_eq_true rfl) (Nat.le_of_ble_eq_true rfl) d_Mo_init_63 ?_
  refine v_putF X hin (fs := [.ref (ads o (k)), .ref (ads o (k + 1)), .int 0, .ref (ads o (k + 2)), .ref (ads o (k + 3)), .ref (ads o (k + 4)), .ref (ads o (k + 5)), .ref (ads o (k + 6)), .null, .int 0, .int 0, .null, .null, .int 0, .null, .null, .null, .null, .null]) ff_Mo_32 (by omega) (by rw [uf_n _ _ (by omega), uf_s]) (Nat.le_of_ble_eq_true rfl) d_Mo_init_65 ?_
  show VE γ o 1 (k + 8) (uf (uf (uf (uf (uf (uf (uf (uf (uf (uf (uf (uf (uf (uf (uf (uf E k (aJ o 43 (fun _ => 0))) a (.inr (10, [.ref (ads o (k)), .null, .int 0, .null, .null, .null, .null, .null, .null, .int 0, .int 0, .null, .null, .int 0, .null, .null, .null, .null, .null]))) (k + 1) (aI o 40 (fun _ => 0))) a (.inr (10, [.ref (ads o (k)), .ref (ads o (k + 1)), .int 0, .null, .null, .null, .null, .null, .null, .int 0, .int 0, .null, .null, .int 0, .null, .null, .null, .null, .null]))) (k + 2) (aJ o 860 (fun _ => 0))) a (.inr (10, [.ref (ads o (k)), .ref (ads o (k + 1)), .int 0, .ref (ads o (k + 2)), .null, .null, .null, .null, .null, .int 0, .int 0, .null, .null, .int 0, .null, .null, .null, .null, .null]))) (k + 3) (aI o 800 (fun _ => 0))) a (.inr (10, [.ref (ads o (k)), .ref (ads o (k + 1)), .int 0, .ref (ads o (k + 2)), .ref (ads o (k + 3)), .null, .null, .null, .null, .int 0, .int 0, .null, .null, .int 0, .null, .null, .null, .null, .null]))) (k + 4) (aJ o 86 (fun _ => 0))) a (.inr (10, [.ref (ads o (k)), .ref (ads o (k + 1)), .int 0, .ref (ads o (k + 2)), .ref (ads o (k + 3)), .ref (ads o (k + 4)), .null, .null, .null, .int 0, .int 0, .null, .null, .int 0, .null, .null, .null, .null, .null]))) (k + 5) (aI o 80 (fun _ => 0))) a (.inr (10, [.ref (ads o (k)), .ref (ads o (k + 1)), .int 0, .ref (ads o (k + 2)), .ref (ads o (k + 3)), .ref (ads o (k + 4)), .ref (ads o (k + 5)), .null, .null, .int 0, .int 0, .null, .null, .int 0, .null, .null, .null, .null, .null]))) (k + 6) (aI o 2 (fun _ => 0))) a (.inr (10, [.ref (ads o (k)), .ref (ads o (k + 1)), .int 0, .ref (ads o (k + 2)), .ref (ads o (k + 3)), .ref (ads o (k + 4)), .ref (ads o (k + 5)), .ref (ads o (k + 6)), .null, .int 0, .int 0, .null, .null, .int 0, .null, .null, .null, .null, .null]))) (k + 7) (aZ o 2 (fun _ => 0))) a (.inr (10, [.ref (ads o (k)), .ref (ads o (k + 1)), .int 0, .ref (ads o (k + 2)), .ref (ads o (k + 3)), .ref (ads o (k + 4)), .ref (ads o (k + 5)), .ref (ads o (k + 6)), .ref (ads o (k + 7)), .int 0, .int 0, .null, .null, .int 0, .null, .null, .null, .null, .null]))) 8 1913 68 [(0, .ref (ads o (a)))] []
  refine v_aload_n X 0 d_Mo_init_68 rfl rfl ?_
  refine v_bipush X (v := nI (6)) d_Mo_init_69 (by decide) ?_
  refine v_newJ X (m := 6) (by omega) (Nat.le_of_ble_eq_true rfl) (Nat.le_of_ble_eq_true rfl) (Nat.le_of_ble_eq_true rfl) d_Mo_init_71 ?_
  refine v_putF X hin (fs := [.ref (ads o (k)), .ref (ads o (k + 1)), .int 0, .ref (ads o (k + 2)), .ref (ads o (k + 3)), .ref (ads o (k + 4)), .ref (ads o (k + 5)), .ref (ads o (k + 6)), .ref (ads o (k + 7)), .int 0, .int 0, .null, .null, .int 0, .null, .null, .null, .null, .null]) ff_Mo_36 (by omega) (by rw [uf_n _ _ (by omega), uf_s]) (Nat.le_of_ble_eq_true rfl) d_Mo_init_73 ?_
  show VE γ o 1 (k + 9) (uf (uf (uf (uf (uf (uf (uf (uf (uf (uf (uf (uf (uf (uf (uf (uf (uf (uf E k (aJ o 43 (fun _ => 0))) a (.inr (10, [.ref (ads o (k)), .null, .int 0, .null, .null, .null, .null, .null, .null, .int 0, .int 0, .null, .null, .int 0, .null, .null, .null, .null, .null]))) (k + 1) (aI o 40 (fun _ => 0))) a (.inr (10, [.ref (ads o (k)), .ref (ads o (k + 1)), .int 0, .null, .null, .null, .null, .null, .null, .int 0, .int 0, .null, .null, .int 0, .null, .null, .null, .null, .null]))) (k + 2) (aJ o 860 (fun _ => 0))) a (.inr (10, [.ref (ads o (k)), .ref (ads o (k + 1)), .int 0, .ref (ads o (k + 2)), .null, .null, .null, .null, .null, .int 0, .int 0, .null, .null, .int 0, .null, .null, .null, .null, .null]))) (k + 3) (aI o 800 (fun _ => 0))) a (.inr (10, [.ref (ads o (k)), .ref (ads o (k + 1)), .int 0, .ref (ads o (k + 2)), .ref (ads o (k + 3)), .null, .null, .null, .null, .int 0, .int 0, .null, .null, .int 0, .null, .null, .null, .null, .null]))) (k + 4) (aJ o 86 (fun _ => 0))) a (.inr (10, [.ref (ads o (k)), .ref (ads o (k + 1)), .int 0, .ref (ads o (k + 2)), .ref (ads o (k + 3)), .ref (ads o (k + 4)), .null, .null, .null, .int 0, .int 0, .null, .null, .int 0, .null, .null, .null, .null, .null]))) (k + 5) (aI o 80 (fun _ => 0))) a (.inr (10, [.ref (ads o (k)), .ref (ads o (k + 1)), .int 0, .ref (ads o (k + 2)), .ref (ads o (k + 3)), .ref (ads o (k + 4)), .ref (ads o (k + 5)), .null, .null, .int 0, .int 0, .null, .null, .int 0, .null, .null, .null, .null, .null]))) (k + 6) (aI o 2 (fun _ => 0))) a (.inr (10, [.ref (ads o (k)), .ref (ads o (k + 1)), .int 0, .ref (ads o (k + 2)), .ref (ads o (k + 3)), .ref (ads o (k + 4)), .ref (ads o (k + 5)), .ref (ads o (k + 6)), .null, .int 0, .int 0, .null, .null, .int 0, .null, .null, .null, .null, .null]))) (k + 7) (aZ o 2 (fun _ => 0))) a (.inr (10, [.ref (ads o (k)), .ref (ads o (k + 1)), .int 0, .ref (ads o (k + 2)), .ref (ads o (k + 3)), .ref (ads o (k + 4)), .ref (ads o (k + 5)), .ref (ads o (k + 6)), .ref (ads o (k + 7)), .int 0, .int 0, .null, .null, .int 0, .null, .null, .null, .null, .null]))) (k + 8) (aJ o 6 (fun _ => 0))) a (.inr (10, [.ref (ads o (k)), .ref (ads o (k + 1)), .int 0, .ref (ads o (k + 2)), .ref (ads o (k + 3)), .ref (ads o (k + 4)), .ref (ads o (k + 5)), .ref (ads o (k + 6)), .ref (ads o (k + 7)), .int 0, .int 0, .ref (ads o (k + 8)), .null, .int 0, .null, .null, .null, .null, .null]))) 9 1919 76 [(0, .ref (ads o (a)))] []
  refine v_aload_n X 0 d_Mo_init_76 rfl rfl ?_
  refine v_bipush X (v := nI (6)) d_Mo_init_77 (by decide) ?_
  refine v_newI X (m := 6) (by omega) (Nat.le_of_ble_eq_true rfl) (Nat.le_of_ble_eq_true rfl) (Nat.le_of_ble_eq_true rfl) d_Mo_init_79 ?_
  refine v_putF X hin (fs := [.ref (ads o (k)), .ref (ads o (k + 1)), .int 0, .ref (ads o (k + 2)), .ref (ads o (k + 3)), .ref (ads o (k + 4)), .ref (ads o (k + 5)), .ref (ads o (k + 6)), .ref (ads o (k + 7)), .int 0, .int 0, .ref (ads o (k + 8)), .null, .int 0, .null, .null, .null, .null, .null]) ff_Mo_39 (by omega) (by rw [uf_n _ _ (by omega), uf_s]) (Nat.le_of_ble_eq_true rfl) d_Mo_init_81 ?_
  show VE γ o 1 (k + 10) (uf (uf (uf (uf (uf (uf (uf (uf (uf (uf (uf (uf (uf (uf (uf (uf (uf (uf (uf (uf E k (aJ o 43 (fun _ => 0))) a (.inr (10, [.ref (ads o (k)), .null, .int 0, .null, .null, .null, .null, .null, .null, .int 0, .int 0, .null, .null, .int 0, .null, .null, .null, .null, .null]))) (k + 1) (aI o 40 (fun _ => 0))) a (.inr (10, [.ref (ads o (k)), .ref (ads o (k + 1)), .int 0, .null, .null, .null, .null, .null, .null, .int 0, .int 0, .null, .null, .int 0, .null, .null, .null, .null, .null]))) (k + 2) (aJ o 860 (fun _ => 0))) a (.inr (10, [.ref (ads o (k)), .ref (ads o (k + 1)), .int 0, .ref (ads o (k + 2)), .null, .null, .null, .null, .null, .int 0, .int 0, .null, .null, .int 0, .null, .null, .null, .null, .null]))) (k + 3) (aI o 800 (fun _ => 0))) a (.inr (10, [.ref (ads o (k)), .ref (ads o (k + 1)), .int 0, .ref (ads o (k + 2)), .ref (ads o (k + 3)), .null, .null, .null, .null, .int 0, .int 0, .null, .null, .int 0, .null, .null, .null, .null, .null]))) (k + 4) (aJ o 86 (fun _ => 0))) a (.inr (10, [.ref (ads o (k)), .ref (ads o (k + 1)), .int 0, .ref (ads o (k + 2)), .ref (ads o (k + 3)), .ref (ads o (k + 4)), .null, .null, .null, .int 0, .int 0, .null, .null, .int 0, .null, .null, .null, .null, .null]))) (k + 5) (aI o 80 (fun _ => 0))) a (.inr (10, [.ref (ads o (k)), .ref (ads o (k + 1)), .int 0, .ref (ads o (k + 2)), .ref (ads o (k + 3)), .ref (ads o (k + 4)), .ref (ads o (k + 5)), .null, .null, .int 0, .int 0, .null, .null, .int 0, .null, .null, .null, .null, .null]))) (k + 6) (aI o 2 (fun _ => 0))) a (.inr (10, [.ref (ads o (k)), .ref (ads o (k + 1)), .int 0, .ref (ads o (k + 2)), .ref (ads o (k + 3)), .ref (ads o (k + 4)), .ref (ads o (k + 5)), .ref (ads o (k + 6)), .null, .int 0, .int 0, .null, .null, .int 0, .null, .null, .null, .null, .null]))) (k + 7) (aZ o 2 (fun _ => 0))) a (.inr (10, [.ref (ads o (k)), .ref (ads o (k + 1)), .int 0, .ref (ads o (k + 2)), .ref (ads o (k + 3)), .ref (ads o (k + 4)), .ref (ads o (k + 5)), .ref (ads o (k + 6)), .ref (ads o (k + 7)), .int 0, .int 0, .null, .null, .int 0, .null, .null, .null, .null, .null]))) (k + 8) (aJ o 6 (fun _ => 0))) a (.inr (10, [.ref (ads o (k)), .ref (ads o (k + 1)), .int 0, .ref (ads o (k + 2)), .ref (ads o (k + 3)), .ref (ads o (k + 4)), .ref (ads o (k + 5)), .ref (ads o (k + 6)), .ref (ads o (k + 7)), .int 0, .int 0, .ref (ads o (k + 8)), .null, .int 0, .null, .null, .null, .null, .null]))) (k + 9) (aI o 6 (fun _ => 0))) a (.inr (10, [.ref (ads o (k)), .ref (ads o (k + 1)), .int 0, .ref (ads o (k + 2)), .ref (ads o (k + 3)), .ref (ads o (k + 4)), .ref (ads o (k + 5)), .ref (ads o (k + 6)), .ref (ads o (k + 7)), .int 0, .int 0, .ref (ads o (k + 8)), .ref (ads o (k + 9)), .int 0, .null, .null, .null, .null, .null]))) 10 1925 84 [(0, .ref (ads o (a)))] []
  refine v_aload_n X 0 d_Mo_init_84 rfl rfl ?_
  refine v_bipush X (v := nI (20)) d_Mo_init_85 (by decide) ?_
  refine v_newI X (m := 20) (by omega) (Nat.le_of_ble_eq_true rfl) (Nat.le_of_ble_eq_true rfl) (Nat.le_of_ble_eq_true rfl) d_Mo_init_87 ?_
  refine v_putF X hin (fs := [.ref (ads o (k)), .ref (ads o (k + 1)), .int 0, .ref (ads o (k + 2)), .ref (ads o (k + 3)), .ref (ads o (k + 4)), .ref (ads o (k + 5)), .ref (ads o (k + 6)), .ref (ads o (k + 7)), .int 0, .int 0, .ref (ads o (k + 8)), .ref (ads o (k + 9)), .int 0, .null, .null, .null, .null, .null]) ff_Mo_42 (by omega) (by rw [uf_n _ _ (by omega), uf_s]) (Nat.le_of_ble_eq_true rfl) d_Mo_init_89 ?_
  show VE γ o 1 (k + 11) (uf (uf (uf (uf (uf (uf (uf (uf (uf (uf (uf (uf (uf (uf (uf (uf (uf (uf (uf (uf (uf (uf E k (aJ o 43 (fun _ => 0))) a (.inr (10, [.ref (ads o (k)), .null, .int 0, .null, .null, .null, .null, .null, .null, .int 0, .int 0, .null, .null, .int 0, .null, .null, .null, .null, .null]))) (k + 1) (aI o 40 (fun _ => 0))) a (.inr (10, [.ref (ads o (k)), .ref (ads o (k + 1)), .int 0, .null, .null, .null, .null, .null, .null, .int 0, .int 0, .null, .null, .int 0, .null, .null, .null, .null, .null]))) (k + 2) (aJ o 860 (fun _ => 0))) a (.inr (10, [.ref (ads o (k)), .ref (ads o (k + 1)), .int 0, .ref (ads o (k + 2)), .null, .null, .null, .null, .null, .int 0, .int 0, .null, .null, .int 0, .null, .null, .null, .null, .null]))) (k + 3) (aI o 800 (fun _ => 0))) a (.inr (10, [.ref (ads o (k)), .ref (ads o (k + 1)), .int 0, .ref (ads o (k + 2)), .ref (ads o (k + 3)), .null, .null, .null, .null, .int 0, .int 0, .null, .null, .int 0, .null, .null, .null, .null, .null]))) (k + 4) (aJ o 86 (fun _ => 0))) a (.inr (10, [.ref (ads o (k)), .ref (ads o (k + 1)), .int 0, .ref (ads o (k + 2)), .ref (ads o (k + 3)), .ref (ads o (k + 4)), .null, .null, .null, .int 0, .int 0, .null, .null, .int 0, .null, .null, .null, .null, .null]))) (k + 5) (aI o 80 (fun _ => 0))) a (.inr (10, [.ref (ads o (k)), .ref (ads o (k + 1)), .int 0, .ref (ads o (k + 2)), .ref (ads o (k + 3)), .ref (ads o (k + 4)), .ref (ads o (k + 5)), .null, .null, .int 0, .int 0, .null, .null, .int 0, .null, .null, .null, .null, .null]))) (k + 6) (aI o 2 (fun _ => 0))) a (.inr (10, [.ref (ads o (k)), .ref (ads o (k + 1)), .int 0, .ref (ads o (k + 2)), .ref (ads o (k + 3)), .ref (ads o (k + 4)), .ref (ads o (k + 5)), .ref (ads o (k + 6)), .null, .int 0, .int 0, .null, .null, .int 0, .null, .null, .null, .null, .null]))) (k + 7) (aZ o 2 (fun _ => 0))) a (.inr (10, [.ref (ads o (k)), .ref (ads o (k + 1)), .int 0, .ref (ads o (k + 2)), .ref (ads o (k + 3)), .ref (ads o (k + 4)), .ref (ads o (k + 5)), .ref (ads o (k + 6)), .ref (ads o (k + 7)), .int 0, .int 0, .null, .null, .int 0, .null, .null, .null, .null, .null]))) (k + 8) (aJ o 6 (fun _ => 0))) a (.inr (10, [.ref (ads o (k)), .ref (ads o (k + 1)), .int 0, .ref (ads o (k + 2)), .ref (ads o (k + 3)), .ref (ads o (k + 4)), .ref (ads o (k + 5)), .ref (ads o (k + 6)), .ref (ads o (k + 7)), .int 0, .int 0, .ref (ads o (k + 8)), .null, .int 0, .null, .null, .null, .null, .null]))) (k + 9) (aI o 6 (fun _ => 0))) a (.inr (10, [.ref (ads o (k)), .ref (ads o (k + 1)), .int 0, .ref (ads o (k + 2)), .ref (ads o (k + 3)), .ref (ads o (k + 4)), .ref (ads o (k + 5)), .ref (ads o (k + 6)), .ref (ads o (k + 7)), .int 0, .int 0, .ref (ads o (k + 8)), .ref (ads o (k + 9)), .int 0, .null, .null, .null, .null, .null]))) (k + 10) (aI o 20 (fun _ => 0))) a (.inr (10, [.ref (ads o (k)), .ref (ads o (k + 1)), .int 0, .ref (ads o (k + 2)), .ref (ads o (k + 3)), .ref (ads o (k + 4)), .ref (ads o (k + 5)), .ref (ads o (k + 6)), .ref (ads o (k + 7)), .int 0, .int 0, .ref (ads o (k + 8)), .ref (ads o (k + 9)), .int 0, .ref (ads o (k + 10)), .null, .null, .null, .null]))) 11 1945 92 [(0, .ref (ads o (a)))] []
  refine v_aload_n X 0 d_Mo_init_92 rfl rfl ?_
  refine v_bipush X (v := nI (20)) d_Mo_init_93 (by decide) ?_
  refine v_newI X (m := 20) (by omega) (Nat.le_of_ble_eq_true rfl) (Nat.le_of_ble_eq_true rfl) (Nat.le_of_ble_eq_true rfl) d_Mo_init_95 ?_
  refine v_putF X hin (fs := [.ref (ads o (k)), .ref (ads o (k + 1)), .int 0, .ref (ads o (k + 2)), .ref (ads o (k + 3)), .ref (ads o (k + 4)), .ref (ads o (k + 5)), .ref (ads o (k + 6)), .ref (ads o (k + 7)), .int 0, .int 0, .ref (ads o (k + 8)), .ref (ads o (k + 9)), .int 0, .ref (ads o (k + 10)), .null, .null, .null, .null]) ff_Mo_45 (by omega) (by rw [uf_n _ _ (by omega), uf_s]) (Nat.le_of_ble_eq_true rfl) d_Mo_init_97 ?_
  show VE γ o 1 (k + 12) (uf (uf (uf (uf (uf (uf (uf (uf (uf (uf (uf (uf (uf (uf (uf (uf (uf (uf (uf (uf (uf (uf (uf (uf E k (aJ o 43 (fun _ => 0))) a (.inr (10, [.ref (ads o (k)), .null, .int 0, .null, .null, .null, .null, .null, .null, .int 0, .int 0, .null, .null, .int 0, .null, .null, .null, .null, .null]))) (k + 1) (aI o 40 (fun _ => 0))) a (.inr (10, [.ref (ads o (k)), .ref (ads o (k + 1)), .int 0, .null, .null, .null, .null, .null, .null, .int 0, .int 0, .null, .null, .int 0, .null, .null, .null, .null, .null]))) (k + 2) (aJ o 860 (fun _ => 0))) a (.inr (10, [.ref (ads o (k)), .ref (ads o (k + 1)), .int 0, .ref (ads o (k + 2)), .null, .null, .null, .null, .null, .int 0, .int 0, .null, .null, .int 0, .null, .null, .null, .null, .null]))) (k + 3) (aI o 800 (fun _ => 0))) a (.inr (10, [.ref (ads o (k)), .ref (ads o (k + 1)), .int 0, .ref (ads o (k + 2)), .ref (ads o (k + 3)), .null, .null, .null, .null, .int 0, .int 0, .null, .null, .int 0, .null, .null, .null, .null, .null]))) (k + 4) (aJ o 86 (fun _ => 0))) a (.inr (10, [.ref (ads o (k)), .ref (ads o (k + 1)), .int 0, .ref (ads o (k + 2)), .ref (ads o (k + 3)), .ref (ads o (k + 4)), .null, .null, .null, .int 0, .int 0, .null, .null, .int 0, .null, .null, .null, .null, .null]))) (k + 5) (aI o 80 (fun _ => 0))) a (.inr (10, [.ref (ads o (k)), .ref (ads o (k + 1)), .int 0, .ref (ads o (k + 2)), .ref (ads o (k + 3)), .ref (ads o (k + 4)), .ref (ads o (k + 5)), .null, .null, .int 0, .int 0, .null, .null, .int 0, .null, .null, .null, .null, .null]))) (k + 6) (aI o 2 (fun _ => 0))) a (.inr (10, [.ref (ads o (k)), .ref (ads o (k + 1)), .int 0, .ref (ads o (k + 2)), .ref (ads o (k + 3)), .ref (ads o (k + 4)), .ref (ads o (k + 5)), .ref (ads o (k + 6)), .null, .int 0, .int 0, .null, .null, .int 0, .null, .null, .null, .null, .null]))) (k + 7) (aZ o 2 (fun _ => 0))) a (.inr (10, [.ref (ads o (k)), .ref (ads o (k + 1)), .int 0, .ref (ads o (k + 2)), .ref (ads o (k + 3)), .ref (ads o (k + 4)), .ref (ads o (k + 5)), .ref (ads o (k + 6)), .ref (ads o (k + 7)), .int 0, .int 0, .null, .null, .int 0, .null, .null, .null, .null, .null]))) (k + 8) (aJ o 6 (fun _ => 0))) a (.inr (10, [.ref (ads o (k)), .ref (ads o (k + 1)), .int 0, .ref (ads o (k + 2)), .ref (ads o (k + 3)), .ref (ads o (k + 4)), .ref (ads o (k + 5)), .ref (ads o (k + 6)), .ref (ads o (k + 7)), .int 0, .int 0, .ref (ads o (k + 8)), .null, .int 0, .null, .null, .null, .null, .null]))) (k + 9) (aI o 6 (fun _ => 0))) a (.inr (10, [.ref (ads o (k)), .ref (ads o (k + 1)), .int 0, .ref (ads o (k + 2)), .ref (ads o (k + 3)), .ref (ads o (k + 4)), .ref (ads o (k + 5)), .ref (ads o (k + 6)), .ref (ads o (k + 7)), .int 0, .int 0, .ref (ads o (k + 8)), .ref (ads o (k + 9)), .int 0, .null, .null, .null, .null, .null]))) (k + 10) (aI o 20 (fun _ => 0))) a (.inr (10, [.ref (ads o (k)), .ref (ads o (k + 1)), .int 0, .ref (ads o (k + 2)), .ref (ads o (k + 3)), .ref (ads o (k + 4)), .ref (ads o (k + 5)), .ref (ads o (k + 6)), .ref (ads o (k + 7)), .int 0, .int 0, .ref (ads o (k + 8)), .ref (ads o (k + 9)), .int 0, .ref (ads o (k + 10)), .null, .null, .null, .null]))) (k + 11) (aI o 20 (fun _ => 0))) a (.inr (10, [.ref (ads o (k)), .ref (ads o (k + 1)), .int 0, .ref (ads o (k + 2)), .ref (ads o (k + 3)), .ref (ads o (k + 4)), .ref (ads o (k + 5)), .ref (ads o (k + 6)), .ref (ads o (k + 7)), .int 0, .int 0, .ref (ads o (k + 8)), .ref (ads o (k + 9)), .int 0, .ref (ads o (k + 10)), .ref (ads o (k + 11)), .null, .null, .null]))) 12 1965 100 [(0, .ref (ads o (a)))] []
  refine v_aload_n X 0 d_Mo_init_100 rfl rfl ?_
  refine v_bipush X (v := nI (20)) d_Mo_init_101 (by decide) ?_
  refine v_newI X (m := 20) (by omega) (Nat.le_of_ble_eq_true rfl) (Nat.le_of_ble_eq_true rfl) (Nat.le_of_ble_eq_true rfl) d_Mo_init_103 ?_
  refine v_putF X hin (fs := [.ref (ads o (k)), .ref (ads o (k + 1)), .int 0, .ref (ads o (k + 2)), .ref (ads o (k + 3)), .ref (ads o (k + 4)), .ref (ads o (k + 5)), .ref (ads o (k + 6)), .ref (ads o (k + 7)), .int 0, .int 0, .ref (ads o (k + 8)), .ref (ads o (k + 9)), .int 0, .ref (ads o (k + 10)), .ref (ads o (k + 11)), .null, .null, .null]) ff_Mo_48 (by omega) (by rw [uf_n _ _ (by omega), uf_s]) (Nat.le_of_ble_eq_true rfl) d_Mo_init_105 ?_
  show VE γ o 1 (k + 13) (uf (uf (uf (uf (uf (uf (uf (uf (uf (uf (uf (uf (uf (uf (uf (uf (uf (uf (uf (uf (uf (uf (uf (uf (uf (uf E k (aJ o 43 (fun _ => 0))) a (.inr (10, [.ref (ads o (k)), .null, .int 0, .null, .null, .null, .null, .null, .null, .int 0, .int 0, .null, .null, .int 0, .null, .null, .null, .null, .null]))) (k + 1) (aI o 40 (fun _ => 0))) a (.inr (10, [.ref (ads o (k)), .ref (ads o (k + 1)), .int 0, .null, .null, .null, .null, .null, .null, .int 0, .int 0, .null, .null, .int 0, .null, .null, .null, .null, .null]))) (k + 2) (aJ o 860 (fun _ => 0))) a (.inr (10, [.ref (ads o (k)), .ref (ads o (k + 1)), .int 0, .ref (ads o (k + 2)), .null, .null, .null, .null, .null, .int 0, .int 0, .null, .null, .int 0, .null, .null, .null, .null, .null]))) (k + 3) (aI o 800 (fun _ => 0))) a (.inr (10, [.ref (ads o (k)), .ref (ads o (k + 1)), .int 0, .ref (ads o (k + 2)), .ref (ads o (k + 3)), .null, .null, .null, .null, .int 0, .int 0, .null, .null, .int 0, .null, .null, .null, .null, .null]))) (k + 4) (aJ o 86 (fun _ => 0))) a (.inr (10, [.ref (ads o (k)), .ref (ads o (k + 1)), .int 0, .ref (ads o (k + 2)), .ref (ads o (k + 3)), .ref (ads o (k + 4)), .null, .null, .null, .int 0, .int 0, .null, .null, .int 0, .null, .null, .null, .null, .null]))) (k + 5) (aI o 80 (fun _ => 0))) a (.inr (10, [.ref (ads o (k)), .ref (ads o (k + 1)), .int 0, .ref (ads o (k + 2)), .ref (ads o (k + 3)), .ref (ads o (k + 4)), .ref (ads o (k + 5)), .null, .null, .int 0, .int 0, .null, .null, .int 0, .null, .null, .null, .null, .null]))) (k + 6) (aI o 2 (fun _ => 0))) a (.inr (10, [.ref (ads o (k)), .ref (ads o (k + 1)), .int 0, .ref (ads o (k + 2)), .ref (ads o (k + 3)), .ref (ads o (k + 4)), .ref (ads o (k + 5)), .ref (ads o (k + 6)), .null, .int 0, .int 0, .null, .null, .int 0, .null, .null, .null, .null, .null]))) (k + 7) (aZ o 2 (fun _ => 0))) a (.inr (10, [.ref (ads o (k)), .ref (ads o (k + 1)), .int 0, .ref (ads o (k + 2)), .ref (ads o (k + 3)), .ref (ads o (k + 4)), .ref (ads o (k + 5)), .ref (ads o (k + 6)), .ref (ads o (k + 7)), .int 0, .int 0, .null, .null, .int 0, .null, .null, .null, .null, .null]))) (k + 8) (aJ o 6 (fun _ => 0))) a (.inr (10, [.ref (ads o (k)), .ref (ads o (k + 1)), .int 0, .ref (ads o (k + 2)), .ref (ads o (k + 3)), .ref (ads o (k + 4)), .ref (ads o (k + 5)), .ref (ads o (k + 6)), .ref (ads o (k + 7)), .int 0, .int 0, .ref (ads o (k + 8)), .null, .int 0, .null, .null, .null, .null, .null]))) (k + 9) (aI o 6 (fun _ => 0))) a (.inr (10, [.ref (ads o (k)), .ref (ads o (k + 1)), .int 0, .ref (ads o (k + 2)), .ref (ads o (k + 3)), .ref (ads o (k + 4)), .ref (ads o (k + 5)), .ref (ads o (k + 6)), .ref (ads o (k + 7)), .int 0, .int 0, .ref (ads o (k + 8)), .ref (ads o (k + 9)), .int 0, .null, .null, .null, .null, .null]))) (k + 10) (aI o 20 (fun _ => 0))) a (.inr (10, [.ref (ads o (k)), .ref (ads o (k + 1)), .int 0, .ref (ads o (k + 2)), .ref (ads o (k + 3)), .ref (ads o (k + 4)), .ref (ads o (k + 5)), .ref (ads o (k + 6)), .ref (ads o (k + 7)), .int 0, .int 0, .ref (ads o (k + 8)), .ref (ads o (k + 9)), .int 0, .ref (ads o (k + 10)), .null, .null, .null, .null]))) (k + 11) (aI o 20 (fun _ => 0))) a (.inr (10, [.ref (ads o (k)), .ref (ads o (k + 1)), .int 0, .ref (ads o (k + 2)), .ref (ads o (k + 3)), .ref (ads o (k + 4)), .ref (ads o (k + 5)), .ref (ads o (k + 6)), .ref (ads o (k + 7)), .int 0, .int 0, .ref (ads o (k + 8)), .ref (ads o (k + 9)), .int 0, .ref (ads o (k + 10)), .ref (ads o (k + 11)), .null, .null, .null]))) (k + 12) (aI o 20 (fun _ => 0))) a (.inr (10, [.ref (ads o (k)), .ref (ads o (k + 1)), .int 0, .ref (ads o (k + 2)), .ref (ads o (k + 3)), .ref (ads o (k + 4)), .ref (ads o (k + 5)), .ref (ads o (k + 6)), .ref (ads o (k + 7)), .int 0, .int 0, .ref (ads o (k + 8)), .ref (ads o (k + 9)), .int 0, .ref (ads o (k + 10)), .ref (ads o (k + 11)), .ref (ads o (k + 12)), .null, .null]))) 13 1985 108 [(0, .ref (ads o (a)))] []
  refine v_aload_n X 0 d_Mo_init_108 rfl rfl ?_
  refine v_bipush X (v := nI (40)) d_Mo_init_109 (by decide) ?_
  refine v_newI X (m := 40) (by omega) (Nat.le_of_ble_eq_true rfl) (Nat.le_of_ble_eq_true rfl) (Nat.le_of_ble_eq_true rfl) d_Mo_init_111 ?_
  refine v_putF X hin (fs := [.ref (ads o (k)), .ref (ads o (k + 1)), .int 0, .ref (ads o (k + 2)), .ref (ads o (k + 3)), .ref (ads o (k + 4)), .ref (ads o (k + 5)), .ref (ads o (k + 6)), .ref (ads o (k + 7)), .int 0, .int 0, .ref (ads o (k + 8)), .ref (ads o (k + 9)), .int 0, .ref (ads o (k + 10)), .ref (ads o (k + 11)), .ref (ads o (k + 12)), .null, .null]) ff_Mo_51 (by omega) (by rw [uf_n _ _ (by omega), uf_s]) (Nat.le_of_ble_eq_true rfl) d_Mo_init_113 ?_
  show VE γ o 1 (k + 14) (uf (uf (uf (uf (uf (uf (uf (uf (uf (uf (uf (uf (uf (uf (uf (uf (uf (uf (uf (uf (uf (uf (uf (uf (uf (uf (uf (uf E k (aJ o 43 (fun _ => 0))) a (.inr (10, [.ref (ads o (k)), .null, .int 0, .null, .null, .null, .null, .null, .null, .int 0, .int 0, .null, .null, .int 0, .null, .null, .null, .null, .null]))) (k + 1) (aI o 40 (fun _ => 0))) a (.inr (10, [.ref (ads o (k)), .ref (ads o (k + 1)), .int 0, .null, .null, .null, .null, .null, .null, .int 0, .int 0, .null, .null, .int 0, .null, .null, .null, .null, .null]))) (k + 2) (aJ o 860 (fun _ => 0))) a (.inr (10, [.ref (ads o (k)), .ref (ads o (k + 1)), .int 0, .ref (ads o (k + 2)), .null, .null, .null, .null, .null, .int 0, .int 0, .null, .null, .int 0, .null, .null, .null, .null, .null]))) (k + 3) (aI o 800 (fun _ => 0))) a (.inr (10, [.ref (ads o (k)), .ref (ads o (k + 1)), .int 0, .ref (ads o (k + 2)), .ref (ads o (k + 3)), .null, .null, .null, .null, .int 0, .int 0, .null, .null, .int 0, .null, .null, .null, .null, .null]))) (k + 4) (aJ o 86 (fun _ => 0))) a (.inr (10, [.ref (ads o (k)), .ref (ads o (k + 1)), .int 0, .ref (ads o (k + 2)), .ref (ads o (k + 3)), .ref (ads o (k + 4)), .null, .null, .null, .int 0, .int 0, .null, .null, .int 0, .null, .null, .null, .null, .null]))) (k + 5) (aI o 80 (fun _ => 0))) a (.inr (10, [.ref (ads o (k)), .ref (ads o (k + 1)), .int 0, .ref (ads o (k + 2)), .ref (ads o (k + 3)), .ref (ads o (k + 4)), .ref (ads o (k + 5)), .null, .null, .int 0, .int 0, .null, .null, .int 0, .null, .null, .null, .null, .null]))) (k + 6) (aI o 2 (fun _ => 0))) a (.inr (10, [.ref (ads o (k)), .ref (ads o (k + 1)), .int 0, .ref (ads o (k + 2)), .ref (ads o (k + 3)), .ref (ads o (k + 4)), .ref (ads o (k + 5)), .ref (ads o (k + 6)), .null, .int 0, .int 0, .null, .null, .int 0, .null, .null, .null, .null, .null]))) (k + 7) (aZ o 2 (fun _ => 0))) a (.inr (10, [.ref (ads o (k)), .ref (ads o (k + 1)), .int 0, .ref (ads o (k + 2)), .ref (ads o (k + 3)), .ref (ads o (k + 4)), .ref (ads o (k + 5)), .ref (ads o (k + 6)), .ref (ads o (k + 7)), .int 0, .int 0, .null, .null, .int 0, .null, .null, .null, .null, .null]))) (k + 8) (aJ o 6 (fun _ => 0))) a (.inr (10, [.ref (ads o (k)), .ref (ads o (k + 1)), .int 0, .ref (ads o (k + 2)), .ref (ads o (k + 3)), .ref (ads o (k + 4)), .ref (ads o (k + 5)), .ref (ads o (k + 6)), .ref (ads o (k + 7)), .int 0, .int 0, .ref (ads o (k + 8)), .null, .int 0, .null, .null, .null, .null, .null]))) (k + 9) (aI o 6 (fun _ => 0))) a (.inr (10, [.ref (ads o (k)), .ref (ads o (k + 1)), .int 0, .ref (ads o (k + 2)), .ref (ads o (k + 3)), .ref (ads o (k + 4)), .ref (ads o (k + 5)), .ref (ads o (k + 6)), .ref (ads o (k + 7)), .int 0, .int 0, .ref (ads o (k + 8)), .ref (ads o (k + 9)), .int 0, .null, .null, .null, .null, .null]))) (k + 10) (aI o 20 (fun _ => 0))) a (.inr (10, [.ref (ads o (k)), .ref (ads o (k + 1)), .int 0, .ref (ads o (k + 2)), .ref (ads o (k + 3)), .ref (ads o (k + 4)), .ref (ads o (k + 5)), .ref (ads o (k + 6)), .ref (ads o (k + 7)), .int 0, .int 0, .ref (ads o (k + 8)), .ref (ads o (k + 9)), .int 0, .ref (ads o (k + 10)), .null, .null, .null, .null]))) (k + 11) (aI o 20 (fun _ => 0))) a (.inr (10, [.ref (ads o (k)), .ref (ads o (k + 1)), .int 0, .ref (ads o (k + 2)), .ref (ads o (k + 3)), .ref (ads o (k + 4)), .ref (ads o (k + 5)), .ref (ads o (k + 6)), .ref (ads o (k + 7)), .int 0, .int 0, .ref (ads o (k + 8)), .ref (ads o (k + 9)), .int 0, .ref (ads o (k + 10)), .ref (ads o (k + 11)), .null, .null, .null]))) (k + 12) (aI o 20 (fun _ => 0))) a (.inr (10, [.ref (ads o (k)), .ref (ads o (k + 1)), .int 0, .ref (ads o (k + 2)), .ref (ads o (k + 3)), .ref (ads o (k + 4)), .ref (ads o (k + 5)), .ref (ads o (k + 6)), .ref (ads o (k + 7)), .int 0, .int 0, .ref (ads o (k + 8)), .ref (ads o (k + 9)), .int 0, .ref (ads o (k + 10)), .ref (ads o (k + 11)), .ref (ads o (k + 12)), .null, .null]))) (k + 13) (aI o 40 (fun _ => 0))) a (.inr (10, [.ref (ads o (k)), .ref (ads o (k + 1)), .int 0, .ref (ads o (k + 2)), .ref (ads o (k + 3)), .ref (ads o (k + 4)), .ref (ads o (k + 5)), .ref (ads o (k + 6)), .ref (ads o (k + 7)), .int 0, .int 0, .ref (ads o (k + 8)), .ref (ads o (k + 9)), .int 0, .ref (ads o (k + 10)), .ref (ads o (k + 11)), .ref (ads o (k + 12)), .ref (ads o (k + 13)), .null]))) 14 2025 116 [(0, .ref (ads o (a)))] []
  refine v_aload_n X 0 d_Mo_init_116 rfl rfl ?_
  refine v_bipush X (v := nI (65)) d_Mo_init_117 (by decide) ?_
  refine v_newI X (m := 65) (by omega) (Nat.le_of_ble_eq_true rfl) (Nat.le_of_ble_eq_true rfl) (Nat.le_of_ble_eq_true rfl) d_Mo_init_119 ?_
  refine v_putF X hin (fs := [.ref (ads o (k)), .ref (ads o (k + 1)), .int 0, .ref (ads o (k + 2)), .ref (ads o (k + 3)), .ref (ads o (k + 4)), .ref (ads o (k + 5)), .ref (ads o (k + 6)), .ref (ads o (k + 7)), .int 0, .int 0, .ref (ads o (k + 8)), .ref (ads o (k + 9)), .int 0, .ref (ads o (k + 10)), .ref (ads o (k + 11)), .ref (ads o (k + 12)), .ref (ads o (k + 13)), .null]) ff_Mo_54 (by omega) (by rw [uf_n _ _ (by omega), uf_s]) (Nat.le_of_ble_eq_true rfl) d_Mo_init_121 ?_
  show VE γ o 1 (k + 15) (uf (uf (uf (uf (uf (uf (uf (uf (uf (uf (uf (uf (uf (uf (uf (uf (uf (uf (uf (uf (uf (uf (uf (uf (uf (uf (uf (uf (uf (uf E k (aJ o 43 (fun _ => 0))) a (.inr (10, [.ref (ads o (k)), .null, .int 0, .null, .null, .null, .null, .null, .null, .int 0, .int 0, .null, .null, .int 0, .null, .null, .null, .null, .null]))) (k + 1) (aI o 40 (fun _ => 0))) a (.inr (10, [.ref (ads o (k)), .ref (ads o (k + 1)), .int 0, .null, .null, .null, .null, .null, .null, .int 0, .int 0, .null, .null, .int 0, .null, .null, .null, .null, .null]))) (k + 2) (aJ o 860 (fun _ => 0))) a (.inr (10, [.ref (ads o (k)), .ref (ads o (k + 1)), .int 0, .ref (ads o (k + 2)), .null, .null, .null, .null, .null, .int 0, .int 0, .null, .null, .int 0, .null, .null, .null, .null, .null]))) (k + 3) (aI o 800 (fun _ => 0))) a (.inr (10, [.ref (ads o (k)), .ref (ads o (k + 1)), .int 0, .ref (ads o (k + 2)), .ref (ads o (k + 3)), .null, .null, .null, .null, .int 0, .int 0, .null, .null, .int 0, .null, .null, .null, .null, .null]))) (k + 4) (aJ o 86 (fun _ => 0))) a (.inr (10, [.ref (ads o (k)), .ref (ads o (k + 1)), .int 0, .ref (ads o (k + 2)), .ref (ads o (k + 3)), .ref (ads o (k + 4)), .null, .null, .null, .int 0, .int 0, .null, .null, .int 0, .null, .null, .null, .null, .null]))) (k + 5) (aI o 80 (fun _ => 0))) a (.inr (10, [.ref (ads o (k)), .ref (ads o (k + 1)), .int 0, .ref (ads o (k + 2)), .ref (ads o (k + 3)), .ref (ads o (k + 4)), .ref (ads o (k + 5)), .null, .null, .int 0, .int 0, .null, .null, .int 0, .null, .null, .null, .null, .null]))) (k + 6) (aI o 2 (fun _ => 0))) a (.inr (10, [.ref (ads o (k)), .ref (ads o (k + 1)), .int 0, .ref (ads o (k + 2)), .ref (ads o (k + 3)), .ref (ads o (k + 4)), .ref (ads o (k + 5)), .ref (ads o (k + 6)), .null, .int 0, .int 0, .null, .null, .int 0, .null, .null, .null, .null, .null]))) (k + 7) (aZ o 2 (fun _ => 0))) a (.inr (10, [.ref (ads o (k)), .ref (ads o (k + 1)), .int 0, .ref (ads o (k + 2)), .ref (ads o (k + 3)), .ref (ads o (k + 4)), .ref (ads o (k + 5)), .ref (ads o (k + 6)), .ref (ads o (k + 7)), .int 0, .int 0, .null, .null, .int 0, .null, .null, .null, .null, .null]))) (k + 8) (aJ o 6 (fun _ => 0))) a (.inr (10, [.ref (ads o (k)), .ref (ads o (k + 1)), .int 0, .ref (ads o (k + 2)), .ref (ads o (k + 3)), .ref (ads o (k + 4)), .ref (ads o (k + 5)), .ref (ads o (k + 6)), .ref (ads o (k + 7)), .int 0, .int 0, .ref (ads o (k + 8)), .null, .int 0, .null, .null, .null, .null, .null]))) (k + 9) (aI o 6 (fun _ => 0))) a (.inr (10, [.ref (ads o (k)), .ref (ads o (k + 1)), .int 0, .ref (ads o (k + 2)), .ref (ads o (k + 3)), .ref (ads o (k + 4)), .ref (ads o (k + 5)), .ref (ads o (k + 6)), .ref (ads o (k + 7)), .int 0, .int 0, .ref (ads o (k + 8)), .ref (ads o (k + 9)), .int 0, .null, .null, .null, .null, .null]))) (k + 10) (aI o 20 (fun _ => 0))) a (.inr (10, [.ref (ads o (k)), .ref (ads o (k + 1)), .int 0, .ref (ads o (k + 2)), .ref (ads o (k + 3)), .ref (ads o (k + 4)), .ref (ads o (k + 5)), .ref (ads o (k + 6)), .ref (ads o (k + 7)), .int 0, .int 0, .ref (ads o (k + 8)), .ref (ads o (k + 9)), .int 0, .ref (ads o (k + 10)), .null, .null, .null, .null]))) (k + 11) (aI o 20 (fun _ => 0))) a (.inr (10, [.ref (ads o (k)), .ref (ads o (k + 1)), .int 0, .ref (ads o (k + 2)), .ref (ads o (k + 3)), .ref (ads o (k + 4)), .ref (ads o (k + 5)), .ref (ads o (k + 6)), .ref (ads o (k + 7)), .int 0, .int 0, .ref (ads o (k + 8)), .ref (ads o (k + 9)), .int 0, .ref (ads o (k + 10)), .ref (ads o (k + 11)), .null, .null, .null]))) (k + 12) (aI o 20 (fun _ => 0))) a (.inr (10, [.ref (ads o (k)), .ref (ads o (k + 1)), .int 0, .ref (ads o (k + 2)), .ref (ads o (k + 3)), .ref (ads o (k + 4)), .ref (ads o (k + 5)), .ref (ads o (k + 6)), .ref (ads o (k + 7)), .int 0, .int 0, .ref (ads o (k + 8)), .ref (ads o (k + 9)), .int 0, .ref (ads o (k + 10)), .ref (ads o (k + 11)), .ref (ads o (k + 12)), .null, .null]))) (k + 13) (aI o 40 (fun _ => 0))) a (.inr (10, [.ref (ads o (k)), .ref (ads o (k + 1)), .int 0, .ref (ads o (k + 2)), .ref (ads o (k + 3)), .ref (ads o (k + 4)), .ref (ads o (k + 5)), .ref (ads o (k + 6)), .ref (ads o (k + 7)), .int 0, .int 0, .ref (ads o (k + 8)), .ref (ads o (k + 9)), .int 0, .ref (ads o (k + 10)), .ref (ads o (k + 11)), .ref (ads o (k + 12)), .ref (ads o (k + 13)), .null]))) (k + 14) (aI o 65 (fun _ => 0))) a (.inr (10, [.ref (ads o (k)), .ref (ads o (k + 1)), .int 0, .ref (ads o (k + 2)), .ref (ads o (k + 3)), .ref (ads o (k + 4)), .ref (ads o (k + 5)), .ref (ads o (k + 6)), .ref (ads o (k + 7)), .int 0, .int 0, .ref (ads o (k + 8)), .ref (ads o (k + 9)), .int 0, .ref (ads o (k + 10)), .ref (ads o (k + 11)), .ref (ads o (k + 12)), .ref (ads o (k + 13)), .ref (ads o (k + 14))]))) 15 2090 124 [(0, .ref (ads o (a)))] []
  refine v_aload_n X 0 d_Mo_init_124 rfl rfl ?_
  refine v_get X (fs := [.ref (ads o (k)), .ref (ads o (k + 1)), .int 0, .ref (ads o (k + 2)), .ref (ads o (k + 3)), .ref (ads o (k + 4)), .ref (ads o (k + 5)), .ref (ads o (k + 6)), .ref (ads o (k + 7)), .int 0, .int 0, .ref (ads o (k + 8)), .ref (ads o (k + 9)), .int 0, .ref (ads o (k + 10)), .ref (ads o (k + 11)), .ref (ads o (k + 12)), .ref (ads o (k + 13)), .ref (ads o (k + 14))]) (v := .ref (ads o (k))) f_Mo_7 (by omega) (by rw [uf_s]) rfl d_Mo_init_125 ?_
  refine v_iconst X (v := nI (1)) d_Mo_init_128 (by decide) ?_
  refine v_ldc2 X (v := (281479271743489 : Int64)) k_Mo_57 d_Mo_init_129 ?_
  refine v_last X (m := 43) (g := fun _ => 0) (by omega) (by rw [uf_n _ _ (by omega), uf_n _ _ (by omega), uf_n _ _ (by omega), uf_n _ _ (by omega), uf_n _ _ (by omega), uf_n _ _ (by omega), uf_n _ _ (by omega), uf_n _ _ (by omega), uf_n _ _ (by omega), uf_n _ _ (by omega), uf_n _ _ (by omega), uf_n _ _ (by omega), uf_n _ _ (by omega), uf_n _ _ (by omega), uf_n _ _ (by omega), uf_n _ _ (by omega), uf_n _ _ (by omega), uf_n _ _ (by omega), uf_n _ _ (by omega), uf_n _ _ (by omega), uf_n _ _ (by omega), uf_n _ _ (by omega), uf_n _ _ (by omega), uf_n _ _ (by omega), uf_n _ _ (by omega), uf_n _ _ (by omega), uf_n _ _ (by omega), uf_n _ _ (by omega), uf_n _ _ (by omega), uf_s]) (Nat.le_of_ble_eq_true rfl) (Nat.le_of_ble_eq_true rfl) d_Mo_init_132 ?_
  refine v_end X hr hQ (by omega) rfl rfl rfl (fun i hi => ?_) d_Mo_init_133
  unfold eMo_init; simp only [uf]
  all_goals by_cases hk2 : i = k
  all_goals first | (have ha3 : ¬ k = a := (by omega); subst hk2; simp [ha3]; done) | (by_cases ha2 : i = a <;> first | (subst ha2; simp [hk2]; done) | (simp [ha2, hk2]; done))

def eIm_init (o : OM) (E : Nat → va_E) (a k : Nat) : Nat → va_E := (uf (eSt_init o (uf E k (.inr (8, [.long 0, .long 0, .int 0, .null, .null]))) k (k + 1)) a (.inr (4, [.ref (ads o (k)), .int 0, .int 0])))
theorem eIm_init_n {o : OM} {E : Nat → va_E} {a k i : Nat} (h : i ≠ a) (hk : i < k) : eIm_init o E a k i = E i := by
  unfold eIm_init; rw [uf_n _ _ h, eSt_init_n (by omega) (by omega), uf_n _ _ (by omega)]
theorem eIm_init_a {o : OM} {E : Nat → va_E} {a k : Nat} : eIm_init o E a k a = .inr (4, [.ref (ads o (k)), .int 0, .int 0]) := by
  unfold eIm_init; rw [uf_s]
set_option maxRecDepth 100000 in
theorem m_Im_init (l : Launch) (o : OM) (a k : Nat) (E : Nat → va_E) (ha : a < k) (hE : E a = .inr (4, [.null, .int 0, .int 0])) : ConI l y_Im_init c_Im_init 1 2 40 3 85 o a k E (k + 3) (eIm_init o E a k) := by
  refine ConI.mk (by decide) rfl (Nat.le_of_ble_eq_true rfl) (fun γ X hr hin hQ => ?_)
  refine v_aload_n X 0 d_Im_init_0 rfl rfl ?_
  refine v_obj X wo_Im (Nat.le_of_ble_eq_true rfl) (Nat.le_of_ble_eq_true rfl) (Nat.le_of_ble_eq_true rfl) d_Im_init_1 ?_
  refine v_aload_n X 0 d_Im_init_4 rfl rfl ?_
  refine v_new X (ci := 8) (N := 5) (C := CR8) (T := CT8) (ty := CY8) (fs := [.long 0, .long 0, .int 0, .null, .null]) rfl CI8 CYok8 (by decide) cl_Im_7 in_St ii_St (by omega) (Nat.le_of_ble_eq_true rfl) (Nat.le_of_ble_eq_true rfl) d_Im_init_5 ?_
  refine v_dup X d_Im_init_8 rfl ?_
  refine v_callI X (m_St_init l o k (k + 1) (uf E k (.inr (8, [.long 0, .long 0, .int 0, .null, .null]))) (by omega) (by rw [uf_s])) ok_St_init w_Im_9 (by omega) ⟨Nat.le_of_ble_eq_true rfl, Nat.le_of_ble_eq_true rfl⟩ (Nat.le_of_ble_eq_true rfl) (Nat.le_of_ble_eq_true rfl) (Nat.le_of_ble_eq_true rfl) d_Im_init_9 ?_
  refine v_putF X hin (fs := [.null, .int 0, .int 0]) ff_Im_10 (by omega) (by rw [eSt_init_n (by omega) (by omega)] <;> exact (by rw [uf_n _ _ (by omega)]; exact hE)) (Nat.le_of_ble_eq_true rfl) d_Im_init_12 ?_
  show VE γ o 1 (k + 3) (uf (eSt_init o (uf E k (.inr (8, [.long 0, .long 0, .int 0, .null, .null]))) k (k + 1)) a (.inr (4, [.ref (ads o (k)), .int 0, .int 0]))) 3 85 15 [(0, .ref (ads o (a)))] []
  exact v_end X hr hQ (by omega) rfl rfl rfl (fun i hi => rfl) d_Im_init_15


def isS (j : Nat) : Prop := j = 1 ∨ j = 68 ∨ j = 72 ∨ (6 ≤ j ∧ j < 66 ∧ j % 3 = 0)
def ml0 : ML := fun j => if j = 1 ∨ j = 68 ∨ j = 72 ∨ (6 ≤ j ∧ j < 66 ∧ j % 3 = 0) then (fun s => if s = 1 then 281479271743489 else 0) else fun _ => 0
def mi0 : MI := fun _ _ => 0
theorem ml0_S {j : Nat} (h : 6 ≤ j ∧ j < 66 ∧ j % 3 = 0) : ml0 j = fun s => if s = 1 then 281479271743489 else 0 := by unfold ml0; rw [if_pos (by omega)]
theorem ml0_N {j : Nat} (h : ¬ (j = 1 ∨ j = 68 ∨ j = 72 ∨ (6 ≤ j ∧ j < 66 ∧ j % 3 = 0))) : ml0 j = fun _ => 0 := by unfold ml0; rw [if_neg h]
theorem eSt_init_1 {o : OM} {E : Nat → va_E} {a k : Nat} (h : k ≠ a) : eSt_init o E a k k = aJ o 40 (fun _ => 0) := by
  unfold eSt_init; rw [uf_n _ _ h, uf_n _ _ (by omega), uf_s]
theorem eSt_init_2 {o : OM} {E : Nat → va_E} {a k : Nat} (h : k + 1 ≠ a) : eSt_init o E a k (k + 1) = aI o 40 (fun _ => 0) := by
  unfold eSt_init; rw [uf_n _ _ h, uf_s]
def gF (o : OM) (i : Nat) : Nat → Option Nat := fun q => if q < i then some (ads o (6 + 3 * q)) else none
def gB (o : OM) (E : Nat → va_E) : Nat → va_E := fun j => if 6 ≤ j ∧ j < 66 then cE o (mi0 j) (ml0 j) j else E j
def gE (o : OM) (E : Nat → va_E) (i : Nat) : Nat → va_E := uf (uf (gB o E) 5 (aSt o 20 (gF o i))) 4 (.inr (6, [.ref (ads o (5)), .int 0, .int 0]))
theorem gE_5 {o : OM} {E : Nat → va_E} {i : Nat} : gE o E i 5 = aSt o 20 (gF o i) := by unfold gE; rw [uf_n _ _ (by decide), uf_s]
theorem gE_4 {o : OM} {E : Nat → va_E} {i : Nat} : gE o E i 4 = .inr (6, [.ref (ads o (5)), .int 0, .int 0]) := by unfold gE; rw [uf_s]
theorem gE_n {o : OM} {E : Nat → va_E} {i j : Nat} (h4 : j ≠ 4) (h5 : j ≠ 5) : gE o E i j = gB o E j := by unfold gE; rw [uf_n _ _ h4, uf_n _ _ h5]
theorem gE_lo {o : OM} {E : Nat → va_E} {i j : Nat} (h : j ≠ 4) (h5 : j < 5) : gE o E i j = E j := by rw [gE_n h (by omega)]; unfold gB; rw [if_neg (by omega)]
theorem gF_up (o : OM) (i : Nat) : va_up (gF o i) i (some (ads o (6 + 3 * i))) = gF o (i + 1) := by
  funext q
  unfold va_up gF
  by_cases h : q = i
  · subst h; rw [if_pos rfl, if_pos (by omega)]
  · rw [if_neg h]
    by_cases h2 : q < i
    · rw [if_pos h2, if_pos (by omega)]
    · rw [if_neg h2, if_neg (by omega)]
theorem gE_step {o : OM} {E : Nat → va_E} {i j : Nat} {bl : va_E} (hi : i < 20) (hj : j < 6 + 3 * (i + 1)) : gE o E (i + 1) j = uf (eSt_init o (uf (gE o E i) (6 + 3 * i) bl) (6 + 3 * i) (6 + 3 * i + 1)) 5 (aSt o 20 (va_up (gF o i) i (some (ads o (6 + 3 * i))))) j := by
  by_cases h5 : j = 5
  · subst h5; rw [uf_s, gE_5, gF_up]
  · rw [uf_n _ _ h5]
    by_cases h4 : j = 4
    · subst h4; rw [gE_4, eSt_init_n (by omega) (by omega), uf_n _ _ (by omega), gE_4]
    · rw [gE_n h4 h5]
      rcases (show j < 6 + 3 * i ∨ j = 6 + 3 * i ∨ j = 6 + 3 * i + 1 ∨ j = 6 + 3 * i + 1 + 1 by omega) with h | h | h | h
      · rw [eSt_init_n (by omega) (by omega), uf_n _ _ (by omega), gE_n h4 h5]
      · subst h
        rw [eSt_init_a]; unfold gB; rw [if_pos (by omega), (isSt.ring hi).e0, ml0_S (by omega)]; rfl
      · subst h
        rw [eSt_init_1 (by omega)]; unfold gB; rw [if_pos (by omega), (isSt.ring hi).e1, ml0_N (by omega)]
      · subst h
        rw [eSt_init_2 (by omega)]; unfold gB; rw [if_pos (by omega), (isSt.ring hi).e2]; rfl
theorem gE_0 {o : OM} {E : Nat → va_E} {j : Nat} {x : va_E} (hx : x = .inr (6, [.ref (ads o (5)), .int 0, .int 0])) (hj : j < 6) : gE o E 0 j = uf (uf E 5 (aSt o 20 (fun _ => none))) 4 x j := by
  subst hx
  by_cases h4 : j = 4
  · subst h4; rw [gE_4, uf_s]
  · rw [uf_n _ _ h4]
    by_cases h5 : j = 5
    · subst h5; rw [gE_5, uf_s]; rfl
    · rw [uf_n _ _ h5, gE_lo h4 (by omega)]
set_option maxRecDepth 100000 in
theorem m_Pa_init (l : Launch) (o : OM) (E : Nat → va_E) (hE : E 4 = .inr (6, [.null, .int 0, .int 0])) : ConI l y_Pa_init c_Pa_init 2 2 40 61 1720 o 4 5 E 66 (gE o E 20) := by
  refine ConI.mk (by decide) rfl (Nat.le_of_ble_eq_true rfl) (fun γ X hr hin hQ => ?_)
  refine v_aload_n X 0 d_Pa_init_0 rfl rfl ?_
  refine v_obj X wo_Pa (Nat.le_of_ble_eq_true rfl) (Nat.le_of_ble_eq_true rfl) (Nat.le_of_ble_eq_true rfl) d_Pa_init_1 ?_
  refine v_aload_n X 0 d_Pa_init_4 rfl rfl ?_
  refine v_bipush X (v := nI (20)) d_Pa_init_5 (by decide) ?_
  refine v_anewS X (m := 20) cl_Pa_9 rfl (Nat.le_of_ble_eq_true rfl) (Nat.le_of_ble_eq_true rfl) (Nat.le_of_ble_eq_true rfl) d_Pa_init_7 ?_
  refine v_putF X hin (fs := [.null, .int 0, .int 0]) ff_Pa_11 (by decide) (by rw [uf_n _ _ (by decide)]; exact hE) (Nat.le_of_ble_eq_true rfl) d_Pa_init_10 ?_
  show VE γ o 2 (6) (uf (uf E 5 (aSt o 20 (fun _ => none))) 4 (.inr (6, [.ref (ads o (5)), .int 0, .int 0]))) 1 20 13 [(0, .ref (ads o (4)))] []
  refine v_iconst X (v := nI (0)) d_Pa_init_13 (by decide) ?_
  refine v_istore_n X [(1, .int (nI (0))), (0, .ref (ads o (4)))] d_Pa_init_14 rfl (Nat.le_of_ble_eq_true rfl) rfl ?_
  have LP : ∀ (di i : Nat), i + di = 20 → VE γ o 2 (6 + 3 * i) (gE o E i) (1 + 3 * i) (20 + 85 * i) 15 [(1, .int (nI (i))), (0, .ref (ads o (4)))] [] := by
    intro di
    induction di with
    | zero =>
      intro i hi
      have hi : i = 20 := by omega
      subst hi
      refine v_iload_n X 0 d_Pa_init_15 rfl rfl ?_
      refine v_bipush X (v := nI 20) d_Pa_init_16 (by decide) ?_
      refine v_icge X (tgt := 40) (c := 20 ≤ 20) d_Pa_init_18 (by decide) (nI_leI (by decide) (by decide)) (fun _ => ?_) (fun h => absurd (Nat.le_refl _) h)
      exact v_end X hr hQ rfl rfl rfl rfl (fun i hi => rfl) d_Pa_init_40
    | succ di ih =>
      intro i hi
      have hlt : i < 20 := by omega
      refine v_iload_n X 0 d_Pa_init_15 rfl rfl ?_
      refine v_bipush X (v := nI 20) d_Pa_init_16 (by decide) ?_
      refine v_icge X (tgt := 40) (c := 20 ≤ i) d_Pa_init_18 (by decide) (nI_leI (by decide) (by omega)) (fun h => absurd h (by omega)) (fun _ => ?_)
      refine v_aload_n X 1 d_Pa_init_21 rfl rfl ?_
      refine v_get X (fs := [.ref (ads o (5)), .int 0, .int 0]) (v := .ref (ads o (5))) f_Pa_11 (by omega) gE_4 rfl d_Pa_init_22 ?_
      refine v_iload_n X 0 d_Pa_init_25 rfl rfl ?_
      refine v_new X (ci := 8) (N := 5) (C := CR8) (T := CT8) (ty := CY8) (fs := [.long 0, .long 0, .int 0, .null, .null]) rfl CI8 CYok8 (by decide) cl_Pa_9 in_St ii_St (by omega) (by omega) (by omega) d_Pa_init_26 ?_
      refine v_dup X d_Pa_init_29 rfl ?_
      refine v_callI X (m_St_init l o (6 + 3 * i) (6 + 3 * i + 1) (uf (gE o E i) (6 + 3 * i) (.inr (8, [.long 0, .long 0, .int 0, .null, .null]))) (by omega) (by rw [uf_s])) ok_St_init w_Pa_17 (by omega) ⟨Nat.le_of_ble_eq_true rfl, Nat.le_of_ble_eq_true rfl⟩ (Nat.le_of_ble_eq_true rfl) (by omega) (by omega) d_Pa_init_30 ?_
      refine v_aastS X (i := 5) (j := 6 + 3 * i) (m := 20) (q := i) (F := gF o i) (by omega) (by omega) (by rw [eSt_init_n (by omega) (by omega), uf_n _ _ (by omega)]; exact gE_5) eSt_init_a (Nat.le_of_ble_eq_true rfl) hlt d_Pa_init_33 ?_
      refine v_iinc X 0 (v := nI (i + 1)) [(1, .int (nI (i + 1))), (0, .ref (ads o (4)))] d_Pa_init_34 rfl (nI_add _ 1) (Nat.le_of_ble_eq_true rfl) rfl ?_
      refine v_goto X (tgt := 15) d_Pa_init_37 (by decide) ?_
      exact VE.eq (ih (i + 1) (by omega)) (by omega) (by omega) (by omega) (fun j hj => gE_step hlt hj) rfl rfl
  exact VE.eq (LP 20 0 (by omega)) rfl rfl rfl (fun j hj => gE_0 rfl hj) rfl rfl
