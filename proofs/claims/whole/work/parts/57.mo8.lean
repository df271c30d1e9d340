set_option maxHeartbeats 4000000 in
set_option maxRecDepth 100000 in
theorem m_Mo_groups_o (l : Launch) (o : OM) (mi : MI) (ml : ML) (b : Int32) (n : Nat) (hn : ml 96 2 = lN n) (hn40 : n ≤ 40) (hb : b < nI 0 ∨ nI 64 < b) : ConD l y_Mo_groups c_Mo_groups 2 (some .int) 8 270 o [.ref (ads o (95)), .int (b)] mi ml (some (.int (((-1000000002 : Int32))))) mi ml := by
  refine Con.mk (by decide) (Nat.le_of_ble_eq_true rfl) (fun γ X => ?_)
  show V γ o 2 mi ml 0 [(0, .ref (ads o (95))), (1, .int (b))] []
  refine r_iload_n X 1 d_Mo_groups_0 rfl rfl ?_
  refine r_i2l X (v := (b).toInt64) d_Mo_groups_1 (rfl) ?_
  refine r_lconst X (v := 0) d_Mo_groups_2 (by decide) ?_
  refine r_ldc2 X (v := (64 : Int64)) k_Mo_202 d_Mo_groups_3 ?_
  refine r_callS X (m_Mo_in l o mi ml ((b).toInt64) 0 (64 : Int64)) ok_Mo_in w_Mo_63 rfl ⟨Nat.le_of_ble_eq_true rfl, Nat.le_of_ble_eq_true rfl⟩ (rest := []) rfl (Nat.le_of_ble_eq_true rfl) d_Mo_groups_6 ?_
  refine kD (st' := [.int (bI (!decide (((b).toInt64) < 0) && !decide ((64 : Int64) < ((b).toInt64))))]) rfl ?_
  refine r_ifeqB X (tgt := 20) (b := !decide (((b).toInt64) < 0) && !decide ((64 : Int64) < ((b).toInt64))) d_Mo_groups_9 (by decide) (fun c_9 => ?_) (fun c_9 => ?_)
  · -- taken
    refine r_ldc X (v := ((-1000000002 : Int32))) k_Mo_144 (by decide) d_Mo_groups_20 ?_
    refine r_end_i X d_Mo_groups_22 ?_
    first | exact ⟨rfl, rfl, rfl⟩ | (refine ⟨?_, rfl, rfl⟩; simp_all)
  · -- not taken
    exact False.elim (by have e := in_out (a := 0) (m := 64) (by decide) (by decide) hb; exact absurd (c_9.symm.trans e) (by decide))

set_option maxHeartbeats 4000000 in
set_option maxRecDepth 100000 in
theorem m_Mo_groups_i (l : Launch) (o : OM) (mi : MI) (ml : ML) (q : Nat) (n : Nat) (hn : ml 96 2 = lN n) (hn40 : n ≤ 40) (hq : q ≤ 64) : Con l y_Mo_groups c_Mo_groups 2 (some .int) 8 270 o [.ref (ads o (95)), .int (nI (q))] mi ml (fun v a z => ∃ G : Nat → Nat, Lab (oM ml) n q G ∧ v = some (.int (nI (rootsN G n))) ∧ (∀ t, t ≠ 109 → a t = mi t) ∧ z = ml) := by
  refine Con.mk (by decide) (Nat.le_of_ble_eq_true rfl) (fun γ X => ?_)
  show V γ o 2 mi ml 0 [(0, .ref (ads o (95))), (1, .int (nI (q)))] []
  refine r_iload_n X 1 d_Mo_groups_0 rfl rfl ?_
  refine r_i2l X (v := lN (q)) d_Mo_groups_1 (nI_l (by omega)) ?_
  refine r_lconst X (v := 0) d_Mo_groups_2 (by decide) ?_
  refine r_ldc2 X (v := (64 : Int64)) k_Mo_202 d_Mo_groups_3 ?_
  refine r_callS X (m_Mo_in l o mi ml (lN (q)) 0 (64 : Int64)) ok_Mo_in w_Mo_63 rfl ⟨Nat.le_of_ble_eq_true rfl, Nat.le_of_ble_eq_true rfl⟩ (rest := []) rfl (Nat.le_of_ble_eq_true rfl) d_Mo_groups_6 ?_
  refine kD (st' := [.int (bI (!decide ((lN (q)) < 0) && !decide ((64 : Int64) < (lN (q)))))]) rfl ?_
  refine r_ifeqB X (tgt := 20) (b := !decide ((lN (q)) < 0) && !decide ((64 : Int64) < (lN (q)))) d_Mo_groups_9 (by decide) (fun c_9 => ?_) (fun c_9 => ?_)
  · -- taken
    exact False.elim (by have e := in_nat (a := 0) (j := q) (m := 64) (by omega) (by omega) (by decide); exact absurd (c_9.symm.trans e) (by decide))
  · -- not taken
    refine r_aload_n X 0 d_Mo_groups_12 rfl rfl ?_
    refine r_iload_n X 1 d_Mo_groups_13 rfl rfl ?_
    refine r_callV X (m_Mo_layGroups l o mi ml q n (hn) hn40 (by omega)) ok_Mo_layGroups w_Mo_204 rfl b_95 e_95 rfl ⟨Nat.le_of_ble_eq_true rfl, Nat.le_of_ble_eq_true rfl⟩ (rest := []) rfl (Nat.le_of_ble_eq_true rfl) d_Mo_groups_14 ?_
    rintro _ mi_g1 zz ⟨G, rfl, hfr, hz, hLab, hG⟩
    have hz := hz.symm
    subst hz
    have hGk := fun k hk => (hLab.1 k hk).1
    have hct := ct_le (fun k => decide (G k = k)) n
    show V γ o 2 mi_g1 ml 17 [(0, .ref (ads o (95))), (1, .int (nI (q)))] [.int (nI (ct (fun k => decide (G k = k)) n))]
    refine r_goto X (tgt := 22) d_Mo_groups_17 (by decide) ?_
    refine r_end_i X d_Mo_groups_22 ?_
    exact ⟨G, hLab, rfl, hfr, rfl⟩

set_option maxHeartbeats 4000000 in
set_option maxRecDepth 100000 in
theorem m_Mo_group_o (l : Launch) (o : OM) (mi : MI) (ml : ML) (b : Int32) (g : Int32) (w : Int32) (n : Nat) (hn : ml 96 2 = lN n) (hn40 : n ≤ 40) (hb : b < nI 0 ∨ nI 64 < b) : ConD l y_Mo_group c_Mo_group 5 (some .int) 8 270 o [.ref (ads o (95)), .int (b), .int (g), .int (w)] mi ml (some (.int (((-1000000002 : Int32))))) mi ml := by
  refine Con.mk (by decide) (Nat.le_of_ble_eq_true rfl) (fun γ X => ?_)
  show V γ o 5 mi ml 0 [(0, .ref (ads o (95))), (1, .int (b)), (2, .int (g)), (3, .int (w))] []
  refine r_iload_n X 1 d_Mo_group_0 rfl rfl ?_
  refine r_i2l X (v := (b).toInt64) d_Mo_group_1 (rfl) ?_
  refine r_lconst X (v := 0) d_Mo_group_2 (by decide) ?_
  refine r_ldc2 X (v := (64 : Int64)) k_Mo_202 d_Mo_group_3 ?_
  refine r_callS X (m_Mo_in l o mi ml ((b).toInt64) 0 (64 : Int64)) ok_Mo_in w_Mo_63 rfl ⟨Nat.le_of_ble_eq_true rfl, Nat.le_of_ble_eq_true rfl⟩ (rest := []) rfl (Nat.le_of_ble_eq_true rfl) d_Mo_group_6 ?_
  refine kD (st' := [.int (bI (!decide (((b).toInt64) < 0) && !decide ((64 : Int64) < ((b).toInt64))))]) rfl ?_
  refine r_ifneB X (tgt := 15) (b := !decide (((b).toInt64) < 0) && !decide ((64 : Int64) < ((b).toInt64))) d_Mo_group_9 (by decide) (fun c_9 => ?_) (fun c_9 => ?_)
  · -- taken
    exact False.elim (by have e := in_out (a := 0) (m := 64) (by decide) (by decide) hb; exact absurd (c_9.symm.trans e) (by decide))
  · -- not taken
    refine r_ldc X (v := ((-1000000002 : Int32))) k_Mo_144 (by decide) d_Mo_group_12 ?_
    refine r_end_i X d_Mo_group_14 ?_
    first | exact ⟨rfl, rfl, rfl⟩ | (refine ⟨?_, rfl, rfl⟩; simp_all)

set_option maxHeartbeats 4000000 in
set_option maxRecDepth 100000 in
theorem m_Mo_group_i (l : Launch) (o : OM) (mi : MI) (ml : ML) (q : Nat) (g : Int32) (w : Int32) (n : Nat) (hn : ml 96 2 = lN n) (hn40 : n ≤ 40) (hq : q ≤ 64) : Con l y_Mo_group c_Mo_group 5 (some .int) 8 270 o [.ref (ads o (95)), .int (nI (q)), .int (g), .int (w)] mi ml (fun v a z => ∃ G : Nat → Nat, Lab (oM ml) n q G ∧ v = some (.int (oI (ix g (rootsN G n)) (-1000000001 : Int32) (fun x => oI (ix w 3) (-1000000002 : Int32) (grpM (oM ml) n G x)))) ∧ (∀ t, t ≠ 109 → a t = mi t) ∧ z = ml) := by
  refine Con.mk (by decide) (Nat.le_of_ble_eq_true rfl) (fun γ X => ?_)
  show V γ o 5 mi ml 0 [(0, .ref (ads o (95))), (1, .int (nI (q))), (2, .int (g)), (3, .int (w))] []
  refine r_iload_n X 1 d_Mo_group_0 rfl rfl ?_
  refine r_i2l X (v := lN (q)) d_Mo_group_1 (nI_l (by omega)) ?_
  refine r_lconst X (v := 0) d_Mo_group_2 (by decide) ?_
  refine r_ldc2 X (v := (64 : Int64)) k_Mo_202 d_Mo_group_3 ?_
  refine r_callS X (m_Mo_in l o mi ml (lN (q)) 0 (64 : Int64)) ok_Mo_in w_Mo_63 rfl ⟨Nat.le_of_ble_eq_true rfl, Nat.le_of_ble_eq_true rfl⟩ (rest := []) rfl (Nat.le_of_ble_eq_true rfl) d_Mo_group_6 ?_
  refine kD (st' := [.int (bI (!decide ((lN (q)) < 0) && !decide ((64 : Int64) < (lN (q)))))]) rfl ?_
  refine r_ifneB X (tgt := 15) (b := !decide ((lN (q)) < 0) && !decide ((64 : Int64) < (lN (q)))) d_Mo_group_9 (by decide) (fun c_9 => ?_) (fun c_9 => ?_)
  · -- taken
    refine r_iload_n X 2 d_Mo_group_15 rfl rfl ?_
    refine r_i2l X (v := (g).toInt64) d_Mo_group_16 (rfl) ?_
    refine r_lconst X (v := 0) d_Mo_group_17 (by decide) ?_
    refine r_aload_n X 0 d_Mo_group_18 rfl rfl ?_
    refine r_iload_n X 1 d_Mo_group_19 rfl rfl ?_
    refine r_callV X (m_Mo_layGroups l o mi ml q n (hn) hn40 (by omega)) ok_Mo_layGroups w_Mo_204 rfl b_95 e_95 rfl ⟨Nat.le_of_ble_eq_true rfl, Nat.le_of_ble_eq_true rfl⟩ (rest := [.long (0), .long ((g).toInt64)]) rfl (Nat.le_of_ble_eq_true rfl) d_Mo_group_20 ?_
    rintro _ mi_g1 zz ⟨G, rfl, hfr, hz, hLab, hG⟩
    have hz := hz.symm
    subst hz
    have hGk := fun k hk => (hLab.1 k hk).1
    have hct := ct_le (fun k => decide (G k = k)) n
    show V γ o 5 mi_g1 ml 23 [(0, .ref (ads o (95))), (1, .int (nI (q))), (2, .int (g)), (3, .int (w))] [.int (nI (ct (fun k => decide (G k = k)) n)), .long (0), .long ((g).toInt64)]
    refine r_iconst X (v := nI (1)) d_Mo_group_23 (by decide) ?_
    refine r_isub X (v := (nI (ct (fun k => decide (G k = k)) n) - nI (1))) d_Mo_group_24 (rfl) ?_
    refine r_i2l X (v := ((nI (ct (fun k => decide (G k = k)) n) - nI (1))).toInt64) d_Mo_group_25 (rfl) ?_
    refine r_callS X (m_Mo_in l o mi_g1 ml ((g).toInt64) 0 (((nI (ct (fun k => decide (G k = k)) n) - nI (1))).toInt64)) ok_Mo_in w_Mo_63 rfl ⟨Nat.le_of_ble_eq_true rfl, Nat.le_of_ble_eq_true rfl⟩ (rest := []) rfl (Nat.le_of_ble_eq_true rfl) d_Mo_group_26 ?_
    refine kD (st' := [.int (bI (!decide (((g).toInt64) < 0) && !decide ((((nI (ct (fun k => decide (G k = k)) n) - nI (1))).toInt64) < ((g).toInt64))))]) rfl ?_
    rw [isMk_eq (by omega) g]
    refine r_ifneB X (tgt := 35) (b := isMk (ct (fun k => decide (G k = k)) n) g) d_Mo_group_29 (by decide) (fun c_29 => ?_) (fun c_29 => ?_)
    · -- taken
      obtain ⟨x, hx, rfl⟩ := isMk_ex (n := ct (fun k => decide (G k = k)) n) (k := g) (by omega) (by assumption)
      refine r_aload_n X 0 d_Mo_group_35 rfl rfl ?_
      refine r_iload_n X 2 d_Mo_group_36 rfl rfl ?_
      refine r_callV X (m_Mo_leastOf l o mi_g1 ml x n G (by omega) (hG) (hGk) (hx)) ok_Mo_leastOf w_Mo_207 rfl b_95 e_95 rfl ⟨Nat.le_of_ble_eq_true rfl, Nat.le_of_ble_eq_true rfl⟩ (rest := []) rfl (Nat.le_of_ble_eq_true rfl) d_Mo_group_37 ?_
      refine kD (st' := [.int (nI (kthP (fun k => decide (G k = k)) n x))]) rfl ?_
      refine r_istore X [(4, .int (nI (kthP (fun k => decide (G k = k)) n x))), (0, .ref (ads o (95))), (1, .int (nI (q))), (2, .int (nI (x))), (3, .int (w))] d_Mo_group_40 (Nat.le_of_ble_eq_true rfl) rfl ?_
      refine r_iload_n X 4 d_Mo_group_42 rfl rfl ?_
      rcases pk_ix w (n := 3) (by decide) with hs43 | hs43 | ⟨q43, hq43, rfl⟩
      · refine r_tswOut X (tgt := 85) d_Mo_group_43 (Or.inl (tsw_lo hs43)) (by decide) ?_
        refine r_ldc X (v := ((-1000000002 : Int32))) k_Mo_144 (by decide) d_Mo_group_85 ?_
        refine r_end_i X d_Mo_group_87 ?_
        refine ⟨G, hLab, ?_, hfr, rfl⟩; rw [show ix (nI x) (rootsN G n) = some x from ix_in hx (by unfold rootsN; omega), ix_lo hs43]; rfl
      · refine r_tswOut X (tgt := 85) d_Mo_group_43 (Or.inr (tsw_hi (by decide) hs43)) (by decide) ?_
        refine r_ldc X (v := ((-1000000002 : Int32))) k_Mo_144 (by decide) d_Mo_group_85 ?_
        refine r_end_i X d_Mo_group_87 ?_
        refine ⟨G, hLab, ?_, hfr, rfl⟩; rw [show ix (nI x) (rootsN G n) = some x from ix_in hx (by unfold rootsN; omega), ix_hi hs43]; rfl
      · match q43, hq43 with
        | 0, _ =>
          refine r_tswIn X (off := 25) (tgt := 68) d_Mo_group_43 (by decide) (by decide) (by decide) (by decide) ?_
          refine r_aload_n X 1 d_Mo_group_68 rfl rfl ?_
          refine r_iload X 0 d_Mo_group_69 rfl ?_
          refine r_callV X (m_Mo_manyOf l o mi_g1 ml (kthP (fun k => decide (G k = k)) n x) n G (by omega) (by omega) (hG) (hGk) (Nat.lt_of_lt_of_le (kthP_spec hx).1 hn40)) ok_Mo_manyOf w_Mo_210 rfl b_95 e_95 rfl ⟨Nat.le_of_ble_eq_true rfl, Nat.le_of_ble_eq_true rfl⟩ (rest := []) rfl (Nat.le_of_ble_eq_true rfl) d_Mo_group_71 ?_
          refine kD (st' := [.int (nI (ct (fun k => decide (G k = (kthP (fun k => decide (G k = k)) n x))) n))]) rfl ?_
          refine r_end_i X d_Mo_group_74 ?_
          refine ⟨G, hLab, ?_, hfr, rfl⟩; rw [show ix (nI x) (rootsN G n) = some x from ix_in hx (by unfold rootsN; omega), show ix (nI 0) 3 = some 0 from by decide]; rfl
        | 1, _ =>
          refine r_tswIn X (off := 32) (tgt := 75) d_Mo_group_43 (by decide) (by decide) (by decide) (by decide) ?_
          refine r_iload X 0 d_Mo_group_75 rfl ?_
          refine r_end_i X d_Mo_group_77 ?_
          refine ⟨G, hLab, ?_, hfr, rfl⟩; rw [show ix (nI x) (rootsN G n) = some x from ix_in hx (by unfold rootsN; omega), show ix (nI 1) 3 = some 1 from by decide]; rfl
        | 2, _ =>
          refine r_tswIn X (off := 35) (tgt := 78) d_Mo_group_43 (by decide) (by decide) (by decide) (by decide) ?_
          refine r_aload_n X 1 d_Mo_group_78 rfl rfl ?_
          refine r_iload X 0 d_Mo_group_79 rfl ?_
          refine r_callV X (m_Mo_wide l o mi_g1 ml (kthP (fun k => decide (G k = k)) n x) n G (by omega) (by omega) (hG) (hGk) (Nat.lt_of_lt_of_le (kthP_spec hx).1 hn40)) ok_Mo_wide w_Mo_213 rfl b_95 e_95 rfl ⟨Nat.le_of_ble_eq_true rfl, Nat.le_of_ble_eq_true rfl⟩ (rest := []) rfl (Nat.le_of_ble_eq_true rfl) d_Mo_group_81 ?_
          refine kD (st' := [.int (nI (mxO (fun a c => if (!decide (G a = (kthP (fun k => decide (G k = k)) n x)) || !decide (G c = (kthP (fun k => decide (G k = k)) n x))) then 0 else ds (oM ml a) (oM ml c)) n))]) rfl ?_
          refine r_end_i X d_Mo_group_84 ?_
          refine ⟨G, hLab, ?_, hfr, rfl⟩; rw [show ix (nI x) (rootsN G n) = some x from ix_in hx (by unfold rootsN; omega), show ix (nI 2) 3 = some 2 from by decide]; rfl
    · -- not taken
      refine r_ldc X (v := ((-1000000001 : Int32))) k_Mo_145 (by decide) d_Mo_group_32 ?_
      refine r_end_i X d_Mo_group_34 ?_
      refine ⟨G, hLab, ?_, hfr, rfl⟩; rw [show ix g (rootsN G n) = none from isMk_none (by assumption)]; rfl
  · -- not taken
    exact False.elim (by have e := in_nat (a := 0) (j := q) (m := 64) (by omega) (by omega) (by decide); exact absurd (c_9.symm.trans e) (by decide))

set_option maxHeartbeats 4000000 in
set_option maxRecDepth 100000 in
theorem m_Mo_middle_o (l : Launch) (o : OM) (mi : MI) (ml : ML) (b : Int32) (g : Int32) (n : Nat) (hn : ml 96 2 = lN n) (hn40 : n ≤ 40) (hb : b < nI 0 ∨ nI 64 < b) : ConD l y_Mo_middle c_Mo_middle 9 (some .long) 8 270 o [.ref (ads o (95)), .int (b), .int (g)] mi ml (some (.long (0))) mi ml := by
  refine Con.mk (by decide) (Nat.le_of_ble_eq_true rfl) (fun γ X => ?_)
  show V γ o 9 mi ml 0 [(0, .ref (ads o (95))), (1, .int (b)), (2, .int (g))] []
  refine r_iload_n X 1 d_Mo_middle_0 rfl rfl ?_
  refine r_i2l X (v := (b).toInt64) d_Mo_middle_1 (rfl) ?_
  refine r_lconst X (v := 0) d_Mo_middle_2 (by decide) ?_
  refine r_ldc2 X (v := (64 : Int64)) k_Mo_202 d_Mo_middle_3 ?_
  refine r_callS X (m_Mo_in l o mi ml ((b).toInt64) 0 (64 : Int64)) ok_Mo_in w_Mo_63 rfl ⟨Nat.le_of_ble_eq_true rfl, Nat.le_of_ble_eq_true rfl⟩ (rest := []) rfl (Nat.le_of_ble_eq_true rfl) d_Mo_middle_6 ?_
  refine kD (st' := [.int (bI (!decide (((b).toInt64) < 0) && !decide ((64 : Int64) < ((b).toInt64))))]) rfl ?_
  refine r_ifeqB X (tgt := 29) (b := !decide (((b).toInt64) < 0) && !decide ((64 : Int64) < ((b).toInt64))) d_Mo_middle_9 (by decide) (fun c_9 => ?_) (fun c_9 => ?_)
  · -- taken
    refine r_lconst X (v := 0) d_Mo_middle_29 (by decide) ?_
    refine r_end_l X d_Mo_middle_30 ?_
    first | exact ⟨rfl, rfl, rfl⟩ | (refine ⟨?_, rfl, rfl⟩; simp_all)
  · -- not taken
    exact False.elim (by have e := in_out (a := 0) (m := 64) (by decide) (by decide) hb; exact absurd (c_9.symm.trans e) (by decide))

set_option maxHeartbeats 4000000 in
set_option maxRecDepth 100000 in
theorem m_Mo_middle_i (l : Launch) (o : OM) (mi : MI) (ml : ML) (q : Nat) (g : Int32) (n : Nat) (hn : ml 96 2 = lN n) (hn40 : n ≤ 40) (hq : q ≤ 64) : Con l y_Mo_middle c_Mo_middle 9 (some .long) 8 270 o [.ref (ads o (95)), .int (nI (q)), .int (g)] mi ml (fun v a z => ∃ G : Nat → Nat, Lab (oM ml) n q G ∧ v = some (.long (oJ (ix g (rootsN G n)) 0 (fun x => stN (midP (oM ml) n G (rootAt G n x)) 64))) ∧ (∀ t, t ≠ 109 → a t = mi t) ∧ z = ml) := by
  refine Con.mk (by decide) (Nat.le_of_ble_eq_true rfl) (fun γ X => ?_)
  show V γ o 9 mi ml 0 [(0, .ref (ads o (95))), (1, .int (nI (q))), (2, .int (g))] []
  refine r_iload_n X 1 d_Mo_middle_0 rfl rfl ?_
  refine r_i2l X (v := lN (q)) d_Mo_middle_1 (nI_l (by omega)) ?_
  refine r_lconst X (v := 0) d_Mo_middle_2 (by decide) ?_
  refine r_ldc2 X (v := (64 : Int64)) k_Mo_202 d_Mo_middle_3 ?_
  refine r_callS X (m_Mo_in l o mi ml (lN (q)) 0 (64 : Int64)) ok_Mo_in w_Mo_63 rfl ⟨Nat.le_of_ble_eq_true rfl, Nat.le_of_ble_eq_true rfl⟩ (rest := []) rfl (Nat.le_of_ble_eq_true rfl) d_Mo_middle_6 ?_
  refine kD (st' := [.int (bI (!decide ((lN (q)) < 0) && !decide ((64 : Int64) < (lN (q)))))]) rfl ?_
  refine r_ifeqB X (tgt := 29) (b := !decide ((lN (q)) < 0) && !decide ((64 : Int64) < (lN (q)))) d_Mo_middle_9 (by decide) (fun c_9 => ?_) (fun c_9 => ?_)
  · -- taken
    exact False.elim (by have e := in_nat (a := 0) (j := q) (m := 64) (by omega) (by omega) (by decide); exact absurd (c_9.symm.trans e) (by decide))
  · -- not taken
    refine r_iload_n X 2 d_Mo_middle_12 rfl rfl ?_
    refine r_i2l X (v := (g).toInt64) d_Mo_middle_13 (rfl) ?_
    refine r_lconst X (v := 0) d_Mo_middle_14 (by decide) ?_
    refine r_aload_n X 0 d_Mo_middle_15 rfl rfl ?_
    refine r_iload_n X 1 d_Mo_middle_16 rfl rfl ?_
    refine r_callV X (m_Mo_layGroups l o mi ml q n (hn) hn40 (by omega)) ok_Mo_layGroups w_Mo_204 rfl b_95 e_95 rfl ⟨Nat.le_of_ble_eq_true rfl, Nat.le_of_ble_eq_true rfl⟩ (rest := [.long (0), .long ((g).toInt64)]) rfl (Nat.le_of_ble_eq_true rfl) d_Mo_middle_17 ?_
    rintro _ mi_g1 zz ⟨G, rfl, hfr, hz, hLab, hG⟩
    have hz := hz.symm
    subst hz
    have hGk := fun k hk => (hLab.1 k hk).1
    have hct := ct_le (fun k => decide (G k = k)) n
    show V γ o 9 mi_g1 ml 20 [(0, .ref (ads o (95))), (1, .int (nI (q))), (2, .int (g))] [.int (nI (ct (fun k => decide (G k = k)) n)), .long (0), .long ((g).toInt64)]
    refine r_iconst X (v := nI (1)) d_Mo_middle_20 (by decide) ?_
    refine r_isub X (v := (nI (ct (fun k => decide (G k = k)) n) - nI (1))) d_Mo_middle_21 (rfl) ?_
    refine r_i2l X (v := ((nI (ct (fun k => decide (G k = k)) n) - nI (1))).toInt64) d_Mo_middle_22 (rfl) ?_
    refine r_callS X (m_Mo_in l o mi_g1 ml ((g).toInt64) 0 (((nI (ct (fun k => decide (G k = k)) n) - nI (1))).toInt64)) ok_Mo_in w_Mo_63 rfl ⟨Nat.le_of_ble_eq_true rfl, Nat.le_of_ble_eq_true rfl⟩ (rest := []) rfl (Nat.le_of_ble_eq_true rfl) d_Mo_middle_23 ?_
    refine kD (st' := [.int (bI (!decide (((g).toInt64) < 0) && !decide ((((nI (ct (fun k => decide (G k = k)) n) - nI (1))).toInt64) < ((g).toInt64))))]) rfl ?_
    rw [isMk_eq (by omega) g]
    refine r_ifneB X (tgt := 31) (b := isMk (ct (fun k => decide (G k = k)) n) g) d_Mo_middle_26 (by decide) (fun c_26 => ?_) (fun c_26 => ?_)
    · -- taken
      obtain ⟨x, hx, rfl⟩ := isMk_ex (n := ct (fun k => decide (G k = k)) n) (k := g) (by omega) (by assumption)
      refine r_aload_n X 0 d_Mo_middle_31 rfl rfl ?_
      refine r_iload_n X 2 d_Mo_middle_32 rfl rfl ?_
      refine r_callV X (m_Mo_leastOf l o mi_g1 ml x n G (by omega) (hG) (hGk) (hx)) ok_Mo_leastOf w_Mo_207 rfl b_95 e_95 rfl ⟨Nat.le_of_ble_eq_true rfl, Nat.le_of_ble_eq_true rfl⟩ (rest := []) rfl (Nat.le_of_ble_eq_true rfl) d_Mo_middle_33 ?_
      refine kD (st' := [.int (nI (kthP (fun k => decide (G k = k)) n x))]) rfl ?_
      refine r_istore_n X [(3, .int (nI (kthP (fun k => decide (G k = k)) n x))), (0, .ref (ads o (95))), (1, .int (nI (q))), (2, .int (nI (x)))] d_Mo_middle_36 rfl (Nat.le_of_ble_eq_true rfl) rfl ?_
      refine r_lconst X (v := 0) d_Mo_middle_37 (by decide) ?_
      refine r_lstore X [(4, .long (0)), (3, .int (nI (kthP (fun k => decide (G k = k)) n x))), (0, .ref (ads o (95))), (1, .int (nI (q))), (2, .int (nI (x)))] d_Mo_middle_38 (Nat.le_of_ble_eq_true rfl) rfl ?_
      refine r_iconst X (v := nI (0)) d_Mo_middle_40 (by decide) ?_
      refine r_istore X [(6, .int (nI (0))), (4, .long (0)), (3, .int (nI (kthP (fun k => decide (G k = k)) n x))), (0, .ref (ads o (95))), (1, .int (nI (q))), (2, .int (nI (x)))] d_Mo_middle_41 (Nat.le_of_ble_eq_true rfl) rfl ?_
      have L43_2 : ∀ (d_i i : Nat), i + d_i = 64 → V γ o 9 mi_g1 ml 43 [(0, .ref (ads o (95))), (1, .int (nI (q))), (2, .int (nI (x))), (3, .int (nI (kthP (fun k => decide (G k = k)) n x))), (4, .long (stN (midP (oM ml) n G (rootAt G n x)) (i))), (6, .int (nI (i)))] [] := by
        intro d_i
        induction d_i with
        | zero =>
          intro i hi_L43_2 
          have he_L43_2 : 64 = i := by omega
          subst he_L43_2
          refine r_iload X 5 d_Mo_middle_43 rfl ?_
          refine r_bipush X (v := nI (64)) d_Mo_middle_45 (by decide) ?_
          refine r_icge X (tgt := 137) (c := 64 ≤ 64) d_Mo_middle_47 (by decide) (nI_leI (Nat.le_of_ble_eq_true rfl) (by omega)) (fun c_47 => ?_) (fun c_47 => ?_)
          · -- taken
            refine r_lload X 4 d_Mo_middle_137 rfl ?_
            refine r_end_l X d_Mo_middle_139 ?_
            refine ⟨G, hLab, ?_, hfr, rfl⟩; rw [show ix (nI x) (rootsN G n) = some x from ix_in hx (by unfold rootsN; omega)]; rfl
          · -- not taken
            exact False.elim (by omega)
        | succ d_i ih_L43_2 =>
          intro i hi_L43_2 
          have hlt_L43_2 : i < 64 := by omega
          have hkr := (kthP_spec hx).1
          refine r_iload X 5 d_Mo_middle_43 rfl ?_
          refine r_bipush X (v := nI (64)) d_Mo_middle_45 (by decide) ?_
          refine r_icge X (tgt := 137) (c := 64 ≤ i) d_Mo_middle_47 (by decide) (nI_leI (Nat.le_of_ble_eq_true rfl) (by omega)) (fun c_47_3 => ?_) (fun c_47_3 => ?_)
          · -- taken
            exact False.elim (by omega)
          · -- not taken
            refine r_iconst X (v := nI (0)) d_Mo_middle_50 (by decide) ?_
            refine r_istore X [(7, .int (nI (0))), (0, .ref (ads o (95))), (1, .int (nI (q))), (2, .int (nI (x))), (3, .int (nI (kthP (fun k => decide (G k = k)) n x))), (4, .long (stN (midP (oM ml) n G (rootAt G n x)) (i))), (6, .int (nI (i)))] d_Mo_middle_51 (Nat.le_of_ble_eq_true rfl) rfl ?_
            refine r_iconst X (v := nI (0)) d_Mo_middle_53 (by decide) ?_
            refine r_istore X [(8, .int (nI (0))), (7, .int (nI (0))), (0, .ref (ads o (95))), (1, .int (nI (q))), (2, .int (nI (x))), (3, .int (nI (kthP (fun k => decide (G k = k)) n x))), (4, .long (stN (midP (oM ml) n G (rootAt G n x)) (i))), (6, .int (nI (i)))] d_Mo_middle_54 (Nat.le_of_ble_eq_true rfl) rfl ?_
            have L56_4 : ∀ (d_j j : Nat), j + d_j = n → V γ o 9 mi_g1 ml 56 [(0, .ref (ads o (95))), (1, .int (nI (q))), (2, .int (nI (x))), (3, .int (nI (kthP (fun k => decide (G k = k)) n x))), (4, .long (stN (midP (oM ml) n G (rootAt G n x)) (i))), (6, .int (nI (i))), (7, .int (nI (ct (fun k => decide (G k = kthP (fun k => decide (G k = k)) n x) && bt (oM ml k) i) (j)))), (8, .int (nI (j)))] [] := by
              intro d_j
              induction d_j with
              | zero =>
                intro j hi_L56_4 
                have he_L56_4 : n = j := by omega
                subst he_L56_4
                have hc1 := ct_le (fun k => decide (G k = kthP (fun k => decide (G k = k)) n x) && bt (oM ml k) i) n
                have hc2 := ct_le (fun k => decide (G k = kthP (fun k => decide (G k = k)) n x)) n
                refine r_iload X 7 d_Mo_middle_56 rfl ?_
                refine r_aload_n X 0 d_Mo_middle_58 rfl rfl ?_
                refine r_callV X (m_Mo_marks l o mi_g1 ml n (hn) (by omega)) ok_Mo_marks w_Mo_59 rfl b_95 e_95 rfl ⟨Nat.le_of_ble_eq_true rfl, Nat.le_of_ble_eq_true rfl⟩ (rest := [.int (nI (n))]) rfl (Nat.le_of_ble_eq_true rfl) d_Mo_middle_59 ?_
                refine kD (st' := [.int (nI (n)), .int (nI (n))]) rfl ?_
                refine r_icge X (tgt := 106) (c := n ≤ n) d_Mo_middle_62 (by decide) (nI_leI (by omega) (by omega)) (fun c_62 => ?_) (fun c_62 => ?_)
                · -- taken
                  refine r_lload X 4 d_Mo_middle_106 rfl ?_
                  refine r_iconst X (v := nI (2)) d_Mo_middle_108 (by decide) ?_
                  refine r_iload X 6 d_Mo_middle_109 rfl ?_
                  refine r_imul X (v := nI (2 * (ct (fun k => decide (G k = kthP (fun k => decide (G k = k)) n x) && bt (oM ml k) i) (n)))) d_Mo_middle_111 (pk_mul _ _) ?_
                  refine r_aload_n X 0 d_Mo_middle_112 rfl rfl ?_
                  refine r_iload_n X 3 d_Mo_middle_113 rfl rfl ?_
                  refine r_callV X (m_Mo_manyOf l o mi_g1 ml (kthP (fun k => decide (G k = k)) n x) n G (by omega) (by omega) (hG) (hGk) (Nat.lt_of_lt_of_le (kthP_spec hx).1 hn40)) ok_Mo_manyOf w_Mo_210 rfl b_95 e_95 rfl ⟨Nat.le_of_ble_eq_true rfl, Nat.le_of_ble_eq_true rfl⟩ (rest := [.int (nI (2 * (ct (fun k => decide (G k = kthP (fun k => decide (G k = k)) n x) && bt (oM ml k) i) (n)))), .long (stN (midP (oM ml) n G (rootAt G n x)) (i))]) rfl (Nat.le_of_ble_eq_true rfl) d_Mo_middle_114 ?_
                  refine kD (st' := [.int (nI (ct (fun k => decide (G k = (kthP (fun k => decide (G k = k)) n x))) n)), .int (nI (2 * (ct (fun k => decide (G k = kthP (fun k => decide (G k = k)) n x) && bt (oM ml k) i) (n)))), .long (stN (midP (oM ml) n G (rootAt G n x)) (i))]) rfl ?_
                  have hJ_5 : V γ o 9 mi_g1 ml 128 [(0, .ref (ads o (95))), (1, .int (nI (q))), (2, .int (nI (x))), (3, .int (nI (kthP (fun k => decide (G k = k)) n x))), (4, .long (stN (midP (oM ml) n G (rootAt G n x)) (i))), (6, .int (nI (i))), (7, .int (nI (ct (fun k => decide (G k = kthP (fun k => decide (G k = k)) n x) && bt (oM ml k) i) (n)))), (8, .int (nI (n)))] [.long (if decide ((2 * (ct (fun k => decide (G k = kthP (fun k => decide (G k = k)) n x) && bt (oM ml k) i) (n))) ≤ (ct (fun k => decide (G k = (kthP (fun k => decide (G k = k)) n x))) n)) then 0 else shl (1) (i)), .long (stN (midP (oM ml) n G (rootAt G n x)) (i))] := by
                    refine r_lor X (v := (stN (midP (oM ml) n G (rootAt G n x)) (i)) ||| (if decide ((2 * (ct (fun k => decide (G k = kthP (fun k => decide (G k = k)) n x) && bt (oM ml k) i) (n))) ≤ (ct (fun k => decide (G k = (kthP (fun k => decide (G k = k)) n x))) n)) then 0 else shl (1) (i))) d_Mo_middle_128 (rfl) ?_
                    refine r_lstore X [(4, .long ((stN (midP (oM ml) n G (rootAt G n x)) (i)) ||| (if decide ((2 * (ct (fun k => decide (G k = kthP (fun k => decide (G k = k)) n x) && bt (oM ml k) i) (n))) ≤ (ct (fun k => decide (G k = (kthP (fun k => decide (G k = k)) n x))) n)) then 0 else shl (1) (i)))), (0, .ref (ads o (95))), (1, .int (nI (q))), (2, .int (nI (x))), (3, .int (nI (kthP (fun k => decide (G k = k)) n x))), (6, .int (nI (i))), (7, .int (nI (ct (fun k => decide (G k = kthP (fun k => decide (G k = k)) n x) && bt (oM ml k) i) (n)))), (8, .int (nI (n)))] d_Mo_middle_129 (Nat.le_of_ble_eq_true rfl) rfl ?_
                    refine r_iinc X 5 (v := nI (i + 1)) [(6, .int (nI (i + 1))), (4, .long ((stN (midP (oM ml) n G (rootAt G n x)) (i)) ||| (if decide ((2 * (ct (fun k => decide (G k = kthP (fun k => decide (G k = k)) n x) && bt (oM ml k) i) (n))) ≤ (ct (fun k => decide (G k = (kthP (fun k => decide (G k = k)) n x))) n)) then 0 else shl (1) (i)))), (0, .ref (ads o (95))), (1, .int (nI (q))), (2, .int (nI (x))), (3, .int (nI (kthP (fun k => decide (G k = k)) n x))), (7, .int (nI (ct (fun k => decide (G k = kthP (fun k => decide (G k = k)) n x) && bt (oM ml k) i) (n)))), (8, .int (nI (n)))] d_Mo_middle_131 rfl (nI_add _ 1) (Nat.le_of_ble_eq_true rfl) rfl ?_
                    refine r_goto X (tgt := 43) d_Mo_middle_134 (by decide) ?_
                    refine V.wk [2, 3, 4, 5, 1, 0] (V.eq (ih_L43_2 (i + 1) (by omega) ) ?_ ?_ ?_ rfl) (rfl : lv_pick _ [2, 3, 4, 5, 1, 0] = [(0, .ref (ads o (95))), (1, .int (nI (q))), (2, .int (nI (x))), (3, .int (nI (kthP (fun k => decide (G k = k)) n x))), (4, .long ((stN (midP (oM ml) n G (rootAt G n x)) (i)) ||| (if decide ((2 * (ct (fun k => decide (G k = kthP (fun k => decide (G k = k)) n x) && bt (oM ml k) i) (n))) ≤ (ct (fun k => decide (G k = (kthP (fun k => decide (G k = k)) n x))) n)) then 0 else shl (1) (i)))), (6, .int (nI (i + 1)))])
                    · rfl
                    · rfl
                    · first | rfl | (simp_all [ct, lastB, alB, fromB]; done)
                  refine r_icle X (tgt := 127) (c := (2 * (ct (fun k => decide (G k = kthP (fun k => decide (G k = k)) n x) && bt (oM ml k) i) (n))) ≤ (ct (fun k => decide (G k = (kthP (fun k => decide (G k = k)) n x))) n)) d_Mo_middle_117 (by decide) (nI_leI (by omega) (by omega)) (fun c_117 => ?_) (fun c_117 => ?_)
                  · -- taken
                    refine r_lconst X (v := 0) d_Mo_middle_127 (by decide) ?_
                    exact V.eq hJ_5 rfl rfl rfl (by rw [show (if decide ((2 * (ct (fun k => decide (G k = kthP (fun k => decide (G k = k)) n x) && bt (oM ml k) i) (n))) ≤ (ct (fun k => decide (G k = (kthP (fun k => decide (G k = k)) n x))) n)) then 0 else shl (1) (i)) = (0) from by first | (simp only [eq_true c_117, decide_true, decide_false, Bool.not_true, Bool.not_false, Bool.true_and, Bool.false_and, Bool.and_true, Bool.and_false, Bool.true_or, Bool.false_or, Bool.or_true, Bool.or_false, if_true, if_false, ite_true, ite_false, cond_true, cond_false, Bool.false_eq_true, reduceIte]; done) | (simp [c_117]; done) | (simp_all; done)])
                  · -- not taken
                    refine r_lconst X (v := 1) d_Mo_middle_120 (by decide) ?_
                    refine r_iload X 5 d_Mo_middle_121 rfl ?_
                    refine r_lshl X (v := shl (1) (i)) d_Mo_middle_123 (rfl) ?_
                    refine r_goto X (tgt := 128) d_Mo_middle_124 (by decide) ?_
                    exact V.eq hJ_5 rfl rfl rfl (by rw [show (if decide ((2 * (ct (fun k => decide (G k = kthP (fun k => decide (G k = k)) n x) && bt (oM ml k) i) (n))) ≤ (ct (fun k => decide (G k = (kthP (fun k => decide (G k = k)) n x))) n)) then 0 else shl (1) (i)) = (shl (1) (i)) from by first | (simp only [eq_false c_117, decide_true, decide_false, Bool.not_true, Bool.not_false, Bool.true_and, Bool.false_and, Bool.and_true, Bool.and_false, Bool.true_or, Bool.false_or, Bool.or_true, Bool.or_false, if_true, if_false, ite_true, ite_false, cond_true, cond_false, Bool.false_eq_true, reduceIte]; done) | (simp [c_117]; done) | (simp_all; done)])
                · -- not taken
                  exact False.elim (by omega)
              | succ d_j ih_L56_4 =>
                intro j hi_L56_4 
                have hlt_L56_4 : j < n := by omega
                refine r_iload X 7 d_Mo_middle_56 rfl ?_
                refine r_aload_n X 0 d_Mo_middle_58 rfl rfl ?_
                refine r_callV X (m_Mo_marks l o mi_g1 ml n (hn) (by omega)) ok_Mo_marks w_Mo_59 rfl b_95 e_95 rfl ⟨Nat.le_of_ble_eq_true rfl, Nat.le_of_ble_eq_true rfl⟩ (rest := [.int (nI (j))]) rfl (Nat.le_of_ble_eq_true rfl) d_Mo_middle_59 ?_
                refine kD (st' := [.int (nI (n)), .int (nI (j))]) rfl ?_
                refine r_icge X (tgt := 106) (c := n ≤ j) d_Mo_middle_62 (by decide) (nI_leI (by omega) (by omega)) (fun c_62_6 => ?_) (fun c_62_6 => ?_)
                · -- taken
                  exact False.elim (by omega)
                · -- not taken
                  refine r_iload X 6 d_Mo_middle_65 rfl ?_
                  refine r_aload_n X 0 d_Mo_middle_67 rfl rfl ?_
                  refine r_get X f_Mo_51 b_95 e_95 (v := .ref (ads o (109))) rfl d_Mo_middle_68 ?_
                  refine r_iload X 7 d_Mo_middle_71 rfl ?_
                  refine r_iald X (v := nI (G j)) b_109 e_109 (Nat.le_of_ble_eq_true rfl) (by omega) (hG j (by omega)) d_Mo_middle_73 ?_
                  refine r_iload_n X 3 d_Mo_middle_74 rfl rfl ?_
                  have hJ_7 : V γ o 9 mi_g1 ml 97 [(0, .ref (ads o (95))), (1, .int (nI (q))), (2, .int (nI (x))), (3, .int (nI (kthP (fun k => decide (G k = k)) n x))), (4, .long (stN (midP (oM ml) n G (rootAt G n x)) (i))), (6, .int (nI (i))), (7, .int (nI (ct (fun k => decide (G k = kthP (fun k => decide (G k = k)) n x) && bt (oM ml k) i) (j)))), (8, .int (nI (j)))] [.int (bI ((decide ((G j) = (kthP (fun k => decide (G k = k)) n x)) && (bt (oM ml j) i)))), .int (nI (ct (fun k => decide (G k = kthP (fun k => decide (G k = k)) n x) && bt (oM ml k) i) (j)))] := by
                    refine r_iadd X (v := nI (ct (fun k => decide (G k = kthP (fun k => decide (G k = k)) n x) && bt (oM ml k) i) (j) + ((decide ((G j) = (kthP (fun k => decide (G k = k)) n x)) && (bt (oM ml j) i))).toNat)) d_Mo_middle_97 (bI_add _ _) ?_
                    refine r_istore X [(7, .int (nI (ct (fun k => decide (G k = kthP (fun k => decide (G k = k)) n x) && bt (oM ml k) i) (j) + ((decide ((G j) = (kthP (fun k => decide (G k = k)) n x)) && (bt (oM ml j) i))).toNat))), (0, .ref (ads o (95))), (1, .int (nI (q))), (2, .int (nI (x))), (3, .int (nI (kthP (fun k => decide (G k = k)) n x))), (4, .long (stN (midP (oM ml) n G (rootAt G n x)) (i))), (6, .int (nI (i))), (8, .int (nI (j)))] d_Mo_middle_98 (Nat.le_of_ble_eq_true rfl) rfl ?_
                    refine r_iinc X 7 (v := nI (j + 1)) [(8, .int (nI (j + 1))), (7, .int (nI (ct (fun k => decide (G k = kthP (fun k => decide (G k = k)) n x) && bt (oM ml k) i) (j) + ((decide ((G j) = (kthP (fun k => decide (G k = k)) n x)) && (bt (oM ml j) i))).toNat))), (0, .ref (ads o (95))), (1, .int (nI (q))), (2, .int (nI (x))), (3, .int (nI (kthP (fun k => decide (G k = k)) n x))), (4, .long (stN (midP (oM ml) n G (rootAt G n x)) (i))), (6, .int (nI (i)))] d_Mo_middle_100 rfl (nI_add _ 1) (Nat.le_of_ble_eq_true rfl) rfl ?_
                    refine r_goto X (tgt := 56) d_Mo_middle_103 (by decide) ?_
                    refine V.wk [2, 3, 4, 5, 6, 7, 1, 0] (V.eq (ih_L56_4 (j + 1) (by omega) ) ?_ ?_ ?_ rfl) (rfl : lv_pick _ [2, 3, 4, 5, 6, 7, 1, 0] = [(0, .ref (ads o (95))), (1, .int (nI (q))), (2, .int (nI (x))), (3, .int (nI (kthP (fun k => decide (G k = k)) n x))), (4, .long (stN (midP (oM ml) n G (rootAt G n x)) (i))), (6, .int (nI (i))), (7, .int (nI (ct (fun k => decide (G k = kthP (fun k => decide (G k = k)) n x) && bt (oM ml k) i) (j) + ((decide ((G j) = (kthP (fun k => decide (G k = k)) n x)) && (bt (oM ml j) i))).toNat))), (8, .int (nI (j + 1)))])
                    · rfl
                    · rfl
                    · first | rfl | (simp_all [ct, lastB, alB, fromB]; done)
                  refine r_icneP X (tgt := 96) (c := (G j) = (kthP (fun k => decide (G k = k)) n x)) d_Mo_middle_75 (by decide) (nI_eq (Nat.lt_of_le_of_lt (hGk j (by omega)) (by omega)) (Nat.lt_of_lt_of_le (kthP_spec (by assumption)).1 (by omega))) (fun c_75 => ?_) (fun c_75 => ?_)
                  · -- taken
                    refine r_iconst X (v := nI (0)) d_Mo_middle_96 (by decide) ?_
                    exact V.eq hJ_7 rfl rfl rfl (by rw [show ((decide ((G j) = (kthP (fun k => decide (G k = k)) n x)) && (bt (oM ml j) i))) = false from by first | (simp only [eq_false c_75, decide_true, decide_false, Bool.not_true, Bool.not_false, Bool.true_and, Bool.false_and, Bool.and_true, Bool.and_false, Bool.true_or, Bool.false_or, Bool.or_true, Bool.or_false, if_true, if_false, ite_true, ite_false, cond_true, cond_false, Bool.false_eq_true, reduceIte]; done) | (simp [c_75]; done) | (simp_all; done)]; rfl)
                  · -- not taken
                    refine r_aload_n X 0 d_Mo_middle_78 rfl rfl ?_
                    refine r_iload X 7 d_Mo_middle_79 rfl ?_
                    refine r_callV X (m_Mo_own l o mi_g1 ml j (by omega)) ok_Mo_own w_Mo_67 rfl b_95 e_95 rfl ⟨Nat.le_of_ble_eq_true rfl, Nat.le_of_ble_eq_true rfl⟩ (rest := [.int (nI (ct (fun k => decide (G k = kthP (fun k => decide (G k = k)) n x) && bt (oM ml k) i) (j)))]) rfl (Nat.le_of_ble_eq_true rfl) d_Mo_middle_81 ?_
                    refine kD (st' := [.long (oM ml j), .int (nI (ct (fun k => decide (G k = kthP (fun k => decide (G k = k)) n x) && bt (oM ml k) i) (j)))]) rfl ?_
                    refine r_iload X 5 d_Mo_middle_84 rfl ?_
                    refine r_callS X (m_Mo_has l o mi_g1 ml (oM ml j) i (by omega)) ok_Mo_has w_Mo_75 rfl ⟨Nat.le_of_ble_eq_true rfl, Nat.le_of_ble_eq_true rfl⟩ (rest := [.int (nI (ct (fun k => decide (G k = kthP (fun k => decide (G k = k)) n x) && bt (oM ml k) i) (j)))]) rfl (Nat.le_of_ble_eq_true rfl) d_Mo_middle_86 ?_
                    refine kD (st' := [.int (bI (bt (oM ml j) i)), .int (nI (ct (fun k => decide (G k = kthP (fun k => decide (G k = k)) n x) && bt (oM ml k) i) (j)))]) rfl ?_
                    refine r_ifeqB X (tgt := 96) (b := bt (oM ml j) i) d_Mo_middle_89 (by decide) (fun c_89 => ?_) (fun c_89 => ?_)
                    · -- taken
                      refine r_iconst X (v := nI (0)) d_Mo_middle_96 (by decide) ?_
                      exact V.eq hJ_7 rfl rfl rfl (by rw [show ((decide ((G j) = (kthP (fun k => decide (G k = k)) n x)) && (bt (oM ml j) i))) = false from by first | (simp only [eq_true c_75, c_89, decide_true, decide_false, Bool.not_true, Bool.not_false, Bool.true_and, Bool.false_and, Bool.and_true, Bool.and_false, Bool.true_or, Bool.false_or, Bool.or_true, Bool.or_false, if_true, if_false, ite_true, ite_false, cond_true, cond_false, Bool.false_eq_true, reduceIte]; done) | (simp [c_75, c_89]; done) | (simp_all; done)]; rfl)
                    · -- not taken
                      refine r_iconst X (v := nI (1)) d_Mo_middle_92 (by decide) ?_
                      refine r_goto X (tgt := 97) d_Mo_middle_93 (by decide) ?_
                      exact V.eq hJ_7 rfl rfl rfl (by rw [show ((decide ((G j) = (kthP (fun k => decide (G k = k)) n x)) && (bt (oM ml j) i))) = true from by first | (simp only [eq_true c_75, c_89, decide_true, decide_false, Bool.not_true, Bool.not_false, Bool.true_and, Bool.false_and, Bool.and_true, Bool.and_false, Bool.true_or, Bool.false_or, Bool.or_true, Bool.or_false, if_true, if_false, ite_true, ite_false, cond_true, cond_false, Bool.false_eq_true, reduceIte]; done) | (simp [c_75, c_89]; done) | (simp_all; done)]; rfl)
            refine V.wk [2, 3, 4, 5, 6, 7, 1, 0] (V.eq (L56_4 (n - 0) 0 (by omega) ) ?_ ?_ ?_ rfl) (rfl : lv_pick _ [2, 3, 4, 5, 6, 7, 1, 0] = [(0, .ref (ads o (95))), (1, .int (nI (q))), (2, .int (nI (x))), (3, .int (nI (kthP (fun k => decide (G k = k)) n x))), (4, .long (stN (midP (oM ml) n G (rootAt G n x)) (i))), (6, .int (nI (i))), (7, .int (nI (0))), (8, .int (nI (0)))])
            · rfl
            · rfl
            · rfl
      refine V.wk [3, 4, 5, 2, 1, 0] (V.eq (L43_2 (64 - 0) 0 (by omega) ) ?_ ?_ ?_ rfl) (rfl : lv_pick _ [3, 4, 5, 2, 1, 0] = [(0, .ref (ads o (95))), (1, .int (nI (q))), (2, .int (nI (x))), (3, .int (nI (kthP (fun k => decide (G k = k)) n x))), (4, .long (0)), (6, .int (nI (0)))])
      · rfl
      · rfl
      · rfl
    · -- not taken
      refine r_lconst X (v := 0) d_Mo_middle_29 (by decide) ?_
      refine r_end_l X d_Mo_middle_30 ?_
      refine ⟨G, hLab, ?_, hfr, rfl⟩; rw [show ix g (rootsN G n) = none from isMk_none (by assumption)]; rfl
