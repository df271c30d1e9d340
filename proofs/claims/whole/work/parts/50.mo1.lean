set_option maxHeartbeats 4000000 in
set_option maxRecDepth 100000 in
theorem m_Mo_in (l : Launch) (o : OM) (mi : MI) (ml : ML) (x : Int64) (y : Int64) (z : Int64)  : ConD l y_Mo_in c_Mo_in 6 (some .boolean) 0 0 o [.long (x), .long (y), .long (z)] mi ml (some (.int (bI (!decide (x < y) && !decide (z < x))))) mi ml := by
  refine Con.mk (by decide) (Nat.le_of_ble_eq_true rfl) (fun γ X => ?_)
  show V γ o 6 mi ml 0 [(0, .long (x)), (2, .long (y)), (4, .long (z))] []
  refine r_lload_n X 0 d_Mo_in_0 rfl rfl ?_
  refine r_lload_n X 1 d_Mo_in_1 rfl rfl ?_
  refine r_lcmp X d_Mo_in_2 ?_
  have hJ_1 : V γ o 6 mi ml 18 [(0, .long (x)), (2, .long (y)), (4, .long (z))] [.int (bI ((!decide (x < y) && !decide (z < x))))] := by
    refine r_end_z X (bI_nar _) d_Mo_in_18 ?_
    first | exact ⟨rfl, rfl, rfl⟩ | (refine ⟨?_, rfl, rfl⟩; simp_all)
  refine r_iflt X (tgt := 17) (c := x < y) d_Mo_in_3 (by decide) (lg_cmp_lt _ _) (fun c_3 => ?_) (fun c_3 => ?_)
  · -- taken
    refine r_iconst X (v := nI (0)) d_Mo_in_17 (by decide) ?_
    exact V.eq hJ_1 rfl rfl rfl (by rw [show ((!decide (x < y) && !decide (z < x))) = false from by first | (simp only [eq_true c_3, decide_true, decide_false, Bool.not_true, Bool.not_false, Bool.true_and, Bool.false_and, Bool.and_true, Bool.and_false, Bool.true_or, Bool.false_or, Bool.or_true, Bool.or_false, if_true, if_false, ite_true, ite_false, cond_true, cond_false, Bool.false_eq_true, reduceIte]; done) | (simp [c_3]; done) | (simp_all; done)]; rfl)
  · -- not taken
    refine r_lload_n X 0 d_Mo_in_6 rfl rfl ?_
    refine r_lload X 2 d_Mo_in_7 rfl ?_
    refine r_lcmp X d_Mo_in_9 ?_
    refine r_ifgt X (tgt := 17) (c := z < x) d_Mo_in_10 (by decide) (lg_cmp_gt _ _) (fun c_10 => ?_) (fun c_10 => ?_)
    · -- taken
      refine r_iconst X (v := nI (0)) d_Mo_in_17 (by decide) ?_
      exact V.eq hJ_1 rfl rfl rfl (by rw [show ((!decide (x < y) && !decide (z < x))) = false from by first | (simp only [eq_false c_3, eq_true c_10, decide_true, decide_false, Bool.not_true, Bool.not_false, Bool.true_and, Bool.false_and, Bool.and_true, Bool.and_false, Bool.true_or, Bool.false_or, Bool.or_true, Bool.or_false, if_true, if_false, ite_true, ite_false, cond_true, cond_false, Bool.false_eq_true, reduceIte]; done) | (simp [c_3, c_10]; done) | (simp_all; done)]; rfl)
    · -- not taken
      refine r_iconst X (v := nI (1)) d_Mo_in_13 (by decide) ?_
      refine r_goto X (tgt := 18) d_Mo_in_14 (by decide) ?_
      exact V.eq hJ_1 rfl rfl rfl (by rw [show ((!decide (x < y) && !decide (z < x))) = true from by first | (simp only [eq_false c_3, eq_false c_10, decide_true, decide_false, Bool.not_true, Bool.not_false, Bool.true_and, Bool.false_and, Bool.and_true, Bool.and_false, Bool.true_or, Bool.false_or, Bool.or_true, Bool.or_false, if_true, if_false, ite_true, ite_false, cond_true, cond_false, Bool.false_eq_true, reduceIte]; done) | (simp [c_3, c_10]; done) | (simp_all; done)]; rfl)

set_option maxHeartbeats 4000000 in
set_option maxRecDepth 100000 in
theorem m_Mo_ones (l : Launch) (o : OM) (mi : MI) (ml : ML) (x : Int64)  : ConD l y_Mo_ones c_Mo_ones 4 (some .int) 0 0 o [.long (x)] mi ml (some (.int (nI (pop x)))) mi ml := by
  refine Con.mk (by decide) (Nat.le_of_ble_eq_true rfl) (fun γ X => ?_)
  show V γ o 4 mi ml 0 [(0, .long (x))] []
  refine r_iconst X (v := nI (0)) d_Mo_ones_0 (by decide) ?_
  refine r_istore_n X [(2, .int (nI (0))), (0, .long (x))] d_Mo_ones_1 rfl (Nat.le_of_ble_eq_true rfl) rfl ?_
  refine r_iconst X (v := nI (0)) d_Mo_ones_2 (by decide) ?_
  refine r_istore_n X [(3, .int (nI (0))), (2, .int (nI (0))), (0, .long (x))] d_Mo_ones_3 rfl (Nat.le_of_ble_eq_true rfl) rfl ?_
  have L4_1 : ∀ (d_i i : Nat), i + d_i = 64 → V γ o 4 mi ml 4 [(0, .long (x)), (2, .int (nI (ct (bt x) (i)))), (3, .int (nI (i)))] [] := by
    intro d_i
    induction d_i with
    | zero =>
      intro i hi_L4_1 
      have he_L4_1 : 64 = i := by omega
      subst he_L4_1
      refine r_iload_n X 2 d_Mo_ones_4 rfl rfl ?_
      refine r_bipush X (v := nI (64)) d_Mo_ones_5 (by decide) ?_
      refine r_icge X (tgt := 34) (c := 64 ≤ 64) d_Mo_ones_7 (by decide) (nI_leI (Nat.le_of_ble_eq_true rfl) (by omega)) (fun c_7 => ?_) (fun c_7 => ?_)
      · -- taken
        refine r_iload_n X 1 d_Mo_ones_34 rfl rfl ?_
        refine r_end_i X d_Mo_ones_35 ?_
        first | exact ⟨rfl, rfl, rfl⟩ | (refine ⟨?_, rfl, rfl⟩; simp_all)
      · -- not taken
        exact False.elim (by omega)
    | succ d_i ih_L4_1 =>
      intro i hi_L4_1 
      have hlt_L4_1 : i < 64 := by omega
      refine r_iload_n X 2 d_Mo_ones_4 rfl rfl ?_
      refine r_bipush X (v := nI (64)) d_Mo_ones_5 (by decide) ?_
      refine r_icge X (tgt := 34) (c := 64 ≤ i) d_Mo_ones_7 (by decide) (nI_leI (Nat.le_of_ble_eq_true rfl) (by omega)) (fun c_7_2 => ?_) (fun c_7_2 => ?_)
      · -- taken
        exact False.elim (by omega)
      · -- not taken
        refine r_iload_n X 1 d_Mo_ones_10 rfl rfl ?_
        refine r_lload_n X 0 d_Mo_ones_11 rfl rfl ?_
        refine r_iload_n X 2 d_Mo_ones_12 rfl rfl ?_
        refine r_lshr X (v := shr (x) (i)) d_Mo_ones_13 (rfl) ?_
        refine r_lconst X (v := 1) d_Mo_ones_14 (by decide) ?_
        refine r_land X (v := (shr (x) (i)) &&& (1)) d_Mo_ones_15 (rfl) ?_
        refine r_lconst X (v := 1) d_Mo_ones_16 (by decide) ?_
        refine r_lcmp X d_Mo_ones_17 ?_
        have hJ_3 : V γ o 4 mi ml 26 [(0, .long (x)), (2, .int (nI (ct (bt x) (i)))), (3, .int (nI (i)))] [.int (bI ((bt x i))), .int (nI (ct (bt x) (i)))] := by
          refine r_iadd X (v := nI (ct (bt x) (i) + ((bt x i)).toNat)) d_Mo_ones_26 (bI_add _ _) ?_
          refine r_istore_n X [(2, .int (nI (ct (bt x) (i) + ((bt x i)).toNat))), (0, .long (x)), (3, .int (nI (i)))] d_Mo_ones_27 rfl (Nat.le_of_ble_eq_true rfl) rfl ?_
          refine r_iinc X 2 (v := nI (i + 1)) [(3, .int (nI (i + 1))), (2, .int (nI (ct (bt x) (i) + ((bt x i)).toNat))), (0, .long (x))] d_Mo_ones_28 rfl (nI_add _ 1) (Nat.le_of_ble_eq_true rfl) rfl ?_
          refine r_goto X (tgt := 4) d_Mo_ones_31 (by decide) ?_
          refine V.wk [2, 1, 0] (V.eq (ih_L4_1 (i + 1) (by omega) ) ?_ ?_ ?_ rfl) (rfl : lv_pick _ [2, 1, 0] = [(0, .long (x)), (2, .int (nI (ct (bt x) (i) + ((bt x i)).toNat))), (3, .int (nI (i + 1)))])
          · rfl
          · rfl
          · first | rfl | (simp_all [ct, lastB, alB, fromB]; done)
        refine r_ifneQ X (tgt := 25) (b := bt x i) d_Mo_ones_18 (by decide) ((lg_cmp_eq _ _).trans (has_shr x (by omega))) (fun c_18 => ?_) (fun c_18 => ?_)
        · -- taken
          refine r_iconst X (v := nI (0)) d_Mo_ones_25 (by decide) ?_
          exact V.eq hJ_3 rfl rfl rfl (by rw [show ((bt x i)) = false from by first | (simp only [c_18, decide_true, decide_false, Bool.not_true, Bool.not_false, Bool.true_and, Bool.false_and, Bool.and_true, Bool.and_false, Bool.true_or, Bool.false_or, Bool.or_true, Bool.or_false, if_true, if_false, ite_true, ite_false, cond_true, cond_false, Bool.false_eq_true, reduceIte]; done) | (simp [c_18]; done) | (simp_all; done)]; rfl)
        · -- not taken
          refine r_iconst X (v := nI (1)) d_Mo_ones_21 (by decide) ?_
          refine r_goto X (tgt := 26) d_Mo_ones_22 (by decide) ?_
          exact V.eq hJ_3 rfl rfl rfl (by rw [show ((bt x i)) = true from by first | (simp only [c_18, decide_true, decide_false, Bool.not_true, Bool.not_false, Bool.true_and, Bool.false_and, Bool.and_true, Bool.and_false, Bool.true_or, Bool.false_or, Bool.or_true, Bool.or_false, if_true, if_false, ite_true, ite_false, cond_true, cond_false, Bool.false_eq_true, reduceIte]; done) | (simp [c_18]; done) | (simp_all; done)]; rfl)
  refine V.wk [2, 1, 0] (V.eq (L4_1 (64 - 0) 0 (by omega) ) ?_ ?_ ?_ rfl) (rfl : lv_pick _ [2, 1, 0] = [(0, .long (x)), (2, .int (nI (0))), (3, .int (nI (0)))])
  · rfl
  · rfl
  · rfl

set_option maxHeartbeats 4000000 in
set_option maxRecDepth 100000 in
theorem m_Mo_has (l : Launch) (o : OM) (mi : MI) (ml : ML) (x : Int64) (k : Nat) (hk : k < 64) : ConD l y_Mo_has c_Mo_has 3 (some .boolean) 0 0 o [.long (x), .int (nI (k))] mi ml (some (.int (bI (bt x k)))) mi ml := by
  refine Con.mk (by decide) (Nat.le_of_ble_eq_true rfl) (fun γ X => ?_)
  show V γ o 3 mi ml 0 [(0, .long (x)), (2, .int (nI (k)))] []
  refine r_lload_n X 0 d_Mo_has_0 rfl rfl ?_
  refine r_iload_n X 1 d_Mo_has_1 rfl rfl ?_
  refine r_lshr X (v := shr (x) (k)) d_Mo_has_2 (rfl) ?_
  refine r_lconst X (v := 1) d_Mo_has_3 (by decide) ?_
  refine r_land X (v := (shr (x) (k)) &&& (1)) d_Mo_has_4 (rfl) ?_
  refine r_lconst X (v := 1) d_Mo_has_5 (by decide) ?_
  refine r_lcmp X d_Mo_has_6 ?_
  have hJ_1 : V γ o 3 mi ml 15 [(0, .long (x)), (2, .int (nI (k)))] [.int (bI ((bt x k)))] := by
    refine r_end_z X (bI_nar _) d_Mo_has_15 ?_
    first | exact ⟨rfl, rfl, rfl⟩ | (refine ⟨?_, rfl, rfl⟩; simp_all)
  refine r_ifneQ X (tgt := 14) (b := bt x k) d_Mo_has_7 (by decide) ((lg_cmp_eq _ _).trans (has_shr x hk)) (fun c_7 => ?_) (fun c_7 => ?_)
  · -- taken
    refine r_iconst X (v := nI (0)) d_Mo_has_14 (by decide) ?_
    exact V.eq hJ_1 rfl rfl rfl (by rw [show ((bt x k)) = false from by first | (simp only [c_7, decide_true, decide_false, Bool.not_true, Bool.not_false, Bool.true_and, Bool.false_and, Bool.and_true, Bool.and_false, Bool.true_or, Bool.false_or, Bool.or_true, Bool.or_false, if_true, if_false, ite_true, ite_false, cond_true, cond_false, Bool.false_eq_true, reduceIte]; done) | (simp [c_7]; done) | (simp_all; done)]; rfl)
  · -- not taken
    refine r_iconst X (v := nI (1)) d_Mo_has_10 (by decide) ?_
    refine r_goto X (tgt := 15) d_Mo_has_11 (by decide) ?_
    exact V.eq hJ_1 rfl rfl rfl (by rw [show ((bt x k)) = true from by first | (simp only [c_7, decide_true, decide_false, Bool.not_true, Bool.not_false, Bool.true_and, Bool.false_and, Bool.and_true, Bool.and_false, Bool.true_or, Bool.false_or, Bool.or_true, Bool.or_false, if_true, if_false, ite_true, ite_false, cond_true, cond_false, Bool.false_eq_true, reduceIte]; done) | (simp [c_7]; done) | (simp_all; done)]; rfl)
