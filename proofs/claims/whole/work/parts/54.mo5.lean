set_option maxHeartbeats 4000000 in
set_option maxRecDepth 100000 in
theorem m_Mo_beginOf (l : Launch) (o : OM) (mi : MI) (ml : ML) (p : Nat) (hp : p < pop (ml 96 1)) : ConD l y_Mo_beginOf c_Mo_beginOf 4 (some .int) 1 22 o [.ref (ads o (95)), .int (nI (p))] mi ml (some (.int (nI (kth (ml 96 1) p)))) mi ml := by
  refine Con.mk (by decide) (Nat.le_of_ble_eq_true rfl) (fun γ X => ?_)
  obtain ⟨hB64, hBb, hBp⟩ := kth_spec hp
  have hpl := pop_le (ml 96 1)
  show V γ o 4 mi ml 0 [(0, .ref (ads o (95))), (1, .int (nI (p)))] []
  refine r_iload_n X 1 d_Mo_beginOf_0 rfl rfl ?_
  refine r_istore_n X [(2, .int (nI (p))), (0, .ref (ads o (95))), (1, .int (nI (p)))] d_Mo_beginOf_1 rfl (Nat.le_of_ble_eq_true rfl) rfl ?_
  refine r_iconst X (v := nI (0)) d_Mo_beginOf_2 (by decide) ?_
  refine r_istore_n X [(3, .int (nI (0))), (2, .int (nI (p))), (0, .ref (ads o (95))), (1, .int (nI (p)))] d_Mo_beginOf_3 rfl (Nat.le_of_ble_eq_true rfl) rfl ?_
  have L4_1 : ∀ (d_i i : Nat), i + d_i = kth (ml 96 1) p → V γ o 4 mi ml 4 [(0, .ref (ads o (95))), (1, .int (nI (p))), (2, .int (nI (p - ct (bt (ml 96 1)) (i)))), (3, .int (nI (i)))] [] := by
    intro d_i
    induction d_i with
    | zero =>
      intro i hi_L4_1 
      have he_L4_1 : kth (ml 96 1) p = i := by omega
      subst he_L4_1
      refine r_aload_n X 0 d_Mo_beginOf_4 rfl rfl ?_
      refine r_get X f_Mo_7 b_95 e_95 (v := .ref (ads o (96))) rfl d_Mo_beginOf_5 ?_
      refine r_iconst X (v := nI (1)) d_Mo_beginOf_8 (by decide) ?_
      refine r_lald X (v := ml 96 1) b_96 e_96 (Nat.le_of_ble_eq_true rfl) (by omega) rfl d_Mo_beginOf_9 ?_
      refine r_iload_n X 3 d_Mo_beginOf_10 rfl rfl ?_
      refine r_callS X (m_Mo_has l o mi ml (ml 96 1) (kth (ml 96 1) p) (by omega)) ok_Mo_has w_Mo_75 rfl ⟨Nat.le_of_ble_eq_true rfl, Nat.le_of_ble_eq_true rfl⟩ (rest := []) rfl (Nat.le_of_ble_eq_true rfl) d_Mo_beginOf_11 ?_
      refine kD (st' := [.int (bI (bt (ml 96 1) (kth (ml 96 1) p)))]) rfl ?_
      refine r_ifeqB X (tgt := 21) (b := bt (ml 96 1) (kth (ml 96 1) p)) d_Mo_beginOf_14 (by decide) (fun c_14 => ?_) (fun c_14 => ?_)
      · -- taken
        exact False.elim (by simp_all)
      · -- not taken
        refine r_iload_n X 2 d_Mo_beginOf_17 rfl rfl ?_
        refine r_ifle X (tgt := 48) (c := (p - ct (bt (ml 96 1)) (kth (ml 96 1) p)) ≤ 0) d_Mo_beginOf_18 (by decide) ((by rw [← nI_0] <;> exact nI_leI (by omega) (Nat.le_of_ble_eq_true rfl))) (fun c_18 => ?_) (fun c_18 => ?_)
        · -- taken
          refine r_iload_n X 3 d_Mo_beginOf_48 rfl rfl ?_
          refine r_end_i X d_Mo_beginOf_49 ?_
          first | exact ⟨rfl, rfl, rfl⟩ | (refine ⟨?_, rfl, rfl⟩; simp_all)
        · -- not taken
          exact False.elim (by omega)
    | succ d_i ih_L4_1 =>
      intro i hi_L4_1 
      have hlt_L4_1 : i < kth (ml 96 1) p := by omega
      have hk := ct_mono (bt (ml 96 1)) (show i + 1 ≤ kth (ml 96 1) p from hlt_L4_1)
      have hk : ct (bt (ml 96 1)) i + (bt (ml 96 1) i).toNat ≤ ct (bt (ml 96 1)) (kth (ml 96 1) p) := hk
      refine r_aload_n X 0 d_Mo_beginOf_4 rfl rfl ?_
      refine r_get X f_Mo_7 b_95 e_95 (v := .ref (ads o (96))) rfl d_Mo_beginOf_5 ?_
      refine r_iconst X (v := nI (1)) d_Mo_beginOf_8 (by decide) ?_
      refine r_lald X (v := ml 96 1) b_96 e_96 (Nat.le_of_ble_eq_true rfl) (by omega) rfl d_Mo_beginOf_9 ?_
      refine r_iload_n X 3 d_Mo_beginOf_10 rfl rfl ?_
      refine r_callS X (m_Mo_has l o mi ml (ml 96 1) i (by omega)) ok_Mo_has w_Mo_75 rfl ⟨Nat.le_of_ble_eq_true rfl, Nat.le_of_ble_eq_true rfl⟩ (rest := []) rfl (Nat.le_of_ble_eq_true rfl) d_Mo_beginOf_11 ?_
      refine kD (st' := [.int (bI (bt (ml 96 1) i))]) rfl ?_
      refine r_ifeqB X (tgt := 21) (b := bt (ml 96 1) i) d_Mo_beginOf_14 (by decide) (fun c_14_2 => ?_) (fun c_14_2 => ?_)
      · -- taken
        refine r_iload_n X 2 d_Mo_beginOf_21 rfl rfl ?_
        refine r_aload_n X 0 d_Mo_beginOf_22 rfl rfl ?_
        refine r_get X f_Mo_7 b_95 e_95 (v := .ref (ads o (96))) rfl d_Mo_beginOf_23 ?_
        refine r_iconst X (v := nI (1)) d_Mo_beginOf_26 (by decide) ?_
        refine r_lald X (v := ml 96 1) b_96 e_96 (Nat.le_of_ble_eq_true rfl) (by omega) rfl d_Mo_beginOf_27 ?_
        refine r_iload_n X 3 d_Mo_beginOf_28 rfl rfl ?_
        refine r_callS X (m_Mo_has l o mi ml (ml 96 1) i (by omega)) ok_Mo_has w_Mo_75 rfl ⟨Nat.le_of_ble_eq_true rfl, Nat.le_of_ble_eq_true rfl⟩ (rest := [.int (nI (p - ct (bt (ml 96 1)) (i)))]) rfl (Nat.le_of_ble_eq_true rfl) d_Mo_beginOf_29 ?_
        refine kD (st' := [.int (bI (bt (ml 96 1) i)), .int (nI (p - ct (bt (ml 96 1)) (i)))]) rfl ?_
        have hJ_3 : V γ o 4 mi ml 40 [(0, .ref (ads o (95))), (1, .int (nI (p))), (2, .int (nI (p - ct (bt (ml 96 1)) (i)))), (3, .int (nI (i)))] [.int (bI ((bt (ml 96 1) i))), .int (nI (p - ct (bt (ml 96 1)) (i)))] := by
          refine r_isub X (v := nI (p - ct (bt (ml 96 1)) (i) - ((bt (ml 96 1) i)).toNat)) d_Mo_beginOf_40 (bI_sub (by omega)) ?_
          refine r_istore_n X [(2, .int (nI (p - ct (bt (ml 96 1)) (i) - ((bt (ml 96 1) i)).toNat))), (0, .ref (ads o (95))), (1, .int (nI (p))), (3, .int (nI (i)))] d_Mo_beginOf_41 rfl (Nat.le_of_ble_eq_true rfl) rfl ?_
          refine r_iinc X 3 (v := nI (i + 1)) [(3, .int (nI (i + 1))), (2, .int (nI (p - ct (bt (ml 96 1)) (i) - ((bt (ml 96 1) i)).toNat))), (0, .ref (ads o (95))), (1, .int (nI (p)))] d_Mo_beginOf_42 rfl (nI_add _ 1) (Nat.le_of_ble_eq_true rfl) rfl ?_
          refine r_goto X (tgt := 4) d_Mo_beginOf_45 (by decide) ?_
          refine V.wk [2, 3, 1, 0] (V.eq (ih_L4_1 (i + 1) (by omega) ) ?_ ?_ ?_ rfl) (rfl : lv_pick _ [2, 3, 1, 0] = [(0, .ref (ads o (95))), (1, .int (nI (p))), (2, .int (nI (p - ct (bt (ml 96 1)) (i) - ((bt (ml 96 1) i)).toNat))), (3, .int (nI (i + 1)))])
          · rfl
          · rfl
          · simp only [ct, Nat.sub_sub]
        refine r_ifeqB X (tgt := 39) (b := bt (ml 96 1) i) d_Mo_beginOf_32 (by decide) (fun c_32 => ?_) (fun c_32 => ?_)
        · -- taken
          refine r_iconst X (v := nI (0)) d_Mo_beginOf_39 (by decide) ?_
          exact V.eq hJ_3 rfl rfl rfl (by rw [show ((bt (ml 96 1) i)) = false from by first | (simp only [c_32, decide_true, decide_false, Bool.not_true, Bool.not_false, Bool.true_and, Bool.false_and, Bool.and_true, Bool.and_false, Bool.true_or, Bool.false_or, Bool.or_true, Bool.or_false, if_true, if_false, ite_true, ite_false, cond_true, cond_false, Bool.false_eq_true, reduceIte]; done) | (simp [c_32]; done) | (simp_all; done)]; rfl)
        · -- not taken
          refine r_iconst X (v := nI (1)) d_Mo_beginOf_35 (by decide) ?_
          refine r_goto X (tgt := 40) d_Mo_beginOf_36 (by decide) ?_
          exact V.eq hJ_3 rfl rfl rfl (by rw [show ((bt (ml 96 1) i)) = true from by first | (simp only [c_32, decide_true, decide_false, Bool.not_true, Bool.not_false, Bool.true_and, Bool.false_and, Bool.and_true, Bool.and_false, Bool.true_or, Bool.false_or, Bool.or_true, Bool.or_false, if_true, if_false, ite_true, ite_false, cond_true, cond_false, Bool.false_eq_true, reduceIte]; done) | (simp [c_32]; done) | (simp_all; done)]; rfl)
      · -- not taken
        refine r_iload_n X 2 d_Mo_beginOf_17 rfl rfl ?_
        refine r_ifle X (tgt := 48) (c := (p - ct (bt (ml 96 1)) (i)) ≤ 0) d_Mo_beginOf_18 (by decide) ((by rw [← nI_0] <;> exact nI_leI (by omega) (Nat.le_of_ble_eq_true rfl))) (fun c_18_4 => ?_) (fun c_18_4 => ?_)
        · -- taken
          exact False.elim (by have e : (bt (ml 96 1) i).toNat = 1 := (by simp_all); omega)
        · -- not taken
          refine r_iload_n X 2 d_Mo_beginOf_21 rfl rfl ?_
          refine r_aload_n X 0 d_Mo_beginOf_22 rfl rfl ?_
          refine r_get X f_Mo_7 b_95 e_95 (v := .ref (ads o (96))) rfl d_Mo_beginOf_23 ?_
          refine r_iconst X (v := nI (1)) d_Mo_beginOf_26 (by decide) ?_
          refine r_lald X (v := ml 96 1) b_96 e_96 (Nat.le_of_ble_eq_true rfl) (by omega) rfl d_Mo_beginOf_27 ?_
          refine r_iload_n X 3 d_Mo_beginOf_28 rfl rfl ?_
          refine r_callS X (m_Mo_has l o mi ml (ml 96 1) i (by omega)) ok_Mo_has w_Mo_75 rfl ⟨Nat.le_of_ble_eq_true rfl, Nat.le_of_ble_eq_true rfl⟩ (rest := [.int (nI (p - ct (bt (ml 96 1)) (i)))]) rfl (Nat.le_of_ble_eq_true rfl) d_Mo_beginOf_29 ?_
          refine kD (st' := [.int (bI (bt (ml 96 1) i)), .int (nI (p - ct (bt (ml 96 1)) (i)))]) rfl ?_
          have hJ_5 : V γ o 4 mi ml 40 [(0, .ref (ads o (95))), (1, .int (nI (p))), (2, .int (nI (p - ct (bt (ml 96 1)) (i)))), (3, .int (nI (i)))] [.int (bI ((bt (ml 96 1) i))), .int (nI (p - ct (bt (ml 96 1)) (i)))] := by
            refine r_isub X (v := nI (p - ct (bt (ml 96 1)) (i) - ((bt (ml 96 1) i)).toNat)) d_Mo_beginOf_40 (bI_sub (by omega)) ?_
            refine r_istore_n X [(2, .int (nI (p - ct (bt (ml 96 1)) (i) - ((bt (ml 96 1) i)).toNat))), (0, .ref (ads o (95))), (1, .int (nI (p))), (3, .int (nI (i)))] d_Mo_beginOf_41 rfl (Nat.le_of_ble_eq_true rfl) rfl ?_
            refine r_iinc X 3 (v := nI (i + 1)) [(3, .int (nI (i + 1))), (2, .int (nI (p - ct (bt (ml 96 1)) (i) - ((bt (ml 96 1) i)).toNat))), (0, .ref (ads o (95))), (1, .int (nI (p)))] d_Mo_beginOf_42 rfl (nI_add _ 1) (Nat.le_of_ble_eq_true rfl) rfl ?_
            refine r_goto X (tgt := 4) d_Mo_beginOf_45 (by decide) ?_
            refine V.wk [2, 3, 1, 0] (V.eq (ih_L4_1 (i + 1) (by omega) ) ?_ ?_ ?_ rfl) (rfl : lv_pick _ [2, 3, 1, 0] = [(0, .ref (ads o (95))), (1, .int (nI (p))), (2, .int (nI (p - ct (bt (ml 96 1)) (i) - ((bt (ml 96 1) i)).toNat))), (3, .int (nI (i + 1)))])
            · rfl
            · rfl
            · simp only [ct, Nat.sub_sub]
          refine r_ifeqB X (tgt := 39) (b := bt (ml 96 1) i) d_Mo_beginOf_32 (by decide) (fun c_32_6 => ?_) (fun c_32_6 => ?_)
          · -- taken
            refine r_iconst X (v := nI (0)) d_Mo_beginOf_39 (by decide) ?_
            exact V.eq hJ_5 rfl rfl rfl (by rw [show ((bt (ml 96 1) i)) = false from by first | (simp only [c_32_6, decide_true, decide_false, Bool.not_true, Bool.not_false, Bool.true_and, Bool.false_and, Bool.and_true, Bool.and_false, Bool.true_or, Bool.false_or, Bool.or_true, Bool.or_false, if_true, if_false, ite_true, ite_false, cond_true, cond_false, Bool.false_eq_true, reduceIte]; done) | (simp [c_32_6]; done) | (simp_all; done)]; rfl)
          · -- not taken
            refine r_iconst X (v := nI (1)) d_Mo_beginOf_35 (by decide) ?_
            refine r_goto X (tgt := 40) d_Mo_beginOf_36 (by decide) ?_
            exact V.eq hJ_5 rfl rfl rfl (by rw [show ((bt (ml 96 1) i)) = true from by first | (simp only [c_32_6, decide_true, decide_false, Bool.not_true, Bool.not_false, Bool.true_and, Bool.false_and, Bool.and_true, Bool.and_false, Bool.true_or, Bool.false_or, Bool.or_true, Bool.or_false, if_true, if_false, ite_true, ite_false, cond_true, cond_false, Bool.false_eq_true, reduceIte]; done) | (simp [c_32_6]; done) | (simp_all; done)]; rfl)
  refine V.wk [2, 3, 1, 0] (V.eq (L4_1 ((kth (ml 96 1) p) - 0) 0 (by omega) ) ?_ ?_ ?_ rfl) (rfl : lv_pick _ [2, 3, 1, 0] = [(0, .ref (ads o (95))), (1, .int (nI (p))), (2, .int (nI (p))), (3, .int (nI (0)))])
  · rfl
  · rfl
  · rfl

set_option maxHeartbeats 4000000 in
set_option maxRecDepth 100000 in
theorem m_Mo_endOf (l : Launch) (o : OM) (mi : MI) (ml : ML) (p : Nat) (hp : p < pop (ml 96 1)) : ConD l y_Mo_endOf c_Mo_endOf 2 (some .int) 2 45 o [.ref (ads o (95)), .int (nI (p))] mi ml (some (.int (nI (enM (ml 96 1) p)))) mi ml := by
  refine Con.mk (by decide) (Nat.le_of_ble_eq_true rfl) (fun γ X => ?_)
  have hpl := pop_le (ml 96 1)
  show V γ o 2 mi ml 0 [(0, .ref (ads o (95))), (1, .int (nI (p)))] []
  refine r_iload_n X 1 d_Mo_endOf_0 rfl rfl ?_
  refine r_iconst X (v := nI (1)) d_Mo_endOf_1 (by decide) ?_
  refine r_iadd X (v := nI (p + 1)) d_Mo_endOf_2 (nI_add _ _) ?_
  refine r_aload_n X 0 d_Mo_endOf_3 rfl rfl ?_
  refine r_callV X (m_Mo_parts l o mi ml ) ok_Mo_parts w_Mo_86 rfl b_95 e_95 rfl ⟨Nat.le_of_ble_eq_true rfl, Nat.le_of_ble_eq_true rfl⟩ (rest := [.int (nI (p + 1))]) rfl (Nat.le_of_ble_eq_true rfl) d_Mo_endOf_4 ?_
  refine kD (st' := [.int (nI (pop (ml 96 1))), .int (nI (p + 1))]) rfl ?_
  have hJ_1 : V γ o 2 mi ml 22 [(0, .ref (ads o (95))), (1, .int (nI (p)))] [.int (nI (if decide ((pop (ml 96 1)) ≤ (p + 1)) then 64 else kth (ml 96 1) (p + 1)))] := by
    refine r_end_i X d_Mo_endOf_22 ?_
    first | exact ⟨rfl, rfl, rfl⟩ | (refine ⟨?_, rfl, rfl⟩; simp_all)
  refine r_icge X (tgt := 20) (c := (pop (ml 96 1)) ≤ (p + 1)) d_Mo_endOf_7 (by decide) (nI_leI (pop_lt _) (by omega)) (fun c_7 => ?_) (fun c_7 => ?_)
  · -- taken
    refine r_bipush X (v := nI (64)) d_Mo_endOf_20 (by decide) ?_
    exact V.eq hJ_1 rfl rfl rfl (by rw [show (nI (if decide ((pop (ml 96 1)) ≤ (p + 1)) then 64 else kth (ml 96 1) (p + 1))) = (nI (64)) from by first | (simp only [eq_true c_7, decide_true, decide_false, Bool.not_true, Bool.not_false, Bool.true_and, Bool.false_and, Bool.and_true, Bool.and_false, Bool.true_or, Bool.false_or, Bool.or_true, Bool.or_false, if_true, if_false, ite_true, ite_false, cond_true, cond_false, Bool.false_eq_true, reduceIte]; done) | (simp [c_7]; done) | (simp_all; done)])
  · -- not taken
    refine r_aload_n X 0 d_Mo_endOf_10 rfl rfl ?_
    refine r_iload_n X 1 d_Mo_endOf_11 rfl rfl ?_
    refine r_iconst X (v := nI (1)) d_Mo_endOf_12 (by decide) ?_
    refine r_iadd X (v := nI (p + 1)) d_Mo_endOf_13 (nI_add _ _) ?_
    refine r_callV X (m_Mo_beginOf l o mi ml (p + 1) (by omega)) ok_Mo_beginOf w_Mo_146 rfl b_95 e_95 rfl ⟨Nat.le_of_ble_eq_true rfl, Nat.le_of_ble_eq_true rfl⟩ (rest := []) rfl (Nat.le_of_ble_eq_true rfl) d_Mo_endOf_14 ?_
    refine kD (st' := [.int (nI (kth (ml 96 1) (p + 1)))]) rfl ?_
    refine r_goto X (tgt := 22) d_Mo_endOf_17 (by decide) ?_
    exact V.eq hJ_1 rfl rfl rfl (by rw [show (nI (if decide ((pop (ml 96 1)) ≤ (p + 1)) then 64 else kth (ml 96 1) (p + 1))) = (nI (kth (ml 96 1) (p + 1))) from by first | (simp only [eq_false c_7, decide_true, decide_false, Bool.not_true, Bool.not_false, Bool.true_and, Bool.false_and, Bool.and_true, Bool.and_false, Bool.true_or, Bool.false_or, Bool.or_true, Bool.or_false, if_true, if_false, ite_true, ite_false, cond_true, cond_false, Bool.false_eq_true, reduceIte]; done) | (simp [c_7]; done) | (simp_all; done)])

set_option maxHeartbeats 4000000 in
set_option maxRecDepth 100000 in
theorem m_Mo_have (l : Launch) (o : OM) (mi : MI) (ml : ML) (p : Nat) (n : Nat) (hn : ml 96 2 = lN n) (hn40 : n ≤ 40) (hp : p < pop (ml 96 1)) : ConD l y_Mo_have c_Mo_have 6 (some .int) 3 66 o [.ref (ads o (95)), .int (nI (p))] mi ml (some (.int (nI (haveM (oM ml) (ml 96 0) (ml 96 1) p n)))) mi ml := by
  refine Con.mk (by decide) (Nat.le_of_ble_eq_true rfl) (fun γ X => ?_)
  have hpl := pop_le (ml 96 1)
  have he := enM_le (ml 96 1) p
  have hg := enM_gt hp
  show V γ o 6 mi ml 0 [(0, .ref (ads o (95))), (1, .int (nI (p)))] []
  refine r_iconst X (v := nI (0)) d_Mo_have_0 (by decide) ?_
  refine r_istore_n X [(2, .int (nI (0))), (0, .ref (ads o (95))), (1, .int (nI (p)))] d_Mo_have_1 rfl (Nat.le_of_ble_eq_true rfl) rfl ?_
  refine r_iconst X (v := nI (0)) d_Mo_have_2 (by decide) ?_
  refine r_istore_n X [(3, .int (nI (0))), (2, .int (nI (0))), (0, .ref (ads o (95))), (1, .int (nI (p)))] d_Mo_have_3 rfl (Nat.le_of_ble_eq_true rfl) rfl ?_
  have L4_1 : ∀ (d_i i : Nat), i + d_i = n → V γ o 6 mi ml 4 [(0, .ref (ads o (95))), (1, .int (nI (p))), (2, .int (nI (ct (fun k => alB (fun t => decide (bt (oM ml k) (kth (ml 96 1) p + t) = bt (ml 96 0) (kth (ml 96 1) p + t))) (enM (ml 96 1) p - kth (ml 96 1) p)) (i)))), (3, .int (nI (i)))] [] := by
    intro d_i
    induction d_i with
    | zero =>
      intro i hi_L4_1 
      have he_L4_1 : n = i := by omega
      subst he_L4_1
      refine r_iload_n X 3 d_Mo_have_4 rfl rfl ?_
      refine r_aload_n X 0 d_Mo_have_5 rfl rfl ?_
      refine r_callV X (m_Mo_marks l o mi ml n (hn) hn40) ok_Mo_marks w_Mo_59 rfl b_95 e_95 rfl ⟨Nat.le_of_ble_eq_true rfl, Nat.le_of_ble_eq_true rfl⟩ (rest := [.int (nI (n))]) rfl (Nat.le_of_ble_eq_true rfl) d_Mo_have_6 ?_
      refine kD (st' := [.int (nI (n)), .int (nI (n))]) rfl ?_
      refine r_icge X (tgt := 93) (c := n ≤ n) d_Mo_have_9 (by decide) (nI_leI (by omega) (by omega)) (fun c_9 => ?_) (fun c_9 => ?_)
      · -- taken
        refine r_iload_n X 2 d_Mo_have_93 rfl rfl ?_
        refine r_end_i X d_Mo_have_94 ?_
        first | exact ⟨rfl, rfl, rfl⟩ | (refine ⟨?_, rfl, rfl⟩; simp_all)
      · -- not taken
        exact False.elim (by omega)
    | succ d_i ih_L4_1 =>
      intro i hi_L4_1 
      have hlt_L4_1 : i < n := by omega
      refine r_iload_n X 3 d_Mo_have_4 rfl rfl ?_
      refine r_aload_n X 0 d_Mo_have_5 rfl rfl ?_
      refine r_callV X (m_Mo_marks l o mi ml n (hn) hn40) ok_Mo_marks w_Mo_59 rfl b_95 e_95 rfl ⟨Nat.le_of_ble_eq_true rfl, Nat.le_of_ble_eq_true rfl⟩ (rest := [.int (nI (i))]) rfl (Nat.le_of_ble_eq_true rfl) d_Mo_have_6 ?_
      refine kD (st' := [.int (nI (n)), .int (nI (i))]) rfl ?_
      refine r_icge X (tgt := 93) (c := n ≤ i) d_Mo_have_9 (by decide) (nI_leI (by omega) (by omega)) (fun c_9_2 => ?_) (fun c_9_2 => ?_)
      · -- taken
        exact False.elim (by omega)
      · -- not taken
        refine r_iconst X (v := nI (1)) d_Mo_have_12 (by decide) ?_
        refine r_istore X [(4, .int (nI (1))), (0, .ref (ads o (95))), (1, .int (nI (p))), (2, .int (nI (ct (fun k => alB (fun t => decide (bt (oM ml k) (kth (ml 96 1) p + t) = bt (ml 96 0) (kth (ml 96 1) p + t))) (enM (ml 96 1) p - kth (ml 96 1) p)) (i)))), (3, .int (nI (i)))] d_Mo_have_13 (Nat.le_of_ble_eq_true rfl) rfl ?_
        refine r_aload_n X 1 d_Mo_have_15 rfl rfl ?_
        refine r_iload_n X 2 d_Mo_have_16 rfl rfl ?_
        refine r_callV X (m_Mo_beginOf l o mi ml p hp) ok_Mo_beginOf w_Mo_146 rfl b_95 e_95 rfl ⟨Nat.le_of_ble_eq_true rfl, Nat.le_of_ble_eq_true rfl⟩ (rest := []) rfl (Nat.le_of_ble_eq_true rfl) d_Mo_have_17 ?_
        refine kD (st' := [.int (nI (kth (ml 96 1) p))]) rfl ?_
        refine r_istore X [(5, .int (nI (kth (ml 96 1) p))), (4, .int (nI (1))), (0, .ref (ads o (95))), (1, .int (nI (p))), (2, .int (nI (ct (fun k => alB (fun t => decide (bt (oM ml k) (kth (ml 96 1) p + t) = bt (ml 96 0) (kth (ml 96 1) p + t))) (enM (ml 96 1) p - kth (ml 96 1) p)) (i)))), (3, .int (nI (i)))] d_Mo_have_20 (Nat.le_of_ble_eq_true rfl) rfl ?_
        have L22_3 : ∀ (d_j j : Nat), j + d_j = enM (ml 96 1) p - kth (ml 96 1) p → V γ o 6 mi ml 22 [(0, .ref (ads o (95))), (1, .int (nI (p))), (2, .int (nI (ct (fun k => alB (fun t => decide (bt (oM ml k) (kth (ml 96 1) p + t) = bt (ml 96 0) (kth (ml 96 1) p + t))) (enM (ml 96 1) p - kth (ml 96 1) p)) (i)))), (3, .int (nI (i))), (4, .int (bI (alB (fun t => decide (bt (oM ml i) (kth (ml 96 1) p + t) = bt (ml 96 0) (kth (ml 96 1) p + t))) (j)))), (5, .int (nI (kth (ml 96 1) p + j)))] [] := by
          intro d_j
          induction d_j with
          | zero =>
            intro j hi_L22_3 
            have he_L22_3 : enM (ml 96 1) p - kth (ml 96 1) p = j := by omega
            subst he_L22_3
            refine r_iload X 5 d_Mo_have_22 rfl ?_
            refine r_aload_n X 0 d_Mo_have_24 rfl rfl ?_
            refine r_iload_n X 1 d_Mo_have_25 rfl rfl ?_
            refine r_callV X (m_Mo_endOf l o mi ml p hp) ok_Mo_endOf w_Mo_149 rfl b_95 e_95 rfl ⟨Nat.le_of_ble_eq_true rfl, Nat.le_of_ble_eq_true rfl⟩ (rest := [.int (nI (kth (ml 96 1) p + (enM (ml 96 1) p - kth (ml 96 1) p)))]) rfl (Nat.le_of_ble_eq_true rfl) d_Mo_have_26 ?_
            refine kD (st' := [.int (nI (enM (ml 96 1) p)), .int (nI (kth (ml 96 1) p + (enM (ml 96 1) p - kth (ml 96 1) p)))]) rfl ?_
            refine r_icge X (tgt := 74) (c := (enM (ml 96 1) p) ≤ (kth (ml 96 1) p + (enM (ml 96 1) p - kth (ml 96 1) p))) d_Mo_have_29 (by decide) (nI_leI (Nat.lt_of_le_of_lt (enM_le _ _) (by decide)) (by omega)) (fun c_29 => ?_) (fun c_29 => ?_)
            · -- taken
              refine r_iload_n X 2 d_Mo_have_74 rfl rfl ?_
              refine r_iload X 4 d_Mo_have_75 rfl ?_
              have hJ_4 : V γ o 6 mi ml 85 [(0, .ref (ads o (95))), (1, .int (nI (p))), (2, .int (nI (ct (fun k => alB (fun t => decide (bt (oM ml k) (kth (ml 96 1) p + t) = bt (ml 96 0) (kth (ml 96 1) p + t))) (enM (ml 96 1) p - kth (ml 96 1) p)) (i)))), (3, .int (nI (i))), (4, .int (bI (alB (fun t => decide (bt (oM ml i) (kth (ml 96 1) p + t) = bt (ml 96 0) (kth (ml 96 1) p + t))) (enM (ml 96 1) p - kth (ml 96 1) p)))), (5, .int (nI (kth (ml 96 1) p + (enM (ml 96 1) p - kth (ml 96 1) p))))] [.int (bI ((alB (fun t => decide (bt (oM ml i) (kth (ml 96 1) p + t) = bt (ml 96 0) (kth (ml 96 1) p + t))) (enM (ml 96 1) p - kth (ml 96 1) p)))), .int (nI (ct (fun k => alB (fun t => decide (bt (oM ml k) (kth (ml 96 1) p + t) = bt (ml 96 0) (kth (ml 96 1) p + t))) (enM (ml 96 1) p - kth (ml 96 1) p)) (i)))] := by
                refine r_iadd X (v := nI (ct (fun k => alB (fun t => decide (bt (oM ml k) (kth (ml 96 1) p + t) = bt (ml 96 0) (kth (ml 96 1) p + t))) (enM (ml 96 1) p - kth (ml 96 1) p)) (i) + ((alB (fun t => decide (bt (oM ml i) (kth (ml 96 1) p + t) = bt (ml 96 0) (kth (ml 96 1) p + t))) (enM (ml 96 1) p - kth (ml 96 1) p))).toNat)) d_Mo_have_85 (bI_add _ _) ?_
                refine r_istore_n X [(2, .int (nI (ct (fun k => alB (fun t => decide (bt (oM ml k) (kth (ml 96 1) p + t) = bt (ml 96 0) (kth (ml 96 1) p + t))) (enM (ml 96 1) p - kth (ml 96 1) p)) (i) + ((alB (fun t => decide (bt (oM ml i) (kth (ml 96 1) p + t) = bt (ml 96 0) (kth (ml 96 1) p + t))) (enM (ml 96 1) p - kth (ml 96 1) p))).toNat))), (0, .ref (ads o (95))), (1, .int (nI (p))), (3, .int (nI (i))), (4, .int (bI (alB (fun t => decide (bt (oM ml i) (kth (ml 96 1) p + t) = bt (ml 96 0) (kth (ml 96 1) p + t))) (enM (ml 96 1) p - kth (ml 96 1) p)))), (5, .int (nI (kth (ml 96 1) p + (enM (ml 96 1) p - kth (ml 96 1) p))))] d_Mo_have_86 rfl (Nat.le_of_ble_eq_true rfl) rfl ?_
                refine r_iinc X 3 (v := nI (i + 1)) [(3, .int (nI (i + 1))), (2, .int (nI (ct (fun k => alB (fun t => decide (bt (oM ml k) (kth (ml 96 1) p + t) = bt (ml 96 0) (kth (ml 96 1) p + t))) (enM (ml 96 1) p - kth (ml 96 1) p)) (i) + ((alB (fun t => decide (bt (oM ml i) (kth (ml 96 1) p + t) = bt (ml 96 0) (kth (ml 96 1) p + t))) (enM (ml 96 1) p - kth (ml 96 1) p))).toNat))), (0, .ref (ads o (95))), (1, .int (nI (p))), (4, .int (bI (alB (fun t => decide (bt (oM ml i) (kth (ml 96 1) p + t) = bt (ml 96 0) (kth (ml 96 1) p + t))) (enM (ml 96 1) p - kth (ml 96 1) p)))), (5, .int (nI (kth (ml 96 1) p + (enM (ml 96 1) p - kth (ml 96 1) p))))] d_Mo_have_87 rfl (nI_add _ 1) (Nat.le_of_ble_eq_true rfl) rfl ?_
                refine r_goto X (tgt := 4) d_Mo_have_90 (by decide) ?_
                refine V.wk [2, 3, 1, 0] (V.eq (ih_L4_1 (i + 1) (by omega) ) ?_ ?_ ?_ rfl) (rfl : lv_pick _ [2, 3, 1, 0] = [(0, .ref (ads o (95))), (1, .int (nI (p))), (2, .int (nI (ct (fun k => alB (fun t => decide (bt (oM ml k) (kth (ml 96 1) p + t) = bt (ml 96 0) (kth (ml 96 1) p + t))) (enM (ml 96 1) p - kth (ml 96 1) p)) (i) + ((alB (fun t => decide (bt (oM ml i) (kth (ml 96 1) p + t) = bt (ml 96 0) (kth (ml 96 1) p + t))) (enM (ml 96 1) p - kth (ml 96 1) p))).toNat))), (3, .int (nI (i + 1)))])
                · rfl
                · rfl
                · first | rfl | (simp_all [ct, lastB, alB, fromB]; done)
              refine r_ifeqB X (tgt := 84) (b := alB (fun t => decide (bt (oM ml i) (kth (ml 96 1) p + t) = bt (ml 96 0) (kth (ml 96 1) p + t))) (enM (ml 96 1) p - kth (ml 96 1) p)) d_Mo_have_77 (by decide) (fun c_77 => ?_) (fun c_77 => ?_)
              · -- taken
                refine r_iconst X (v := nI (0)) d_Mo_have_84 (by decide) ?_
                exact V.eq hJ_4 rfl rfl rfl (by rw [show ((alB (fun t => decide (bt (oM ml i) (kth (ml 96 1) p + t) = bt (ml 96 0) (kth (ml 96 1) p + t))) (enM (ml 96 1) p - kth (ml 96 1) p))) = false from by first | (simp only [c_77, decide_true, decide_false, Bool.not_true, Bool.not_false, Bool.true_and, Bool.false_and, Bool.and_true, Bool.and_false, Bool.true_or, Bool.false_or, Bool.or_true, Bool.or_false, if_true, if_false, ite_true, ite_false, cond_true, cond_false, Bool.false_eq_true, reduceIte]; done) | (simp [c_77]; done) | (simp_all; done)]; rfl)
              · -- not taken
                refine r_iconst X (v := nI (1)) d_Mo_have_80 (by decide) ?_
                refine r_goto X (tgt := 85) d_Mo_have_81 (by decide) ?_
                exact V.eq hJ_4 rfl rfl rfl (by rw [show ((alB (fun t => decide (bt (oM ml i) (kth (ml 96 1) p + t) = bt (ml 96 0) (kth (ml 96 1) p + t))) (enM (ml 96 1) p - kth (ml 96 1) p))) = true from by first | (simp only [c_77, decide_true, decide_false, Bool.not_true, Bool.not_false, Bool.true_and, Bool.false_and, Bool.and_true, Bool.and_false, Bool.true_or, Bool.false_or, Bool.or_true, Bool.or_false, if_true, if_false, ite_true, ite_false, cond_true, cond_false, Bool.false_eq_true, reduceIte]; done) | (simp [c_77]; done) | (simp_all; done)]; rfl)
            · -- not taken
              exact False.elim (by omega)
          | succ d_j ih_L22_3 =>
            intro j hi_L22_3 
            have hlt_L22_3 : j < enM (ml 96 1) p - kth (ml 96 1) p := by omega
            refine r_iload X 5 d_Mo_have_22 rfl ?_
            refine r_aload_n X 0 d_Mo_have_24 rfl rfl ?_
            refine r_iload_n X 1 d_Mo_have_25 rfl rfl ?_
            refine r_callV X (m_Mo_endOf l o mi ml p hp) ok_Mo_endOf w_Mo_149 rfl b_95 e_95 rfl ⟨Nat.le_of_ble_eq_true rfl, Nat.le_of_ble_eq_true rfl⟩ (rest := [.int (nI (kth (ml 96 1) p + j))]) rfl (Nat.le_of_ble_eq_true rfl) d_Mo_have_26 ?_
            refine kD (st' := [.int (nI (enM (ml 96 1) p)), .int (nI (kth (ml 96 1) p + j))]) rfl ?_
            refine r_icge X (tgt := 74) (c := (enM (ml 96 1) p) ≤ (kth (ml 96 1) p + j)) d_Mo_have_29 (by decide) (nI_leI (Nat.lt_of_le_of_lt (enM_le _ _) (by decide)) (by omega)) (fun c_29_5 => ?_) (fun c_29_5 => ?_)
            · -- taken
              exact False.elim (by omega)
            · -- not taken
              refine r_iload X 4 d_Mo_have_32 rfl ?_
              have hJ_6 : V γ o 6 mi ml 66 [(0, .ref (ads o (95))), (1, .int (nI (p))), (2, .int (nI (ct (fun k => alB (fun t => decide (bt (oM ml k) (kth (ml 96 1) p + t) = bt (ml 96 0) (kth (ml 96 1) p + t))) (enM (ml 96 1) p - kth (ml 96 1) p)) (i)))), (3, .int (nI (i))), (4, .int (bI (alB (fun t => decide (bt (oM ml i) (kth (ml 96 1) p + t) = bt (ml 96 0) (kth (ml 96 1) p + t))) (j)))), (5, .int (nI (kth (ml 96 1) p + j)))] [.int (bI (((alB (fun t => decide (bt (oM ml i) (kth (ml 96 1) p + t) = bt (ml 96 0) (kth (ml 96 1) p + t))) (j)) && decide ((bt (oM ml i) (kth (ml 96 1) p + j)) = (bt (ml 96 0) (kth (ml 96 1) p + j))))))] := by
                refine r_istore X [(4, .int (bI (((alB (fun t => decide (bt (oM ml i) (kth (ml 96 1) p + t) = bt (ml 96 0) (kth (ml 96 1) p + t))) (j)) && decide ((bt (oM ml i) (kth (ml 96 1) p + j)) = (bt (ml 96 0) (kth (ml 96 1) p + j))))))), (0, .ref (ads o (95))), (1, .int (nI (p))), (2, .int (nI (ct (fun k => alB (fun t => decide (bt (oM ml k) (kth (ml 96 1) p + t) = bt (ml 96 0) (kth (ml 96 1) p + t))) (enM (ml 96 1) p - kth (ml 96 1) p)) (i)))), (3, .int (nI (i))), (5, .int (nI (kth (ml 96 1) p + j)))] d_Mo_have_66 (Nat.le_of_ble_eq_true rfl) rfl ?_
                refine r_iinc X 5 (v := nI (kth (ml 96 1) p + j + 1)) [(5, .int (nI (kth (ml 96 1) p + j + 1))), (4, .int (bI (((alB (fun t => decide (bt (oM ml i) (kth (ml 96 1) p + t) = bt (ml 96 0) (kth (ml 96 1) p + t))) (j)) && decide ((bt (oM ml i) (kth (ml 96 1) p + j)) = (bt (ml 96 0) (kth (ml 96 1) p + j))))))), (0, .ref (ads o (95))), (1, .int (nI (p))), (2, .int (nI (ct (fun k => alB (fun t => decide (bt (oM ml k) (kth (ml 96 1) p + t) = bt (ml 96 0) (kth (ml 96 1) p + t))) (enM (ml 96 1) p - kth (ml 96 1) p)) (i)))), (3, .int (nI (i)))] d_Mo_have_68 rfl (nI_add _ 1) (Nat.le_of_ble_eq_true rfl) rfl ?_
                refine r_goto X (tgt := 22) d_Mo_have_71 (by decide) ?_
                refine V.wk [2, 3, 4, 5, 1, 0] (V.eq (ih_L22_3 (j + 1) (by omega) ) ?_ ?_ ?_ rfl) (rfl : lv_pick _ [2, 3, 4, 5, 1, 0] = [(0, .ref (ads o (95))), (1, .int (nI (p))), (2, .int (nI (ct (fun k => alB (fun t => decide (bt (oM ml k) (kth (ml 96 1) p + t) = bt (ml 96 0) (kth (ml 96 1) p + t))) (enM (ml 96 1) p - kth (ml 96 1) p)) (i)))), (3, .int (nI (i))), (4, .int (bI (((alB (fun t => decide (bt (oM ml i) (kth (ml 96 1) p + t) = bt (ml 96 0) (kth (ml 96 1) p + t))) (j)) && decide ((bt (oM ml i) (kth (ml 96 1) p + j)) = (bt (ml 96 0) (kth (ml 96 1) p + j))))))), (5, .int (nI (kth (ml 96 1) p + j + 1)))])
                · rfl
                · rfl
                · first | rfl | (simp_all [ct, lastB, alB, fromB]; done)
              refine r_ifeqB X (tgt := 65) (b := alB (fun t => decide (bt (oM ml i) (kth (ml 96 1) p + t) = bt (ml 96 0) (kth (ml 96 1) p + t))) (j)) d_Mo_have_34 (by decide) (fun c_34 => ?_) (fun c_34 => ?_)
              · -- taken
                refine r_iconst X (v := nI (0)) d_Mo_have_65 (by decide) ?_
                exact V.eq hJ_6 rfl rfl rfl (by rw [show (((alB (fun t => decide (bt (oM ml i) (kth (ml 96 1) p + t) = bt (ml 96 0) (kth (ml 96 1) p + t))) (j)) && decide ((bt (oM ml i) (kth (ml 96 1) p + j)) = (bt (ml 96 0) (kth (ml 96 1) p + j))))) = false from by first | (simp only [c_34, decide_true, decide_false, Bool.not_true, Bool.not_false, Bool.true_and, Bool.false_and, Bool.and_true, Bool.and_false, Bool.true_or, Bool.false_or, Bool.or_true, Bool.or_false, if_true, if_false, ite_true, ite_false, cond_true, cond_false, Bool.false_eq_true, reduceIte]; done) | (simp [c_34]; done) | (simp_all; done)]; rfl)
              · -- not taken
                refine r_aload_n X 0 d_Mo_have_37 rfl rfl ?_
                refine r_iload_n X 3 d_Mo_have_38 rfl rfl ?_
                refine r_callV X (m_Mo_own l o mi ml i (by omega)) ok_Mo_own w_Mo_67 rfl b_95 e_95 rfl ⟨Nat.le_of_ble_eq_true rfl, Nat.le_of_ble_eq_true rfl⟩ (rest := []) rfl (Nat.le_of_ble_eq_true rfl) d_Mo_have_39 ?_
                refine kD (st' := [.long (oM ml i)]) rfl ?_
                refine r_iload X 5 d_Mo_have_42 rfl ?_
                refine r_callS X (m_Mo_has l o mi ml (oM ml i) (kth (ml 96 1) p + j) (by omega)) ok_Mo_has w_Mo_75 rfl ⟨Nat.le_of_ble_eq_true rfl, Nat.le_of_ble_eq_true rfl⟩ (rest := []) rfl (Nat.le_of_ble_eq_true rfl) d_Mo_have_44 ?_
                refine kD (st' := [.int (bI (bt (oM ml i) (kth (ml 96 1) p + j)))]) rfl ?_
                refine r_aload_n X 0 d_Mo_have_47 rfl rfl ?_
                refine r_get X f_Mo_7 b_95 e_95 (v := .ref (ads o (96))) rfl d_Mo_have_48 ?_
                refine r_iconst X (v := nI (0)) d_Mo_have_51 (by decide) ?_
                refine r_lald X (v := ml 96 0) b_96 e_96 (Nat.le_of_ble_eq_true rfl) (by omega) rfl d_Mo_have_52 ?_
                refine r_iload X 5 d_Mo_have_53 rfl ?_
                refine r_callS X (m_Mo_has l o mi ml (ml 96 0) (kth (ml 96 1) p + j) (by omega)) ok_Mo_has w_Mo_75 rfl ⟨Nat.le_of_ble_eq_true rfl, Nat.le_of_ble_eq_true rfl⟩ (rest := [.int (bI (bt (oM ml i) (kth (ml 96 1) p + j)))]) rfl (Nat.le_of_ble_eq_true rfl) d_Mo_have_55 ?_
                refine kD (st' := [.int (bI (bt (ml 96 0) (kth (ml 96 1) p + j))), .int (bI (bt (oM ml i) (kth (ml 96 1) p + j)))]) rfl ?_
                refine r_icneP X (tgt := 65) (c := (bt (oM ml i) (kth (ml 96 1) p + j)) = (bt (ml 96 0) (kth (ml 96 1) p + j))) d_Mo_have_58 (by decide) (bI_inj _ _) (fun c_58 => ?_) (fun c_58 => ?_)
                · -- taken
                  refine r_iconst X (v := nI (0)) d_Mo_have_65 (by decide) ?_
                  exact V.eq hJ_6 rfl rfl rfl (by rw [show (((alB (fun t => decide (bt (oM ml i) (kth (ml 96 1) p + t) = bt (ml 96 0) (kth (ml 96 1) p + t))) (j)) && decide ((bt (oM ml i) (kth (ml 96 1) p + j)) = (bt (ml 96 0) (kth (ml 96 1) p + j))))) = false from by first | (simp only [c_34, eq_false c_58, decide_true, decide_false, Bool.not_true, Bool.not_false, Bool.true_and, Bool.false_and, Bool.and_true, Bool.and_false, Bool.true_or, Bool.false_or, Bool.or_true, Bool.or_false, if_true, if_false, ite_true, ite_false, cond_true, cond_false, Bool.false_eq_true, reduceIte]; done) | (simp [c_34, c_58]; done) | (simp_all; done)]; rfl)
                · -- not taken
                  refine r_iconst X (v := nI (1)) d_Mo_have_61 (by decide) ?_
                  refine r_goto X (tgt := 66) d_Mo_have_62 (by decide) ?_
                  exact V.eq hJ_6 rfl rfl rfl (by rw [show (((alB (fun t => decide (bt (oM ml i) (kth (ml 96 1) p + t) = bt (ml 96 0) (kth (ml 96 1) p + t))) (j)) && decide ((bt (oM ml i) (kth (ml 96 1) p + j)) = (bt (ml 96 0) (kth (ml 96 1) p + j))))) = true from by first | (simp only [c_34, eq_true c_58, decide_true, decide_false, Bool.not_true, Bool.not_false, Bool.true_and, Bool.false_and, Bool.and_true, Bool.and_false, Bool.true_or, Bool.false_or, Bool.or_true, Bool.or_false, if_true, if_false, ite_true, ite_false, cond_true, cond_false, Bool.false_eq_true, reduceIte]; done) | (simp [c_34, c_58]; done) | (simp_all; done)]; rfl)
        refine V.wk [2, 3, 4, 5, 1, 0] (V.eq (L22_3 ((enM (ml 96 1) p - kth (ml 96 1) p) - 0) 0 (by omega) ) ?_ ?_ ?_ rfl) (rfl : lv_pick _ [2, 3, 4, 5, 1, 0] = [(0, .ref (ads o (95))), (1, .int (nI (p))), (2, .int (nI (ct (fun k => alB (fun t => decide (bt (oM ml k) (kth (ml 96 1) p + t) = bt (ml 96 0) (kth (ml 96 1) p + t))) (enM (ml 96 1) p - kth (ml 96 1) p)) (i)))), (3, .int (nI (i))), (4, .int (nI (1))), (5, .int (nI (kth (ml 96 1) p)))])
        · rfl
        · rfl
        · rfl
  refine V.wk [2, 3, 1, 0] (V.eq (L4_1 (n - 0) 0 (by omega) ) ?_ ?_ ?_ rfl) (rfl : lv_pick _ [2, 3, 1, 0] = [(0, .ref (ads o (95))), (1, .int (nI (p))), (2, .int (nI (0))), (3, .int (nI (0)))])
  · rfl
  · rfl
  · rfl
