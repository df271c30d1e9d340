set_option maxHeartbeats 4000000 in
set_option maxRecDepth 100000 in
theorem m_Mo_dead (l : Launch) (o : OM) (mi : MI) (ml : ML) (n : Nat) (hn : ml 96 2 = lN n) (hn40 : n ≤ 40) : ConD l y_Mo_dead c_Mo_dead 3 (some .int) 2 45 o [.ref (ads o (95))] mi ml (some (.int (nI (ct (fun b => deadM (oM ml) n b) (64))))) mi ml := by
  refine Con.mk (by decide) (Nat.le_of_ble_eq_true rfl) (fun γ X => ?_)
  show V γ o 3 mi ml 0 [(0, .ref (ads o (95)))] []
  refine r_iconst X (v := nI (0)) d_Mo_dead_0 (by decide) ?_
  refine r_istore_n X [(1, .int (nI (0))), (0, .ref (ads o (95)))] d_Mo_dead_1 rfl (Nat.le_of_ble_eq_true rfl) rfl ?_
  refine r_iconst X (v := nI (0)) d_Mo_dead_2 (by decide) ?_
  refine r_istore_n X [(2, .int (nI (0))), (1, .int (nI (0))), (0, .ref (ads o (95)))] d_Mo_dead_3 rfl (Nat.le_of_ble_eq_true rfl) rfl ?_
  have L4_1 : ∀ (d_i i : Nat), i + d_i = 64 → V γ o 3 mi ml 4 [(0, .ref (ads o (95))), (1, .int (nI (ct (fun b => deadM (oM ml) n b) (i)))), (2, .int (nI (i)))] [] := by
    intro d_i
    induction d_i with
    | zero =>
      intro i hi_L4_1 
      have he_L4_1 : 64 = i := by omega
      subst he_L4_1
      refine r_iload_n X 2 d_Mo_dead_4 rfl rfl ?_
      refine r_bipush X (v := nI (64)) d_Mo_dead_5 (by decide) ?_
      refine r_icge X (tgt := 32) (c := 64 ≤ 64) d_Mo_dead_7 (by decide) (nI_leI (Nat.le_of_ble_eq_true rfl) (by omega)) (fun c_7 => ?_) (fun c_7 => ?_)
      · -- taken
        refine r_iload_n X 1 d_Mo_dead_32 rfl rfl ?_
        refine r_end_i X d_Mo_dead_33 ?_
        first | exact ⟨rfl, rfl, rfl⟩ | (refine ⟨?_, rfl, rfl⟩; simp_all)
      · -- not taken
        exact False.elim (by omega)
    | succ d_i ih_L4_1 =>
      intro i hi_L4_1 
      have hlt_L4_1 : i < 64 := by omega
      refine r_iload_n X 2 d_Mo_dead_4 rfl rfl ?_
      refine r_bipush X (v := nI (64)) d_Mo_dead_5 (by decide) ?_
      refine r_icge X (tgt := 32) (c := 64 ≤ i) d_Mo_dead_7 (by decide) (nI_leI (Nat.le_of_ble_eq_true rfl) (by omega)) (fun c_7_2 => ?_) (fun c_7_2 => ?_)
      · -- taken
        exact False.elim (by omega)
      · -- not taken
        refine r_iload_n X 1 d_Mo_dead_10 rfl rfl ?_
        refine r_aload_n X 0 d_Mo_dead_11 rfl rfl ?_
        refine r_iload_n X 2 d_Mo_dead_12 rfl rfl ?_
        refine r_callV X (m_Mo_isDead l o mi ml i n (hn) hn40 (by omega)) ok_Mo_isDead w_Mo_92 rfl b_95 e_95 rfl ⟨Nat.le_of_ble_eq_true rfl, Nat.le_of_ble_eq_true rfl⟩ (rest := [.int (nI (ct (fun b => deadM (oM ml) n b) (i)))]) rfl (Nat.le_of_ble_eq_true rfl) d_Mo_dead_13 ?_
        refine kD (st' := [.int (bI (deadM (oM ml) n i)), .int (nI (ct (fun b => deadM (oM ml) n b) (i)))]) rfl ?_
        have hJ_3 : V γ o 3 mi ml 24 [(0, .ref (ads o (95))), (1, .int (nI (ct (fun b => deadM (oM ml) n b) (i)))), (2, .int (nI (i)))] [.int (bI ((deadM (oM ml) n i))), .int (nI (ct (fun b => deadM (oM ml) n b) (i)))] := by
          refine r_iadd X (v := nI (ct (fun b => deadM (oM ml) n b) (i) + ((deadM (oM ml) n i)).toNat)) d_Mo_dead_24 (bI_add _ _) ?_
          refine r_istore_n X [(1, .int (nI (ct (fun b => deadM (oM ml) n b) (i) + ((deadM (oM ml) n i)).toNat))), (0, .ref (ads o (95))), (2, .int (nI (i)))] d_Mo_dead_25 rfl (Nat.le_of_ble_eq_true rfl) rfl ?_
          refine r_iinc X 2 (v := nI (i + 1)) [(2, .int (nI (i + 1))), (1, .int (nI (ct (fun b => deadM (oM ml) n b) (i) + ((deadM (oM ml) n i)).toNat))), (0, .ref (ads o (95)))] d_Mo_dead_26 rfl (nI_add _ 1) (Nat.le_of_ble_eq_true rfl) rfl ?_
          refine r_goto X (tgt := 4) d_Mo_dead_29 (by decide) ?_
          refine V.wk [2, 1, 0] (V.eq (ih_L4_1 (i + 1) (by omega) ) ?_ ?_ ?_ rfl) (rfl : lv_pick _ [2, 1, 0] = [(0, .ref (ads o (95))), (1, .int (nI (ct (fun b => deadM (oM ml) n b) (i) + ((deadM (oM ml) n i)).toNat))), (2, .int (nI (i + 1)))])
          · rfl
          · rfl
          · first | rfl | (simp_all [ct, lastB, alB, fromB]; done)
        refine r_ifeqB X (tgt := 23) (b := deadM (oM ml) n i) d_Mo_dead_16 (by decide) (fun c_16 => ?_) (fun c_16 => ?_)
        · -- taken
          refine r_iconst X (v := nI (0)) d_Mo_dead_23 (by decide) ?_
          exact V.eq hJ_3 rfl rfl rfl (by rw [show ((deadM (oM ml) n i)) = false from by first | (simp only [c_16, decide_true, decide_false, Bool.not_true, Bool.not_false, Bool.true_and, Bool.false_and, Bool.and_true, Bool.and_false, Bool.true_or, Bool.false_or, Bool.or_true, Bool.or_false, if_true, if_false, ite_true, ite_false, cond_true, cond_false, Bool.false_eq_true, reduceIte]; done) | (simp [c_16]; done) | (simp_all; done)]; rfl)
        · -- not taken
          refine r_iconst X (v := nI (1)) d_Mo_dead_19 (by decide) ?_
          refine r_goto X (tgt := 24) d_Mo_dead_20 (by decide) ?_
          exact V.eq hJ_3 rfl rfl rfl (by rw [show ((deadM (oM ml) n i)) = true from by first | (simp only [c_16, decide_true, decide_false, Bool.not_true, Bool.not_false, Bool.true_and, Bool.false_and, Bool.and_true, Bool.and_false, Bool.true_or, Bool.false_or, Bool.or_true, Bool.or_false, if_true, if_false, ite_true, ite_false, cond_true, cond_false, Bool.false_eq_true, reduceIte]; done) | (simp [c_16]; done) | (simp_all; done)]; rfl)
  refine V.wk [2, 1, 0] (V.eq (L4_1 (64 - 0) 0 (by omega) ) ?_ ?_ ?_ rfl) (rfl : lv_pick _ [2, 1, 0] = [(0, .ref (ads o (95))), (1, .int (nI (0))), (2, .int (nI (0)))])
  · rfl
  · rfl
  · rfl

set_option maxHeartbeats 4000000 in
set_option maxRecDepth 100000 in
theorem m_Mo_areTogether (l : Launch) (o : OM) (mi : MI) (ml : ML) (a : Nat) (b : Nat) (n : Nat) (hn : ml 96 2 = lN n) (hn40 : n ≤ 40) (ha : a < 64) (hb : b < 64) : ConD l y_Mo_areTogether c_Mo_areTogether 7 (some .boolean) 1 22 o [.ref (ads o (95)), .int (nI (a)), .int (nI (b))] mi ml (some (.int (bI (togM (oM ml) n a b)))) mi ml := by
  refine Con.mk (by decide) (Nat.le_of_ble_eq_true rfl) (fun γ X => ?_)
  show V γ o 7 mi ml 0 [(0, .ref (ads o (95))), (1, .int (nI (a))), (2, .int (nI (b)))] []
  refine r_iconst X (v := nI (1)) d_Mo_areTogether_0 (by decide) ?_
  refine r_istore_n X [(3, .int (nI (1))), (0, .ref (ads o (95))), (1, .int (nI (a))), (2, .int (nI (b)))] d_Mo_areTogether_1 rfl (Nat.le_of_ble_eq_true rfl) rfl ?_
  refine r_iconst X (v := nI (1)) d_Mo_areTogether_2 (by decide) ?_
  refine r_istore X [(4, .int (nI (1))), (3, .int (nI (1))), (0, .ref (ads o (95))), (1, .int (nI (a))), (2, .int (nI (b)))] d_Mo_areTogether_3 (Nat.le_of_ble_eq_true rfl) rfl ?_
  refine r_iconst X (v := nI (0)) d_Mo_areTogether_5 (by decide) ?_
  refine r_istore X [(5, .int (nI (0))), (4, .int (nI (1))), (3, .int (nI (1))), (0, .ref (ads o (95))), (1, .int (nI (a))), (2, .int (nI (b)))] d_Mo_areTogether_6 (Nat.le_of_ble_eq_true rfl) rfl ?_
  have L8_1 : ∀ (d_i i : Nat), i + d_i = n → V γ o 7 mi ml 8 [(0, .ref (ads o (95))), (1, .int (nI (a))), (2, .int (nI (b))), (3, .int (bI (alB (fun k => decide (bt (oM ml k) a = bt (oM ml k) b)) (i)))), (4, .int (bI (alB (fun k => !decide (bt (oM ml k) a = bt (oM ml k) b)) (i)))), (5, .int (nI (i)))] [] := by
    intro d_i
    induction d_i with
    | zero =>
      intro i hi_L8_1 
      have he_L8_1 : n = i := by omega
      subst he_L8_1
      refine r_iload X 5 d_Mo_areTogether_8 rfl ?_
      refine r_aload_n X 0 d_Mo_areTogether_10 rfl rfl ?_
      refine r_callV X (m_Mo_marks l o mi ml n (hn) hn40) ok_Mo_marks w_Mo_59 rfl b_95 e_95 rfl ⟨Nat.le_of_ble_eq_true rfl, Nat.le_of_ble_eq_true rfl⟩ (rest := [.int (nI (n))]) rfl (Nat.le_of_ble_eq_true rfl) d_Mo_areTogether_11 ?_
      refine kD (st' := [.int (nI (n)), .int (nI (n))]) rfl ?_
      refine r_icge X (tgt := 85) (c := n ≤ n) d_Mo_areTogether_14 (by decide) (nI_leI (by omega) (by omega)) (fun c_14 => ?_) (fun c_14 => ?_)
      · -- taken
        refine r_iload_n X 3 d_Mo_areTogether_85 rfl rfl ?_
        have hJ_2 : V γ o 7 mi ml 99 [(0, .ref (ads o (95))), (1, .int (nI (a))), (2, .int (nI (b))), (3, .int (bI (alB (fun k => decide (bt (oM ml k) a = bt (oM ml k) b)) (n)))), (4, .int (bI (alB (fun k => !decide (bt (oM ml k) a = bt (oM ml k) b)) (n)))), (5, .int (nI (n)))] [.int (bI (((alB (fun k => decide (bt (oM ml k) a = bt (oM ml k) b)) (n)) || (alB (fun k => !decide (bt (oM ml k) a = bt (oM ml k) b)) (n)))))] := by
          refine r_end_z X (bI_nar _) d_Mo_areTogether_99 ?_
          first | exact ⟨rfl, rfl, rfl⟩ | (refine ⟨?_, rfl, rfl⟩; simp_all)
        refine r_ifneB X (tgt := 94) (b := alB (fun k => decide (bt (oM ml k) a = bt (oM ml k) b)) (n)) d_Mo_areTogether_86 (by decide) (fun c_86 => ?_) (fun c_86 => ?_)
        · -- taken
          refine r_iconst X (v := nI (1)) d_Mo_areTogether_94 (by decide) ?_
          refine r_goto X (tgt := 99) d_Mo_areTogether_95 (by decide) ?_
          exact V.eq hJ_2 rfl rfl rfl (by rw [show (((alB (fun k => decide (bt (oM ml k) a = bt (oM ml k) b)) (n)) || (alB (fun k => !decide (bt (oM ml k) a = bt (oM ml k) b)) (n)))) = true from by first | (simp only [c_86, decide_true, decide_false, Bool.not_true, Bool.not_false, Bool.true_and, Bool.false_and, Bool.and_true, Bool.and_false, Bool.true_or, Bool.false_or, Bool.or_true, Bool.or_false, if_true, if_false, ite_true, ite_false, cond_true, cond_false, Bool.false_eq_true, reduceIte]; done) | (simp [c_86]; done) | (simp_all; done)]; rfl)
        · -- not taken
          refine r_iload X 4 d_Mo_areTogether_89 rfl ?_
          refine r_ifeqB X (tgt := 98) (b := alB (fun k => !decide (bt (oM ml k) a = bt (oM ml k) b)) (n)) d_Mo_areTogether_91 (by decide) (fun c_91 => ?_) (fun c_91 => ?_)
          · -- taken
            refine r_iconst X (v := nI (0)) d_Mo_areTogether_98 (by decide) ?_
            exact V.eq hJ_2 rfl rfl rfl (by rw [show (((alB (fun k => decide (bt (oM ml k) a = bt (oM ml k) b)) (n)) || (alB (fun k => !decide (bt (oM ml k) a = bt (oM ml k) b)) (n)))) = false from by first | (simp only [c_86, c_91, decide_true, decide_false, Bool.not_true, Bool.not_false, Bool.true_and, Bool.false_and, Bool.and_true, Bool.and_false, Bool.true_or, Bool.false_or, Bool.or_true, Bool.or_false, if_true, if_false, ite_true, ite_false, cond_true, cond_false, Bool.false_eq_true, reduceIte]; done) | (simp [c_86, c_91]; done) | (simp_all; done)]; rfl)
          · -- not taken
            refine r_iconst X (v := nI (1)) d_Mo_areTogether_94 (by decide) ?_
            refine r_goto X (tgt := 99) d_Mo_areTogether_95 (by decide) ?_
            exact V.eq hJ_2 rfl rfl rfl (by rw [show (((alB (fun k => decide (bt (oM ml k) a = bt (oM ml k) b)) (n)) || (alB (fun k => !decide (bt (oM ml k) a = bt (oM ml k) b)) (n)))) = true from by first | (simp only [c_86, c_91, decide_true, decide_false, Bool.not_true, Bool.not_false, Bool.true_and, Bool.false_and, Bool.and_true, Bool.and_false, Bool.true_or, Bool.false_or, Bool.or_true, Bool.or_false, if_true, if_false, ite_true, ite_false, cond_true, cond_false, Bool.false_eq_true, reduceIte]; done) | (simp [c_86, c_91]; done) | (simp_all; done)]; rfl)
      · -- not taken
        exact False.elim (by omega)
    | succ d_i ih_L8_1 =>
      intro i hi_L8_1 
      have hlt_L8_1 : i < n := by omega
      refine r_iload X 5 d_Mo_areTogether_8 rfl ?_
      refine r_aload_n X 0 d_Mo_areTogether_10 rfl rfl ?_
      refine r_callV X (m_Mo_marks l o mi ml n (hn) hn40) ok_Mo_marks w_Mo_59 rfl b_95 e_95 rfl ⟨Nat.le_of_ble_eq_true rfl, Nat.le_of_ble_eq_true rfl⟩ (rest := [.int (nI (i))]) rfl (Nat.le_of_ble_eq_true rfl) d_Mo_areTogether_11 ?_
      refine kD (st' := [.int (nI (n)), .int (nI (i))]) rfl ?_
      refine r_icge X (tgt := 85) (c := n ≤ i) d_Mo_areTogether_14 (by decide) (nI_leI (by omega) (by omega)) (fun c_14_3 => ?_) (fun c_14_3 => ?_)
      · -- taken
        exact False.elim (by omega)
      · -- not taken
        refine r_aload_n X 0 d_Mo_areTogether_17 rfl rfl ?_
        refine r_iload X 5 d_Mo_areTogether_18 rfl ?_
        refine r_callV X (m_Mo_own l o mi ml i (by omega)) ok_Mo_own w_Mo_67 rfl b_95 e_95 rfl ⟨Nat.le_of_ble_eq_true rfl, Nat.le_of_ble_eq_true rfl⟩ (rest := []) rfl (Nat.le_of_ble_eq_true rfl) d_Mo_areTogether_20 ?_
        refine kD (st' := [.long (oM ml i)]) rfl ?_
        refine r_iload_n X 1 d_Mo_areTogether_23 rfl rfl ?_
        refine r_callS X (m_Mo_has l o mi ml (oM ml i) a (by omega)) ok_Mo_has w_Mo_75 rfl ⟨Nat.le_of_ble_eq_true rfl, Nat.le_of_ble_eq_true rfl⟩ (rest := []) rfl (Nat.le_of_ble_eq_true rfl) d_Mo_areTogether_24 ?_
        refine kD (st' := [.int (bI (bt (oM ml i) a))]) rfl ?_
        refine r_aload_n X 0 d_Mo_areTogether_27 rfl rfl ?_
        refine r_iload X 5 d_Mo_areTogether_28 rfl ?_
        refine r_callV X (m_Mo_own l o mi ml i (by omega)) ok_Mo_own w_Mo_67 rfl b_95 e_95 rfl ⟨Nat.le_of_ble_eq_true rfl, Nat.le_of_ble_eq_true rfl⟩ (rest := [.int (bI (bt (oM ml i) a))]) rfl (Nat.le_of_ble_eq_true rfl) d_Mo_areTogether_30 ?_
        refine kD (st' := [.long (oM ml i), .int (bI (bt (oM ml i) a))]) rfl ?_
        refine r_iload_n X 2 d_Mo_areTogether_33 rfl rfl ?_
        refine r_callS X (m_Mo_has l o mi ml (oM ml i) b (by omega)) ok_Mo_has w_Mo_75 rfl ⟨Nat.le_of_ble_eq_true rfl, Nat.le_of_ble_eq_true rfl⟩ (rest := [.int (bI (bt (oM ml i) a))]) rfl (Nat.le_of_ble_eq_true rfl) d_Mo_areTogether_34 ?_
        refine kD (st' := [.int (bI (bt (oM ml i) b)), .int (bI (bt (oM ml i) a))]) rfl ?_
        have hJ_4 : V γ o 7 mi ml 45 [(0, .ref (ads o (95))), (1, .int (nI (a))), (2, .int (nI (b))), (3, .int (bI (alB (fun k => decide (bt (oM ml k) a = bt (oM ml k) b)) (i)))), (4, .int (bI (alB (fun k => !decide (bt (oM ml k) a = bt (oM ml k) b)) (i)))), (5, .int (nI (i)))] [.int (bI (decide ((bt (oM ml i) a) = (bt (oM ml i) b))))] := by
          refine r_istore X [(6, .int (bI (decide ((bt (oM ml i) a) = (bt (oM ml i) b))))), (0, .ref (ads o (95))), (1, .int (nI (a))), (2, .int (nI (b))), (3, .int (bI (alB (fun k => decide (bt (oM ml k) a = bt (oM ml k) b)) (i)))), (4, .int (bI (alB (fun k => !decide (bt (oM ml k) a = bt (oM ml k) b)) (i)))), (5, .int (nI (i)))] d_Mo_areTogether_45 (Nat.le_of_ble_eq_true rfl) rfl ?_
          refine r_iload_n X 4 d_Mo_areTogether_47 rfl rfl ?_
          have hJ_5 : V γ o 7 mi ml 61 [(6, .int (bI (decide ((bt (oM ml i) a) = (bt (oM ml i) b))))), (0, .ref (ads o (95))), (1, .int (nI (a))), (2, .int (nI (b))), (3, .int (bI (alB (fun k => decide (bt (oM ml k) a = bt (oM ml k) b)) (i)))), (4, .int (bI (alB (fun k => !decide (bt (oM ml k) a = bt (oM ml k) b)) (i)))), (5, .int (nI (i)))] [.int (bI (((alB (fun k => decide (bt (oM ml k) a = bt (oM ml k) b)) (i)) && (decide ((bt (oM ml i) a) = (bt (oM ml i) b))))))] := by
            refine r_istore_n X [(3, .int (bI (((alB (fun k => decide (bt (oM ml k) a = bt (oM ml k) b)) (i)) && (decide ((bt (oM ml i) a) = (bt (oM ml i) b))))))), (6, .int (bI (decide ((bt (oM ml i) a) = (bt (oM ml i) b))))), (0, .ref (ads o (95))), (1, .int (nI (a))), (2, .int (nI (b))), (4, .int (bI (alB (fun k => !decide (bt (oM ml k) a = bt (oM ml k) b)) (i)))), (5, .int (nI (i)))] d_Mo_areTogether_61 rfl (Nat.le_of_ble_eq_true rfl) rfl ?_
            refine r_iload X 5 d_Mo_areTogether_62 rfl ?_
            have hJ_6 : V γ o 7 mi ml 77 [(3, .int (bI (((alB (fun k => decide (bt (oM ml k) a = bt (oM ml k) b)) (i)) && (decide ((bt (oM ml i) a) = (bt (oM ml i) b))))))), (6, .int (bI (decide ((bt (oM ml i) a) = (bt (oM ml i) b))))), (0, .ref (ads o (95))), (1, .int (nI (a))), (2, .int (nI (b))), (4, .int (bI (alB (fun k => !decide (bt (oM ml k) a = bt (oM ml k) b)) (i)))), (5, .int (nI (i)))] [.int (bI (((alB (fun k => !decide (bt (oM ml k) a = bt (oM ml k) b)) (i)) && !(decide ((bt (oM ml i) a) = (bt (oM ml i) b))))))] := by
              refine r_istore X [(4, .int (bI (((alB (fun k => !decide (bt (oM ml k) a = bt (oM ml k) b)) (i)) && !(decide ((bt (oM ml i) a) = (bt (oM ml i) b))))))), (3, .int (bI (((alB (fun k => decide (bt (oM ml k) a = bt (oM ml k) b)) (i)) && (decide ((bt (oM ml i) a) = (bt (oM ml i) b))))))), (6, .int (bI (decide ((bt (oM ml i) a) = (bt (oM ml i) b))))), (0, .ref (ads o (95))), (1, .int (nI (a))), (2, .int (nI (b))), (5, .int (nI (i)))] d_Mo_areTogether_77 (Nat.le_of_ble_eq_true rfl) rfl ?_
              refine r_iinc X 6 (v := nI (i + 1)) [(5, .int (nI (i + 1))), (4, .int (bI (((alB (fun k => !decide (bt (oM ml k) a = bt (oM ml k) b)) (i)) && !(decide ((bt (oM ml i) a) = (bt (oM ml i) b))))))), (3, .int (bI (((alB (fun k => decide (bt (oM ml k) a = bt (oM ml k) b)) (i)) && (decide ((bt (oM ml i) a) = (bt (oM ml i) b))))))), (6, .int (bI (decide ((bt (oM ml i) a) = (bt (oM ml i) b))))), (0, .ref (ads o (95))), (1, .int (nI (a))), (2, .int (nI (b)))] d_Mo_areTogether_79 rfl (nI_add _ 1) (Nat.le_of_ble_eq_true rfl) rfl ?_
              refine r_goto X (tgt := 8) d_Mo_areTogether_82 (by decide) ?_
              refine V.wk [4, 5, 6, 2, 1, 0] (V.eq (ih_L8_1 (i + 1) (by omega) ) ?_ ?_ ?_ rfl) (rfl : lv_pick _ [4, 5, 6, 2, 1, 0] = [(0, .ref (ads o (95))), (1, .int (nI (a))), (2, .int (nI (b))), (3, .int (bI (((alB (fun k => decide (bt (oM ml k) a = bt (oM ml k) b)) (i)) && (decide ((bt (oM ml i) a) = (bt (oM ml i) b))))))), (4, .int (bI (((alB (fun k => !decide (bt (oM ml k) a = bt (oM ml k) b)) (i)) && !(decide ((bt (oM ml i) a) = (bt (oM ml i) b))))))), (5, .int (nI (i + 1)))])
              · rfl
              · rfl
              · first | rfl | (simp_all [ct, lastB, alB, fromB]; done)
            refine r_ifeqB X (tgt := 76) (b := alB (fun k => !decide (bt (oM ml k) a = bt (oM ml k) b)) (i)) d_Mo_areTogether_64 (by decide) (fun c_64 => ?_) (fun c_64 => ?_)
            · -- taken
              refine r_iconst X (v := nI (0)) d_Mo_areTogether_76 (by decide) ?_
              exact V.eq hJ_6 rfl rfl rfl (by rw [show (((alB (fun k => !decide (bt (oM ml k) a = bt (oM ml k) b)) (i)) && !(decide ((bt (oM ml i) a) = (bt (oM ml i) b))))) = false from by first | (simp only [c_64, decide_true, decide_false, Bool.not_true, Bool.not_false, Bool.true_and, Bool.false_and, Bool.and_true, Bool.and_false, Bool.true_or, Bool.false_or, Bool.or_true, Bool.or_false, if_true, if_false, ite_true, ite_false, cond_true, cond_false, Bool.false_eq_true, reduceIte]; done) | (simp [c_64]; done) | (simp_all; done)]; rfl)
            · -- not taken
              refine r_iload X 1 d_Mo_areTogether_67 rfl ?_
              refine r_ifneB X (tgt := 76) (b := decide ((bt (oM ml i) a) = (bt (oM ml i) b))) d_Mo_areTogether_69 (by decide) (fun c_69 => ?_) (fun c_69 => ?_)
              · -- taken
                refine r_iconst X (v := nI (0)) d_Mo_areTogether_76 (by decide) ?_
                exact V.eq hJ_6 rfl rfl rfl (by rw [show (((alB (fun k => !decide (bt (oM ml k) a = bt (oM ml k) b)) (i)) && !(decide ((bt (oM ml i) a) = (bt (oM ml i) b))))) = false from by first | (simp only [c_64, c_69, decide_true, decide_false, Bool.not_true, Bool.not_false, Bool.true_and, Bool.false_and, Bool.and_true, Bool.and_false, Bool.true_or, Bool.false_or, Bool.or_true, Bool.or_false, if_true, if_false, ite_true, ite_false, cond_true, cond_false, Bool.false_eq_true, reduceIte]; done) | (simp [c_64, c_69]; done) | (simp_all; done)]; rfl)
              · -- not taken
                refine r_iconst X (v := nI (1)) d_Mo_areTogether_72 (by decide) ?_
                refine r_goto X (tgt := 77) d_Mo_areTogether_73 (by decide) ?_
                exact V.eq hJ_6 rfl rfl rfl (by rw [show (((alB (fun k => !decide (bt (oM ml k) a = bt (oM ml k) b)) (i)) && !(decide ((bt (oM ml i) a) = (bt (oM ml i) b))))) = true from by first | (simp only [c_64, c_69, decide_true, decide_false, Bool.not_true, Bool.not_false, Bool.true_and, Bool.false_and, Bool.and_true, Bool.and_false, Bool.true_or, Bool.false_or, Bool.or_true, Bool.or_false, if_true, if_false, ite_true, ite_false, cond_true, cond_false, Bool.false_eq_true, reduceIte]; done) | (simp [c_64, c_69]; done) | (simp_all; done)]; rfl)
          refine r_ifeqB X (tgt := 60) (b := alB (fun k => decide (bt (oM ml k) a = bt (oM ml k) b)) (i)) d_Mo_areTogether_48 (by decide) (fun c_48 => ?_) (fun c_48 => ?_)
          · -- taken
            refine r_iconst X (v := nI (0)) d_Mo_areTogether_60 (by decide) ?_
            exact V.eq hJ_5 rfl rfl rfl (by rw [show (((alB (fun k => decide (bt (oM ml k) a = bt (oM ml k) b)) (i)) && (decide ((bt (oM ml i) a) = (bt (oM ml i) b))))) = false from by first | (simp only [c_48, decide_true, decide_false, Bool.not_true, Bool.not_false, Bool.true_and, Bool.false_and, Bool.and_true, Bool.and_false, Bool.true_or, Bool.false_or, Bool.or_true, Bool.or_false, if_true, if_false, ite_true, ite_false, cond_true, cond_false, Bool.false_eq_true, reduceIte]; done) | (simp [c_48]; done) | (simp_all; done)]; rfl)
          · -- not taken
            refine r_iload X 0 d_Mo_areTogether_51 rfl ?_
            refine r_ifeqB X (tgt := 60) (b := decide ((bt (oM ml i) a) = (bt (oM ml i) b))) d_Mo_areTogether_53 (by decide) (fun c_53 => ?_) (fun c_53 => ?_)
            · -- taken
              refine r_iconst X (v := nI (0)) d_Mo_areTogether_60 (by decide) ?_
              exact V.eq hJ_5 rfl rfl rfl (by rw [show (((alB (fun k => decide (bt (oM ml k) a = bt (oM ml k) b)) (i)) && (decide ((bt (oM ml i) a) = (bt (oM ml i) b))))) = false from by first | (simp only [c_48, c_53, decide_true, decide_false, Bool.not_true, Bool.not_false, Bool.true_and, Bool.false_and, Bool.and_true, Bool.and_false, Bool.true_or, Bool.false_or, Bool.or_true, Bool.or_false, if_true, if_false, ite_true, ite_false, cond_true, cond_false, Bool.false_eq_true, reduceIte]; done) | (simp [c_48, c_53]; done) | (simp_all; done)]; rfl)
            · -- not taken
              refine r_iconst X (v := nI (1)) d_Mo_areTogether_56 (by decide) ?_
              refine r_goto X (tgt := 61) d_Mo_areTogether_57 (by decide) ?_
              exact V.eq hJ_5 rfl rfl rfl (by rw [show (((alB (fun k => decide (bt (oM ml k) a = bt (oM ml k) b)) (i)) && (decide ((bt (oM ml i) a) = (bt (oM ml i) b))))) = true from by first | (simp only [c_48, c_53, decide_true, decide_false, Bool.not_true, Bool.not_false, Bool.true_and, Bool.false_and, Bool.and_true, Bool.and_false, Bool.true_or, Bool.false_or, Bool.or_true, Bool.or_false, if_true, if_false, ite_true, ite_false, cond_true, cond_false, Bool.false_eq_true, reduceIte]; done) | (simp [c_48, c_53]; done) | (simp_all; done)]; rfl)
        refine r_icneP X (tgt := 44) (c := (bt (oM ml i) a) = (bt (oM ml i) b)) d_Mo_areTogether_37 (by decide) (bI_inj _ _) (fun c_37 => ?_) (fun c_37 => ?_)
        · -- taken
          refine r_iconst X (v := nI (0)) d_Mo_areTogether_44 (by decide) ?_
          exact V.eq hJ_4 rfl rfl rfl (by rw [show (decide ((bt (oM ml i) a) = (bt (oM ml i) b))) = false from by first | (simp only [eq_false c_37, decide_true, decide_false, Bool.not_true, Bool.not_false, Bool.true_and, Bool.false_and, Bool.and_true, Bool.and_false, Bool.true_or, Bool.false_or, Bool.or_true, Bool.or_false, if_true, if_false, ite_true, ite_false, cond_true, cond_false, Bool.false_eq_true, reduceIte]; done) | (simp [c_37]; done) | (simp_all; done)]; rfl)
        · -- not taken
          refine r_iconst X (v := nI (1)) d_Mo_areTogether_40 (by decide) ?_
          refine r_goto X (tgt := 45) d_Mo_areTogether_41 (by decide) ?_
          exact V.eq hJ_4 rfl rfl rfl (by rw [show (decide ((bt (oM ml i) a) = (bt (oM ml i) b))) = true from by first | (simp only [eq_true c_37, decide_true, decide_false, Bool.not_true, Bool.not_false, Bool.true_and, Bool.false_and, Bool.and_true, Bool.and_false, Bool.true_or, Bool.false_or, Bool.or_true, Bool.or_false, if_true, if_false, ite_true, ite_false, cond_true, cond_false, Bool.false_eq_true, reduceIte]; done) | (simp [c_37]; done) | (simp_all; done)]; rfl)
  refine V.wk [3, 4, 5, 2, 1, 0] (V.eq (L8_1 (n - 0) 0 (by omega) ) ?_ ?_ ?_ rfl) (rfl : lv_pick _ [3, 4, 5, 2, 1, 0] = [(0, .ref (ads o (95))), (1, .int (nI (a))), (2, .int (nI (b))), (3, .int (nI (1))), (4, .int (nI (1))), (5, .int (nI (0)))])
  · rfl
  · rfl
  · rfl

set_option maxHeartbeats 4000000 in
set_option maxRecDepth 100000 in
theorem m_Mo_together (l : Launch) (o : OM) (mi : MI) (ml : ML) (n : Nat) (hn : ml 96 2 = lN n) (hn40 : n ≤ 40) : ConD l y_Mo_together c_Mo_together 3 (some .int) 2 48 o [.ref (ads o (95))] mi ml (some (.int ((togR (pairM (oM ml) n) 64 0)))) mi ml := by
  refine Con.mk (by decide) (Nat.le_of_ble_eq_true rfl) (fun γ X => ?_)
  show V γ o 3 mi ml 0 [(0, .ref (ads o (95)))] []
  refine r_iconst X (v := nI (0)) d_Mo_together_0 (by decide) ?_
  refine r_istore_n X [(1, .int (nI (0))), (0, .ref (ads o (95)))] d_Mo_together_1 rfl (Nat.le_of_ble_eq_true rfl) rfl ?_
  have L2_1 : ∀ (d_i i : Nat), i + d_i = 64 → (togR (pairM (oM ml) n) 64 0 = togR (pairM (oM ml) n) d_i (i)) → V γ o 3 mi ml 2 [(0, .ref (ads o (95))), (1, .int (nI (i)))] [] := by
    intro d_i
    induction d_i with
    | zero =>
      intro i hi_L2_1 hr
      have he_L2_1 : 64 = i := by omega
      subst he_L2_1
      refine r_iload_n X 1 d_Mo_together_2 rfl rfl ?_
      refine r_bipush X (v := nI (64)) d_Mo_together_3 (by decide) ?_
      refine r_icge X (tgt := 62) (c := 64 ≤ 64) d_Mo_together_5 (by decide) (nI_leI (Nat.le_of_ble_eq_true rfl) (by omega)) (fun c_5 => ?_) (fun c_5 => ?_)
      · -- taken
        refine r_iconst X (v := ((-1 : Int32))) d_Mo_together_62 (by decide) ?_
        refine r_end_i X d_Mo_together_63 ?_
        refine ⟨?_, rfl, rfl⟩; rw [hr]; rfl
      · -- not taken
        exact False.elim (by omega)
    | succ d_i ih_L2_1 =>
      intro i hi_L2_1 hr
      have hlt_L2_1 : i < 64 := by omega
      refine r_iload_n X 1 d_Mo_together_2 rfl rfl ?_
      refine r_bipush X (v := nI (64)) d_Mo_together_3 (by decide) ?_
      refine r_icge X (tgt := 62) (c := 64 ≤ i) d_Mo_together_5 (by decide) (nI_leI (Nat.le_of_ble_eq_true rfl) (by omega)) (fun c_5_2 => ?_) (fun c_5_2 => ?_)
      · -- taken
        exact False.elim (by omega)
      · -- not taken
        refine r_iload_n X 1 d_Mo_together_8 rfl rfl ?_
        refine r_iconst X (v := nI (1)) d_Mo_together_9 (by decide) ?_
        refine r_iadd X (v := nI (i + 1)) d_Mo_together_10 (nI_add _ _) ?_
        refine r_istore_n X [(2, .int (nI (i + 1))), (0, .ref (ads o (95))), (1, .int (nI (i)))] d_Mo_together_11 rfl (Nat.le_of_ble_eq_true rfl) rfl ?_
        have L12_3 : ∀ (d_j j : Nat), j + d_j = 64 → (togR (pairM (oM ml) n) 64 0 = fromC ((pairM (oM ml) n) i) (fun b => nI (64 * i + b)) (togR (pairM (oM ml) n) d_i (i + 1)) d_j (j)) → V γ o 3 mi ml 12 [(0, .ref (ads o (95))), (1, .int (nI (i))), (2, .int (nI (j)))] [] := by
          intro d_j
          induction d_j with
          | zero =>
            intro j hi_L12_3 hq
            have he_L12_3 : 64 = j := by omega
            subst he_L12_3
            refine r_iload_n X 2 d_Mo_together_12 rfl rfl ?_
            refine r_bipush X (v := nI (64)) d_Mo_together_13 (by decide) ?_
            refine r_icge X (tgt := 56) (c := 64 ≤ 64) d_Mo_together_15 (by decide) (nI_leI (Nat.le_of_ble_eq_true rfl) (by omega)) (fun c_15 => ?_) (fun c_15 => ?_)
            · -- taken
              refine r_iinc X 1 (v := nI (i + 1)) [(1, .int (nI (i + 1))), (0, .ref (ads o (95))), (2, .int (nI (64)))] d_Mo_together_56 rfl (nI_add _ 1) (Nat.le_of_ble_eq_true rfl) rfl ?_
              refine r_goto X (tgt := 2) d_Mo_together_59 (by decide) ?_
              refine V.wk [1, 0] (V.eq (ih_L2_1 (i + 1) (by omega) (by first | (simp_all [fromC, pairM]; done) | (rw [hq]; simp_all [fromC, pairM]; done) | (rw [hq, fromC_no (fun b => by simp_all [pairM])]))) ?_ ?_ ?_ rfl) (rfl : lv_pick _ [1, 0] = [(0, .ref (ads o (95))), (1, .int (nI (i + 1)))])
              · rfl
              · rfl
              · first | rfl | (simp_all [ct, lastB, alB, fromB]; done)
            · -- not taken
              exact False.elim (by omega)
          | succ d_j ih_L12_3 =>
            intro j hi_L12_3 hq
            have hlt_L12_3 : j < 64 := by omega
            refine r_iload_n X 2 d_Mo_together_12 rfl rfl ?_
            refine r_bipush X (v := nI (64)) d_Mo_together_13 (by decide) ?_
            refine r_icge X (tgt := 56) (c := 64 ≤ j) d_Mo_together_15 (by decide) (nI_leI (Nat.le_of_ble_eq_true rfl) (by omega)) (fun c_15_4 => ?_) (fun c_15_4 => ?_)
            · -- taken
              exact False.elim (by omega)
            · -- not taken
              refine r_aload_n X 0 d_Mo_together_18 rfl rfl ?_
              refine r_iload_n X 1 d_Mo_together_19 rfl rfl ?_
              refine r_callV X (m_Mo_isDead l o mi ml i n (hn) hn40 (by omega)) ok_Mo_isDead w_Mo_92 rfl b_95 e_95 rfl ⟨Nat.le_of_ble_eq_true rfl, Nat.le_of_ble_eq_true rfl⟩ (rest := []) rfl (Nat.le_of_ble_eq_true rfl) d_Mo_together_20 ?_
              refine kD (st' := [.int (bI (deadM (oM ml) n i))]) rfl ?_
              refine r_ifneB X (tgt := 56) (b := deadM (oM ml) n i) d_Mo_together_23 (by decide) (fun c_23 => ?_) (fun c_23 => ?_)
              · -- taken
                refine r_iinc X 1 (v := nI (i + 1)) [(1, .int (nI (i + 1))), (0, .ref (ads o (95))), (2, .int (nI (j)))] d_Mo_together_56 rfl (nI_add _ 1) (Nat.le_of_ble_eq_true rfl) rfl ?_
                refine r_goto X (tgt := 2) d_Mo_together_59 (by decide) ?_
                refine V.wk [1, 0] (V.eq (ih_L2_1 (i + 1) (by omega) (by first | (simp_all [fromC, pairM]; done) | (rw [hq]; simp_all [fromC, pairM]; done) | (rw [hq, fromC_no (fun b => by simp_all [pairM])]))) ?_ ?_ ?_ rfl) (rfl : lv_pick _ [1, 0] = [(0, .ref (ads o (95))), (1, .int (nI (i + 1)))])
                · rfl
                · rfl
                · first | rfl | (simp_all [ct, lastB, alB, fromB]; done)
              · -- not taken
                refine r_aload_n X 0 d_Mo_together_26 rfl rfl ?_
                refine r_iload_n X 2 d_Mo_together_27 rfl rfl ?_
                refine r_callV X (m_Mo_isDead l o mi ml j n (hn) hn40 (by omega)) ok_Mo_isDead w_Mo_92 rfl b_95 e_95 rfl ⟨Nat.le_of_ble_eq_true rfl, Nat.le_of_ble_eq_true rfl⟩ (rest := []) rfl (Nat.le_of_ble_eq_true rfl) d_Mo_together_28 ?_
                refine kD (st' := [.int (bI (deadM (oM ml) n j))]) rfl ?_
                refine r_ifneB X (tgt := 50) (b := deadM (oM ml) n j) d_Mo_together_31 (by decide) (fun c_31 => ?_) (fun c_31 => ?_)
                · -- taken
                  refine r_iinc X 2 (v := nI (j + 1)) [(2, .int (nI (j + 1))), (0, .ref (ads o (95))), (1, .int (nI (i)))] d_Mo_together_50 rfl (nI_add _ 1) (Nat.le_of_ble_eq_true rfl) rfl ?_
                  refine r_goto X (tgt := 12) d_Mo_together_53 (by decide) ?_
                  refine V.wk [1, 2, 0] (V.eq (ih_L12_3 (j + 1) (by omega) (by rw [hq]; simp_all [fromC, pairM])) ?_ ?_ ?_ rfl) (rfl : lv_pick _ [1, 2, 0] = [(0, .ref (ads o (95))), (1, .int (nI (i))), (2, .int (nI (j + 1)))])
                  · rfl
                  · rfl
                  · first | rfl | (simp_all [ct, lastB, alB, fromB]; done)
                · -- not taken
                  refine r_aload_n X 0 d_Mo_together_34 rfl rfl ?_
                  refine r_iload_n X 1 d_Mo_together_35 rfl rfl ?_
                  refine r_iload_n X 2 d_Mo_together_36 rfl rfl ?_
                  refine r_callV X (m_Mo_areTogether l o mi ml i j n (hn) hn40 (by omega) (by omega)) ok_Mo_areTogether w_Mo_96 rfl b_95 e_95 rfl ⟨Nat.le_of_ble_eq_true rfl, Nat.le_of_ble_eq_true rfl⟩ (rest := []) rfl (Nat.le_of_ble_eq_true rfl) d_Mo_together_37 ?_
                  refine kD (st' := [.int (bI (togM (oM ml) n i j))]) rfl ?_
                  refine r_ifeqB X (tgt := 50) (b := togM (oM ml) n i j) d_Mo_together_40 (by decide) (fun c_40 => ?_) (fun c_40 => ?_)
                  · -- taken
                    refine r_iinc X 2 (v := nI (j + 1)) [(2, .int (nI (j + 1))), (0, .ref (ads o (95))), (1, .int (nI (i)))] d_Mo_together_50 rfl (nI_add _ 1) (Nat.le_of_ble_eq_true rfl) rfl ?_
                    refine r_goto X (tgt := 12) d_Mo_together_53 (by decide) ?_
                    refine V.wk [1, 2, 0] (V.eq (ih_L12_3 (j + 1) (by omega) (by rw [hq]; simp_all [fromC, pairM])) ?_ ?_ ?_ rfl) (rfl : lv_pick _ [1, 2, 0] = [(0, .ref (ads o (95))), (1, .int (nI (i))), (2, .int (nI (j + 1)))])
                    · rfl
                    · rfl
                    · first | rfl | (simp_all [ct, lastB, alB, fromB]; done)
                  · -- not taken
                    refine r_bipush X (v := nI (64)) d_Mo_together_43 (by decide) ?_
                    refine r_iload_n X 1 d_Mo_together_45 rfl rfl ?_
                    refine r_imul X (v := nI (64 * i)) d_Mo_together_46 (pk_mul _ _) ?_
                    refine r_iload_n X 2 d_Mo_together_47 rfl rfl ?_
                    refine r_iadd X (v := nI (64 * i + j)) d_Mo_together_48 (nI_add _ _) ?_
                    refine r_end_i X d_Mo_together_49 ?_
                    refine ⟨?_, rfl, rfl⟩; rw [hq]; simp_all [fromC, pairM]
        refine V.wk [1, 2, 0] (V.eq (L12_3 (64 - (i + 1)) (i + 1) (by omega) (by rw [hr, togR, show 63 - i = 64 - (i + 1) from by omega])) ?_ ?_ ?_ rfl) (rfl : lv_pick _ [1, 2, 0] = [(0, .ref (ads o (95))), (1, .int (nI (i))), (2, .int (nI (i + 1)))])
        · rfl
        · rfl
        · rfl
  refine V.wk [1, 0] (V.eq (L2_1 (64 - 0) 0 (by omega) (rfl)) ?_ ?_ ?_ rfl) (rfl : lv_pick _ [1, 0] = [(0, .ref (ads o (95))), (1, .int (nI (0)))])
  · rfl
  · rfl
  · rfl

set_option maxHeartbeats 4000000 in
set_option maxRecDepth 100000 in
theorem m_Mo_couldBe (l : Launch) (o : OM) (mi : MI) (ml : ML) (k : Nat) (s : Nat) (hs : mi 95 10 = nI s) (hs6 : s ≤ 6) (hk : k < 40) : ConD l y_Mo_couldBe c_Mo_couldBe 4 (some .boolean) 1 23 o [.ref (ads o (95)), .int (nI (k))] mi ml (some (.int (bI (cb (oM ml k) (ml 104) (mi 105) s)))) mi ml := by
  refine Con.mk (by decide) (Nat.le_of_ble_eq_true rfl) (fun γ X => ?_)
  show V γ o 4 mi ml 0 [(0, .ref (ads o (95))), (1, .int (nI (k)))] []
  refine r_iconst X (v := nI (1)) d_Mo_couldBe_0 (by decide) ?_
  refine r_istore_n X [(2, .int (nI (1))), (0, .ref (ads o (95))), (1, .int (nI (k)))] d_Mo_couldBe_1 rfl (Nat.le_of_ble_eq_true rfl) rfl ?_
  refine r_iconst X (v := nI (0)) d_Mo_couldBe_2 (by decide) ?_
  refine r_istore_n X [(3, .int (nI (0))), (2, .int (nI (1))), (0, .ref (ads o (95))), (1, .int (nI (k)))] d_Mo_couldBe_3 rfl (Nat.le_of_ble_eq_true rfl) rfl ?_
  have L4_1 : ∀ (d_i i : Nat), i + d_i = s → V γ o 4 mi ml 4 [(0, .ref (ads o (95))), (1, .int (nI (k))), (2, .int (bI (alB (fun q => decide (nI (ds (oM ml k) (ml 104 q)) = mi 105 q)) (i)))), (3, .int (nI (i)))] [] := by
    intro d_i
    induction d_i with
    | zero =>
      intro i hi_L4_1 
      have he_L4_1 : s = i := by omega
      subst he_L4_1
      refine r_iload_n X 3 d_Mo_couldBe_4 rfl rfl ?_
      refine r_aload_n X 0 d_Mo_couldBe_5 rfl rfl ?_
      refine r_get X f_Mo_100 b_95 e_95 (v := .int (nI (s))) (congrArg (fun z => some (Value.int z)) (hs)) d_Mo_couldBe_6 ?_
      refine r_icge X (tgt := 52) (c := s ≤ s) d_Mo_couldBe_9 (by decide) (nI_leI (by omega) (by omega)) (fun c_9 => ?_) (fun c_9 => ?_)
      · -- taken
        refine r_iload_n X 2 d_Mo_couldBe_52 rfl rfl ?_
        refine r_end_z X (bI_nar _) d_Mo_couldBe_53 ?_
        first | exact ⟨rfl, rfl, rfl⟩ | (refine ⟨?_, rfl, rfl⟩; simp_all)
      · -- not taken
        exact False.elim (by omega)
    | succ d_i ih_L4_1 =>
      intro i hi_L4_1 
      have hlt_L4_1 : i < s := by omega
      refine r_iload_n X 3 d_Mo_couldBe_4 rfl rfl ?_
      refine r_aload_n X 0 d_Mo_couldBe_5 rfl rfl ?_
      refine r_get X f_Mo_100 b_95 e_95 (v := .int (nI (s))) (congrArg (fun z => some (Value.int z)) (hs)) d_Mo_couldBe_6 ?_
      refine r_icge X (tgt := 52) (c := s ≤ i) d_Mo_couldBe_9 (by decide) (nI_leI (by omega) (by omega)) (fun c_9_2 => ?_) (fun c_9_2 => ?_)
      · -- taken
        exact False.elim (by omega)
      · -- not taken
        refine r_iload_n X 2 d_Mo_couldBe_12 rfl rfl ?_
        have hJ_3 : V γ o 4 mi ml 45 [(0, .ref (ads o (95))), (1, .int (nI (k))), (2, .int (bI (alB (fun q => decide (nI (ds (oM ml k) (ml 104 q)) = mi 105 q)) (i)))), (3, .int (nI (i)))] [.int (bI (((alB (fun q => decide (nI (ds (oM ml k) (ml 104 q)) = mi 105 q)) (i)) && decide ((nI (pop ((oM ml k) ^^^ (ml 104 i)))) = (mi 105 i)))))] := by
          refine r_istore_n X [(2, .int (bI (((alB (fun q => decide (nI (ds (oM ml k) (ml 104 q)) = mi 105 q)) (i)) && decide ((nI (pop ((oM ml k) ^^^ (ml 104 i)))) = (mi 105 i)))))), (0, .ref (ads o (95))), (1, .int (nI (k))), (3, .int (nI (i)))] d_Mo_couldBe_45 rfl (Nat.le_of_ble_eq_true rfl) rfl ?_
          refine r_iinc X 3 (v := nI (i + 1)) [(3, .int (nI (i + 1))), (2, .int (bI (((alB (fun q => decide (nI (ds (oM ml k) (ml 104 q)) = mi 105 q)) (i)) && decide ((nI (pop ((oM ml k) ^^^ (ml 104 i)))) = (mi 105 i)))))), (0, .ref (ads o (95))), (1, .int (nI (k)))] d_Mo_couldBe_46 rfl (nI_add _ 1) (Nat.le_of_ble_eq_true rfl) rfl ?_
          refine r_goto X (tgt := 4) d_Mo_couldBe_49 (by decide) ?_
          refine V.wk [2, 3, 1, 0] (V.eq (ih_L4_1 (i + 1) (by omega) ) ?_ ?_ ?_ rfl) (rfl : lv_pick _ [2, 3, 1, 0] = [(0, .ref (ads o (95))), (1, .int (nI (k))), (2, .int (bI (((alB (fun q => decide (nI (ds (oM ml k) (ml 104 q)) = mi 105 q)) (i)) && decide ((nI (pop ((oM ml k) ^^^ (ml 104 i)))) = (mi 105 i)))))), (3, .int (nI (i + 1)))])
          · rfl
          · rfl
          · first | rfl | (simp_all [ct, lastB, alB, fromB]; done)
        refine r_ifeqB X (tgt := 44) (b := alB (fun q => decide (nI (ds (oM ml k) (ml 104 q)) = mi 105 q)) (i)) d_Mo_couldBe_13 (by decide) (fun c_13 => ?_) (fun c_13 => ?_)
        · -- taken
          refine r_iconst X (v := nI (0)) d_Mo_couldBe_44 (by decide) ?_
          exact V.eq hJ_3 rfl rfl rfl (by rw [show (((alB (fun q => decide (nI (ds (oM ml k) (ml 104 q)) = mi 105 q)) (i)) && decide ((nI (pop ((oM ml k) ^^^ (ml 104 i)))) = (mi 105 i)))) = false from by first | (simp only [c_13, decide_true, decide_false, Bool.not_true, Bool.not_false, Bool.true_and, Bool.false_and, Bool.and_true, Bool.and_false, Bool.true_or, Bool.false_or, Bool.or_true, Bool.or_false, if_true, if_false, ite_true, ite_false, cond_true, cond_false, Bool.false_eq_true, reduceIte]; done) | (simp [c_13]; done) | (simp_all; done)]; rfl)
        · -- not taken
          refine r_aload_n X 0 d_Mo_couldBe_16 rfl rfl ?_
          refine r_iload_n X 1 d_Mo_couldBe_17 rfl rfl ?_
          refine r_callV X (m_Mo_own l o mi ml k hk) ok_Mo_own w_Mo_67 rfl b_95 e_95 rfl ⟨Nat.le_of_ble_eq_true rfl, Nat.le_of_ble_eq_true rfl⟩ (rest := []) rfl (Nat.le_of_ble_eq_true rfl) d_Mo_couldBe_18 ?_
          refine kD (st' := [.long (oM ml k)]) rfl ?_
          refine r_aload_n X 0 d_Mo_couldBe_21 rfl rfl ?_
          refine r_get X f_Mo_36 b_95 e_95 (v := .ref (ads o (104))) rfl d_Mo_couldBe_22 ?_
          refine r_iload_n X 3 d_Mo_couldBe_25 rfl rfl ?_
          refine r_lald X (v := ml 104 i) b_104 e_104 (Nat.le_of_ble_eq_true rfl) (by omega) rfl d_Mo_couldBe_26 ?_
          refine r_lxor X (v := (oM ml k) ^^^ (ml 104 i)) d_Mo_couldBe_27 (rfl) ?_
          refine r_callS X (m_Mo_ones l o mi ml ((oM ml k) ^^^ (ml 104 i))) ok_Mo_ones w_Mo_71 rfl ⟨Nat.le_of_ble_eq_true rfl, Nat.le_of_ble_eq_true rfl⟩ (rest := []) rfl (Nat.le_of_ble_eq_true rfl) d_Mo_couldBe_28 ?_
          refine kD (st' := [.int (nI (pop ((oM ml k) ^^^ (ml 104 i))))]) rfl ?_
          refine r_aload_n X 0 d_Mo_couldBe_31 rfl rfl ?_
          refine r_get X f_Mo_39 b_95 e_95 (v := .ref (ads o (105))) rfl d_Mo_couldBe_32 ?_
          refine r_iload_n X 3 d_Mo_couldBe_35 rfl rfl ?_
          refine r_iald X (v := (mi 105 i)) b_105 e_105 (Nat.le_of_ble_eq_true rfl) (by omega) rfl d_Mo_couldBe_36 ?_
          refine r_icneP X (tgt := 44) (c := (nI (pop ((oM ml k) ^^^ (ml 104 i)))) = (mi 105 i)) d_Mo_couldBe_37 (by decide) (Iff.rfl) (fun c_37 => ?_) (fun c_37 => ?_)
          · -- taken
            refine r_iconst X (v := nI (0)) d_Mo_couldBe_44 (by decide) ?_
            exact V.eq hJ_3 rfl rfl rfl (by rw [show (((alB (fun q => decide (nI (ds (oM ml k) (ml 104 q)) = mi 105 q)) (i)) && decide ((nI (pop ((oM ml k) ^^^ (ml 104 i)))) = (mi 105 i)))) = false from by first | (simp only [c_13, eq_false c_37, decide_true, decide_false, Bool.not_true, Bool.not_false, Bool.true_and, Bool.false_and, Bool.and_true, Bool.and_false, Bool.true_or, Bool.false_or, Bool.or_true, Bool.or_false, if_true, if_false, ite_true, ite_false, cond_true, cond_false, Bool.false_eq_true, reduceIte]; done) | (simp [c_13, c_37]; done) | (simp_all; done)]; rfl)
          · -- not taken
            refine r_iconst X (v := nI (1)) d_Mo_couldBe_40 (by decide) ?_
            refine r_goto X (tgt := 45) d_Mo_couldBe_41 (by decide) ?_
            exact V.eq hJ_3 rfl rfl rfl (by rw [show (((alB (fun q => decide (nI (ds (oM ml k) (ml 104 q)) = mi 105 q)) (i)) && decide ((nI (pop ((oM ml k) ^^^ (ml 104 i)))) = (mi 105 i)))) = true from by first | (simp only [c_13, eq_true c_37, decide_true, decide_false, Bool.not_true, Bool.not_false, Bool.true_and, Bool.false_and, Bool.and_true, Bool.and_false, Bool.true_or, Bool.false_or, Bool.or_true, Bool.or_false, if_true, if_false, ite_true, ite_false, cond_true, cond_false, Bool.false_eq_true, reduceIte]; done) | (simp [c_13, c_37]; done) | (simp_all; done)]; rfl)
  refine V.wk [2, 3, 1, 0] (V.eq (L4_1 (s - 0) 0 (by omega) ) ?_ ?_ ?_ rfl) (rfl : lv_pick _ [2, 3, 1, 0] = [(0, .ref (ads o (95))), (1, .int (nI (k))), (2, .int (nI (1))), (3, .int (nI (0)))])
  · rfl
  · rfl
  · rfl

set_option maxHeartbeats 4000000 in
set_option maxRecDepth 100000 in
theorem m_Mo_could (l : Launch) (o : OM) (mi : MI) (ml : ML) (v : Bool) (n : Nat) (s : Nat) (hn : ml 96 2 = lN n) (hn40 : n ≤ 40) (hs : mi 95 10 = nI s) (hs6 : s ≤ 6) : ConD l y_Mo_could c_Mo_could 5 (some .int) 2 46 o [.ref (ads o (95)), .int (bI (v))] mi ml (some (.int ((if v then lastD (fun k => cb (oM ml k) (ml 104) (mi 105) s) n n else nI (ctD (fun k => cb (oM ml k) (ml 104) (mi 105) s) n n))))) mi ml := by
  refine Con.mk (by decide) (Nat.le_of_ble_eq_true rfl) (fun γ X => ?_)
  show V γ o 5 mi ml 0 [(0, .ref (ads o (95))), (1, .int (bI (v)))] []
  refine r_iconst X (v := nI (0)) d_Mo_could_0 (by decide) ?_
  refine r_istore_n X [(2, .int (nI (0))), (0, .ref (ads o (95))), (1, .int (bI (v)))] d_Mo_could_1 rfl (Nat.le_of_ble_eq_true rfl) rfl ?_
  refine r_iconst X (v := ((-1 : Int32))) d_Mo_could_2 (by decide) ?_
  refine r_istore_n X [(3, .int (((-1 : Int32)))), (2, .int (nI (0))), (0, .ref (ads o (95))), (1, .int (bI (v)))] d_Mo_could_3 rfl (Nat.le_of_ble_eq_true rfl) rfl ?_
  refine r_aload_n X 2 d_Mo_could_4 rfl rfl ?_
  refine r_callV X (m_Mo_marks l o mi ml n (hn) hn40) ok_Mo_marks w_Mo_59 rfl b_95 e_95 rfl ⟨Nat.le_of_ble_eq_true rfl, Nat.le_of_ble_eq_true rfl⟩ (rest := []) rfl (Nat.le_of_ble_eq_true rfl) d_Mo_could_5 ?_
  refine kD (st' := [.int (nI (n))]) rfl ?_
  refine r_iconst X (v := nI (1)) d_Mo_could_8 (by decide) ?_
  refine r_isub X (v := (nI (n) - nI (1))) d_Mo_could_9 (rfl) ?_
  refine r_istore X [(4, .int ((nI (n) - nI (1)))), (3, .int (((-1 : Int32)))), (2, .int (nI (0))), (0, .ref (ads o (95))), (1, .int (bI (v)))] d_Mo_could_10 (Nat.le_of_ble_eq_true rfl) rfl ?_
  have L12_1 : ∀ (d_i i : Nat), i + d_i = n → V γ o 5 mi ml 12 [(0, .ref (ads o (95))), (1, .int (bI (v))), (2, .int (nI (ctD (fun k => cb (oM ml k) (ml 104) (mi 105) s) n (i)))), (3, .int ((lastD (fun k => cb (oM ml k) (ml 104) (mi 105) s) n (i)))), (4, .int ((nI (n - (i)) - nI 1)))] [] := by
    intro d_i
    induction d_i with
    | zero =>
      intro i hi_L12_1 
      have he_L12_1 : n = i := by omega
      subst he_L12_1
      refine r_iload X 4 d_Mo_could_12 rfl ?_
      refine r_iflt X (tgt := 56) (c := (nI (n - (n)) - nI 1) < 0) d_Mo_could_14 (by decide) (Iff.rfl) (fun c_14 => ?_) (fun c_14 => ?_)
      · -- taken
        refine r_iload_n X 1 d_Mo_could_56 rfl rfl ?_
        have hJ_2 : V γ o 5 mi ml 65 [(0, .ref (ads o (95))), (1, .int (bI (v))), (2, .int (nI (ctD (fun k => cb (oM ml k) (ml 104) (mi 105) s) n (n)))), (3, .int ((lastD (fun k => cb (oM ml k) (ml 104) (mi 105) s) n (n)))), (4, .int ((nI (n - (n)) - nI 1)))] [.int ((if v then (lastD (fun k => cb (oM ml k) (ml 104) (mi 105) s) n (n)) else nI (ctD (fun k => cb (oM ml k) (ml 104) (mi 105) s) n (n))))] := by
          refine r_end_i X d_Mo_could_65 ?_
          refine ⟨?_, rfl, rfl⟩; simp_all
        refine r_ifeqB X (tgt := 64) (b := v) d_Mo_could_57 (by decide) (fun c_57 => ?_) (fun c_57 => ?_)
        · -- taken
          refine r_iload_n X 2 d_Mo_could_64 rfl rfl ?_
          exact V.eq hJ_2 rfl rfl rfl (by rw [show ((if v then (lastD (fun k => cb (oM ml k) (ml 104) (mi 105) s) n (n)) else nI (ctD (fun k => cb (oM ml k) (ml 104) (mi 105) s) n (n)))) = (nI (ctD (fun k => cb (oM ml k) (ml 104) (mi 105) s) n (n))) from by first | (simp only [c_57, decide_true, decide_false, Bool.not_true, Bool.not_false, Bool.true_and, Bool.false_and, Bool.and_true, Bool.and_false, Bool.true_or, Bool.false_or, Bool.or_true, Bool.or_false, if_true, if_false, ite_true, ite_false, cond_true, cond_false, Bool.false_eq_true, reduceIte]; done) | (simp [c_57]; done) | (simp_all; done)])
        · -- not taken
          refine r_iload_n X 3 d_Mo_could_60 rfl rfl ?_
          refine r_goto X (tgt := 65) d_Mo_could_61 (by decide) ?_
          exact V.eq hJ_2 rfl rfl rfl (by rw [show ((if v then (lastD (fun k => cb (oM ml k) (ml 104) (mi 105) s) n (n)) else nI (ctD (fun k => cb (oM ml k) (ml 104) (mi 105) s) n (n)))) = ((lastD (fun k => cb (oM ml k) (ml 104) (mi 105) s) n (n))) from by first | (simp only [c_57, decide_true, decide_false, Bool.not_true, Bool.not_false, Bool.true_and, Bool.false_and, Bool.and_true, Bool.and_false, Bool.true_or, Bool.false_or, Bool.or_true, Bool.or_false, if_true, if_false, ite_true, ite_false, cond_true, cond_false, Bool.false_eq_true, reduceIte]; done) | (simp [c_57]; done) | (simp_all; done)])
      · -- not taken
        exact False.elim (by rw [Nat.sub_self] at c_14; exact c_14 (by decide))
    | succ d_i ih_L12_1 =>
      intro i hi_L12_1 
      have hlt_L12_1 : i < n := by omega
      rw [show nI (n - (i)) - nI 1 = nI (n - i - 1) from pk_sub (by omega)]
      refine r_iload X 4 d_Mo_could_12 rfl ?_
      refine r_iflt X (tgt := 56) (c := (n - i - 1) < 0) d_Mo_could_14 (by decide) ((by rw [← nI_0] <;> exact nI_ltI (by omega) (Nat.le_of_ble_eq_true rfl))) (fun c_14_3 => ?_) (fun c_14_3 => ?_)
      · -- taken
        exact False.elim (by omega)
      · -- not taken
        refine r_iload_n X 2 d_Mo_could_17 rfl rfl ?_
        refine r_aload_n X 0 d_Mo_could_18 rfl rfl ?_
        refine r_iload X 4 d_Mo_could_19 rfl ?_
        refine r_callV X (m_Mo_couldBe l o mi ml (n - i - 1) s (hs) hs6 (by omega)) ok_Mo_couldBe w_Mo_104 rfl b_95 e_95 rfl ⟨Nat.le_of_ble_eq_true rfl, Nat.le_of_ble_eq_true rfl⟩ (rest := [.int (nI (ctD (fun k => cb (oM ml k) (ml 104) (mi 105) s) n (i)))]) rfl (Nat.le_of_ble_eq_true rfl) d_Mo_could_21 ?_
        refine kD (st' := [.int (bI (cb (oM ml (n - i - 1)) (ml 104) (mi 105) s)), .int (nI (ctD (fun k => cb (oM ml k) (ml 104) (mi 105) s) n (i)))]) rfl ?_
        have hJ_4 : V γ o 5 mi ml 32 [(0, .ref (ads o (95))), (1, .int (bI (v))), (2, .int (nI (ctD (fun k => cb (oM ml k) (ml 104) (mi 105) s) n (i)))), (3, .int ((lastD (fun k => cb (oM ml k) (ml 104) (mi 105) s) n (i)))), (4, .int (nI (n - i - 1)))] [.int (bI ((cb (oM ml (n - i - 1)) (ml 104) (mi 105) s))), .int (nI (ctD (fun k => cb (oM ml k) (ml 104) (mi 105) s) n (i)))] := by
          refine r_iadd X (v := nI (ctD (fun k => cb (oM ml k) (ml 104) (mi 105) s) n (i) + ((cb (oM ml (n - i - 1)) (ml 104) (mi 105) s)).toNat)) d_Mo_could_32 (bI_add _ _) ?_
          refine r_istore_n X [(2, .int (nI (ctD (fun k => cb (oM ml k) (ml 104) (mi 105) s) n (i) + ((cb (oM ml (n - i - 1)) (ml 104) (mi 105) s)).toNat))), (0, .ref (ads o (95))), (1, .int (bI (v))), (3, .int ((lastD (fun k => cb (oM ml k) (ml 104) (mi 105) s) n (i)))), (4, .int (nI (n - i - 1)))] d_Mo_could_33 rfl (Nat.le_of_ble_eq_true rfl) rfl ?_
          refine r_aload_n X 1 d_Mo_could_34 rfl rfl ?_
          refine r_iload X 4 d_Mo_could_35 rfl ?_
          refine r_callV X (m_Mo_couldBe l o mi ml (n - i - 1) s (hs) hs6 (by omega)) ok_Mo_couldBe w_Mo_104 rfl b_95 e_95 rfl ⟨Nat.le_of_ble_eq_true rfl, Nat.le_of_ble_eq_true rfl⟩ (rest := []) rfl (Nat.le_of_ble_eq_true rfl) d_Mo_could_37 ?_
          refine kD (st' := [.int (bI (cb (oM ml (n - i - 1)) (ml 104) (mi 105) s))]) rfl ?_
          have hJ_5 : V γ o 5 mi ml 49 [(2, .int (nI (ctD (fun k => cb (oM ml k) (ml 104) (mi 105) s) n (i) + ((cb (oM ml (n - i - 1)) (ml 104) (mi 105) s)).toNat))), (0, .ref (ads o (95))), (1, .int (bI (v))), (3, .int ((lastD (fun k => cb (oM ml k) (ml 104) (mi 105) s) n (i)))), (4, .int (nI (n - i - 1)))] [.int ((if (cb (oM ml (n - i - 1)) (ml 104) (mi 105) s) then nI (n - i - 1) else (lastD (fun k => cb (oM ml k) (ml 104) (mi 105) s) n (i))))] := by
            refine r_istore_n X [(3, .int ((if (cb (oM ml (n - i - 1)) (ml 104) (mi 105) s) then nI (n - i - 1) else (lastD (fun k => cb (oM ml k) (ml 104) (mi 105) s) n (i))))), (2, .int (nI (ctD (fun k => cb (oM ml k) (ml 104) (mi 105) s) n (i) + ((cb (oM ml (n - i - 1)) (ml 104) (mi 105) s)).toNat))), (0, .ref (ads o (95))), (1, .int (bI (v))), (4, .int (nI (n - i - 1)))] d_Mo_could_49 rfl (Nat.le_of_ble_eq_true rfl) rfl ?_
            refine r_iinc X 4 (v := (nI (n - i - 1) + Int32.ofInt (-1))) [(4, .int ((nI (n - i - 1) + Int32.ofInt (-1)))), (3, .int ((if (cb (oM ml (n - i - 1)) (ml 104) (mi 105) s) then nI (n - i - 1) else (lastD (fun k => cb (oM ml k) (ml 104) (mi 105) s) n (i))))), (2, .int (nI (ctD (fun k => cb (oM ml k) (ml 104) (mi 105) s) n (i) + ((cb (oM ml (n - i - 1)) (ml 104) (mi 105) s)).toNat))), (0, .ref (ads o (95))), (1, .int (bI (v)))] d_Mo_could_50 rfl (rfl) (Nat.le_of_ble_eq_true rfl) rfl ?_
            refine r_goto X (tgt := 12) d_Mo_could_53 (by decide) ?_
            refine V.wk [3, 4, 2, 1, 0] (V.eq (ih_L12_1 (i + 1) (by omega) ) ?_ ?_ ?_ rfl) (rfl : lv_pick _ [3, 4, 2, 1, 0] = [(0, .ref (ads o (95))), (1, .int (bI (v))), (2, .int (nI (ctD (fun k => cb (oM ml k) (ml 104) (mi 105) s) n (i) + ((cb (oM ml (n - i - 1)) (ml 104) (mi 105) s)).toNat))), (3, .int ((if (cb (oM ml (n - i - 1)) (ml 104) (mi 105) s) then nI (n - i - 1) else (lastD (fun k => cb (oM ml k) (ml 104) (mi 105) s) n (i))))), (4, .int ((nI (n - i - 1) + Int32.ofInt (-1))))])
            · rfl
            · rfl
            · rw [dec_eq, show n - (i + 1) = n - i - 1 from by omega]; rfl
          refine r_ifeqB X (tgt := 48) (b := cb (oM ml (n - i - 1)) (ml 104) (mi 105) s) d_Mo_could_40 (by decide) (fun c_40 => ?_) (fun c_40 => ?_)
          · -- taken
            refine r_iload_n X 3 d_Mo_could_48 rfl rfl ?_
            exact V.eq hJ_5 rfl rfl rfl (by rw [show ((if (cb (oM ml (n - i - 1)) (ml 104) (mi 105) s) then nI (n - i - 1) else (lastD (fun k => cb (oM ml k) (ml 104) (mi 105) s) n (i)))) = ((lastD (fun k => cb (oM ml k) (ml 104) (mi 105) s) n (i))) from by first | (simp only [c_40, decide_true, decide_false, Bool.not_true, Bool.not_false, Bool.true_and, Bool.false_and, Bool.and_true, Bool.and_false, Bool.true_or, Bool.false_or, Bool.or_true, Bool.or_false, if_true, if_false, ite_true, ite_false, cond_true, cond_false, Bool.false_eq_true, reduceIte]; done) | (simp [c_40]; done) | (simp_all; done)])
          · -- not taken
            refine r_iload X 4 d_Mo_could_43 rfl ?_
            refine r_goto X (tgt := 49) d_Mo_could_45 (by decide) ?_
            exact V.eq hJ_5 rfl rfl rfl (by rw [show ((if (cb (oM ml (n - i - 1)) (ml 104) (mi 105) s) then nI (n - i - 1) else (lastD (fun k => cb (oM ml k) (ml 104) (mi 105) s) n (i)))) = (nI (n - i - 1)) from by first | (simp only [c_40, decide_true, decide_false, Bool.not_true, Bool.not_false, Bool.true_and, Bool.false_and, Bool.and_true, Bool.and_false, Bool.true_or, Bool.false_or, Bool.or_true, Bool.or_false, if_true, if_false, ite_true, ite_false, cond_true, cond_false, Bool.false_eq_true, reduceIte]; done) | (simp [c_40]; done) | (simp_all; done)])
        refine r_ifeqB X (tgt := 31) (b := cb (oM ml (n - i - 1)) (ml 104) (mi 105) s) d_Mo_could_24 (by decide) (fun c_24 => ?_) (fun c_24 => ?_)
        · -- taken
          refine r_iconst X (v := nI (0)) d_Mo_could_31 (by decide) ?_
          exact V.eq hJ_4 rfl rfl rfl (by rw [show ((cb (oM ml (n - i - 1)) (ml 104) (mi 105) s)) = false from by first | (simp only [c_24, decide_true, decide_false, Bool.not_true, Bool.not_false, Bool.true_and, Bool.false_and, Bool.and_true, Bool.and_false, Bool.true_or, Bool.false_or, Bool.or_true, Bool.or_false, if_true, if_false, ite_true, ite_false, cond_true, cond_false, Bool.false_eq_true, reduceIte]; done) | (simp [c_24]; done) | (simp_all; done)]; rfl)
        · -- not taken
          refine r_iconst X (v := nI (1)) d_Mo_could_27 (by decide) ?_
          refine r_goto X (tgt := 32) d_Mo_could_28 (by decide) ?_
          exact V.eq hJ_4 rfl rfl rfl (by rw [show ((cb (oM ml (n - i - 1)) (ml 104) (mi 105) s)) = true from by first | (simp only [c_24, decide_true, decide_false, Bool.not_true, Bool.not_false, Bool.true_and, Bool.false_and, Bool.and_true, Bool.and_false, Bool.true_or, Bool.false_or, Bool.or_true, Bool.or_false, if_true, if_false, ite_true, ite_false, cond_true, cond_false, Bool.false_eq_true, reduceIte]; done) | (simp [c_24]; done) | (simp_all; done)]; rfl)
  refine V.wk [3, 4, 2, 1, 0] (V.eq (L12_1 (n - 0) 0 (by omega) ) ?_ ?_ ?_ rfl) (rfl : lv_pick _ [3, 4, 2, 1, 0] = [(0, .ref (ads o (95))), (1, .int (bI (v))), (2, .int (nI (0))), (3, .int (((-1 : Int32)))), (4, .int ((nI (n) - nI (1))))])
  · rfl
  · rfl
  · rw [Nat.sub_zero]; rfl

set_option maxHeartbeats 4000000 in
set_option maxRecDepth 100000 in
theorem m_Mo_wrong (l : Launch) (o : OM) (mi : MI) (ml : ML) (n : Nat) (E : Nat) (B1 : Nat → Nat) (B2 : Nat → Nat) (hn : ml 96 2 = lN n) (hn40 : n ≤ 40) (hE : mi 95 13 = nI E) (hE20 : E ≤ 20) (hB1 : ∀ e, e < E → mi 106 e = nI (B1 e) ∧ B1 e < 40) (hB2 : ∀ e, e < E → mi 107 e = nI (B2 e) ∧ B2 e < 40) : ConD l y_Mo_wrong c_Mo_wrong 3 (some .int) 2 46 o [.ref (ads o (95))] mi ml (some (.int ((fromB (fun e => !(isMk n (nI (B1 e)) && isMk n (nI (B2 e))) || !decide (nI (ds (oM ml (B1 e)) (oM ml (B2 e))) = mi 108 e)) E 0)))) mi ml := by
  refine Con.mk (by decide) (Nat.le_of_ble_eq_true rfl) (fun γ X => ?_)
  show V γ o 3 mi ml 0 [(0, .ref (ads o (95)))] []
  refine r_iconst X (v := nI (0)) d_Mo_wrong_0 (by decide) ?_
  refine r_istore_n X [(1, .int (nI (0))), (0, .ref (ads o (95)))] d_Mo_wrong_1 rfl (Nat.le_of_ble_eq_true rfl) rfl ?_
  have L2_1 : ∀ (d_i i : Nat), i + d_i = E → (fromB (fun e => !(isMk n (nI (B1 e)) && isMk n (nI (B2 e))) || !decide (nI (ds (oM ml (B1 e)) (oM ml (B2 e))) = mi 108 e)) E 0 = fromB (fun e => !(isMk n (nI (B1 e)) && isMk n (nI (B2 e))) || !decide (nI (ds (oM ml (B1 e)) (oM ml (B2 e))) = mi 108 e)) d_i (i)) → V γ o 3 mi ml 2 [(0, .ref (ads o (95))), (1, .int (nI (i)))] [] := by
    intro d_i
    induction d_i with
    | zero =>
      intro i hi_L2_1 hr
      have he_L2_1 : E = i := by omega
      subst he_L2_1
      refine r_iload_n X 1 d_Mo_wrong_2 rfl rfl ?_
      refine r_aload_n X 0 d_Mo_wrong_3 rfl rfl ?_
      refine r_get X f_Mo_111 b_95 e_95 (v := .int (nI (E))) (congrArg (fun z => some (Value.int z)) (hE)) d_Mo_wrong_4 ?_
      refine r_icge X (tgt := 87) (c := E ≤ E) d_Mo_wrong_7 (by decide) (nI_leI (by omega) (by omega)) (fun c_7 => ?_) (fun c_7 => ?_)
      · -- taken
        refine r_iconst X (v := ((-1 : Int32))) d_Mo_wrong_87 (by decide) ?_
        refine r_end_i X d_Mo_wrong_88 ?_
        refine ⟨?_, rfl, rfl⟩; rw [hr]; rfl
      · -- not taken
        exact False.elim (by omega)
    | succ d_i ih_L2_1 =>
      intro i hi_L2_1 hr
      have hlt_L2_1 : i < E := by omega
      refine r_iload_n X 1 d_Mo_wrong_2 rfl rfl ?_
      refine r_aload_n X 0 d_Mo_wrong_3 rfl rfl ?_
      refine r_get X f_Mo_111 b_95 e_95 (v := .int (nI (E))) (congrArg (fun z => some (Value.int z)) (hE)) d_Mo_wrong_4 ?_
      refine r_icge X (tgt := 87) (c := E ≤ i) d_Mo_wrong_7 (by decide) (nI_leI (by omega) (by omega)) (fun c_7_2 => ?_) (fun c_7_2 => ?_)
      · -- taken
        exact False.elim (by omega)
      · -- not taken
        refine r_aload_n X 0 d_Mo_wrong_10 rfl rfl ?_
        refine r_aload_n X 0 d_Mo_wrong_11 rfl rfl ?_
        refine r_get X f_Mo_42 b_95 e_95 (v := .ref (ads o (106))) rfl d_Mo_wrong_12 ?_
        refine r_iload_n X 1 d_Mo_wrong_15 rfl rfl ?_
        refine r_iald X (v := nI (B1 i)) b_106 e_106 (Nat.le_of_ble_eq_true rfl) (by omega) ((hB1 _ (by omega)).1) d_Mo_wrong_16 ?_
        refine r_callV X (m_Mo_isMark l o mi ml (nI (B1 i)) n (hn) hn40) ok_Mo_isMark w_Mo_114 rfl b_95 e_95 rfl ⟨Nat.le_of_ble_eq_true rfl, Nat.le_of_ble_eq_true rfl⟩ (rest := []) rfl (Nat.le_of_ble_eq_true rfl) d_Mo_wrong_17 ?_
        refine kD (st' := [.int (bI (isMk n (nI (B1 i))))]) rfl ?_
        have hJ_3 : V γ o 3 mi ml 41 [(0, .ref (ads o (95))), (1, .int (nI (i)))] [.int (bI (((isMk n (nI (B1 i))) && (isMk n (nI (B2 i))))))] := by
          refine r_istore_n X [(2, .int (bI (((isMk n (nI (B1 i))) && (isMk n (nI (B2 i))))))), (0, .ref (ads o (95))), (1, .int (nI (i)))] d_Mo_wrong_41 rfl (Nat.le_of_ble_eq_true rfl) rfl ?_
          refine r_iload_n X 0 d_Mo_wrong_42 rfl rfl ?_
          refine r_ifeqB X (tgt := 79) (b := ((isMk n (nI (B1 i))) && (isMk n (nI (B2 i))))) d_Mo_wrong_43 (by decide) (fun c_43 => ?_) (fun c_43 => ?_)
          · -- taken
            refine r_iload_n X 2 d_Mo_wrong_79 rfl rfl ?_
            refine r_end_i X d_Mo_wrong_80 ?_
            refine ⟨?_, rfl, rfl⟩; rw [hr]; simp_all [fromB, ds]
          · -- not taken
            refine r_aload_n X 1 d_Mo_wrong_46 rfl rfl ?_
            refine r_aload_n X 1 d_Mo_wrong_47 rfl rfl ?_
            refine r_get X f_Mo_42 b_95 e_95 (v := .ref (ads o (106))) rfl d_Mo_wrong_48 ?_
            refine r_iload_n X 2 d_Mo_wrong_51 rfl rfl ?_
            refine r_iald X (v := nI (B1 i)) b_106 e_106 (Nat.le_of_ble_eq_true rfl) (by omega) ((hB1 _ (by omega)).1) d_Mo_wrong_52 ?_
            refine r_callV X (m_Mo_own l o mi ml (B1 i) ((hB1 _ (by omega)).2)) ok_Mo_own w_Mo_67 rfl b_95 e_95 rfl ⟨Nat.le_of_ble_eq_true rfl, Nat.le_of_ble_eq_true rfl⟩ (rest := []) rfl (Nat.le_of_ble_eq_true rfl) d_Mo_wrong_53 ?_
            refine kD (st' := [.long (oM ml (B1 i))]) rfl ?_
            refine r_aload_n X 1 d_Mo_wrong_56 rfl rfl ?_
            refine r_aload_n X 1 d_Mo_wrong_57 rfl rfl ?_
            refine r_get X f_Mo_45 b_95 e_95 (v := .ref (ads o (107))) rfl d_Mo_wrong_58 ?_
            refine r_iload_n X 2 d_Mo_wrong_61 rfl rfl ?_
            refine r_iald X (v := nI (B2 i)) b_107 e_107 (Nat.le_of_ble_eq_true rfl) (by omega) ((hB2 _ (by omega)).1) d_Mo_wrong_62 ?_
            refine r_callV X (m_Mo_own l o mi ml (B2 i) ((hB2 _ (by omega)).2)) ok_Mo_own w_Mo_67 rfl b_95 e_95 rfl ⟨Nat.le_of_ble_eq_true rfl, Nat.le_of_ble_eq_true rfl⟩ (rest := [.long (oM ml (B1 i))]) rfl (Nat.le_of_ble_eq_true rfl) d_Mo_wrong_63 ?_
            refine kD (st' := [.long (oM ml (B2 i)), .long (oM ml (B1 i))]) rfl ?_
            refine r_lxor X (v := (oM ml (B1 i)) ^^^ (oM ml (B2 i))) d_Mo_wrong_66 (rfl) ?_
            refine r_callS X (m_Mo_ones l o mi ml ((oM ml (B1 i)) ^^^ (oM ml (B2 i)))) ok_Mo_ones w_Mo_71 rfl ⟨Nat.le_of_ble_eq_true rfl, Nat.le_of_ble_eq_true rfl⟩ (rest := []) rfl (Nat.le_of_ble_eq_true rfl) d_Mo_wrong_67 ?_
            refine kD (st' := [.int (nI (pop ((oM ml (B1 i)) ^^^ (oM ml (B2 i)))))]) rfl ?_
            refine r_aload_n X 1 d_Mo_wrong_70 rfl rfl ?_
            refine r_get X f_Mo_48 b_95 e_95 (v := .ref (ads o (108))) rfl d_Mo_wrong_71 ?_
            refine r_iload_n X 2 d_Mo_wrong_74 rfl rfl ?_
            refine r_iald X (v := (mi 108 i)) b_108 e_108 (Nat.le_of_ble_eq_true rfl) (by omega) rfl d_Mo_wrong_75 ?_
            refine r_iceq X (tgt := 81) (c := (nI (pop ((oM ml (B1 i)) ^^^ (oM ml (B2 i))))) = (mi 108 i)) d_Mo_wrong_76 (by decide) (Iff.rfl) (fun c_76 => ?_) (fun c_76 => ?_)
            · -- taken
              refine r_iinc X 2 (v := nI (i + 1)) [(1, .int (nI (i + 1))), (2, .int (bI (((isMk n (nI (B1 i))) && (isMk n (nI (B2 i))))))), (0, .ref (ads o (95)))] d_Mo_wrong_81 rfl (nI_add _ 1) (Nat.le_of_ble_eq_true rfl) rfl ?_
              refine r_goto X (tgt := 2) d_Mo_wrong_84 (by decide) ?_
              refine V.wk [2, 0] (V.eq (ih_L2_1 (i + 1) (by omega) (by rw [hr]; simp_all [fromB, ds])) ?_ ?_ ?_ rfl) (rfl : lv_pick _ [2, 0] = [(0, .ref (ads o (95))), (1, .int (nI (i + 1)))])
              · rfl
              · rfl
              · first | rfl | (simp_all [ct, lastB, alB, fromB]; done)
            · -- not taken
              refine r_iload_n X 2 d_Mo_wrong_79 rfl rfl ?_
              refine r_end_i X d_Mo_wrong_80 ?_
              refine ⟨?_, rfl, rfl⟩; rw [hr]; simp_all [fromB, ds]
        refine r_ifeqB X (tgt := 40) (b := isMk n (nI (B1 i))) d_Mo_wrong_20 (by decide) (fun c_20 => ?_) (fun c_20 => ?_)
        · -- taken
          refine r_iconst X (v := nI (0)) d_Mo_wrong_40 (by decide) ?_
          exact V.eq hJ_3 rfl rfl rfl (by rw [show (((isMk n (nI (B1 i))) && (isMk n (nI (B2 i))))) = false from by first | (simp only [c_20, decide_true, decide_false, Bool.not_true, Bool.not_false, Bool.true_and, Bool.false_and, Bool.and_true, Bool.and_false, Bool.true_or, Bool.false_or, Bool.or_true, Bool.or_false, if_true, if_false, ite_true, ite_false, cond_true, cond_false, Bool.false_eq_true, reduceIte]; done) | (simp [c_20]; done) | (simp_all; done)]; rfl)
        · -- not taken
          refine r_aload_n X 0 d_Mo_wrong_23 rfl rfl ?_
          refine r_aload_n X 0 d_Mo_wrong_24 rfl rfl ?_
          refine r_get X f_Mo_45 b_95 e_95 (v := .ref (ads o (107))) rfl d_Mo_wrong_25 ?_
          refine r_iload_n X 1 d_Mo_wrong_28 rfl rfl ?_
          refine r_iald X (v := nI (B2 i)) b_107 e_107 (Nat.le_of_ble_eq_true rfl) (by omega) ((hB2 _ (by omega)).1) d_Mo_wrong_29 ?_
          refine r_callV X (m_Mo_isMark l o mi ml (nI (B2 i)) n (hn) hn40) ok_Mo_isMark w_Mo_114 rfl b_95 e_95 rfl ⟨Nat.le_of_ble_eq_true rfl, Nat.le_of_ble_eq_true rfl⟩ (rest := []) rfl (Nat.le_of_ble_eq_true rfl) d_Mo_wrong_30 ?_
          refine kD (st' := [.int (bI (isMk n (nI (B2 i))))]) rfl ?_
          refine r_ifeqB X (tgt := 40) (b := isMk n (nI (B2 i))) d_Mo_wrong_33 (by decide) (fun c_33 => ?_) (fun c_33 => ?_)
          · -- taken
            refine r_iconst X (v := nI (0)) d_Mo_wrong_40 (by decide) ?_
            exact V.eq hJ_3 rfl rfl rfl (by rw [show (((isMk n (nI (B1 i))) && (isMk n (nI (B2 i))))) = false from by first | (simp only [c_20, c_33, decide_true, decide_false, Bool.not_true, Bool.not_false, Bool.true_and, Bool.false_and, Bool.and_true, Bool.and_false, Bool.true_or, Bool.false_or, Bool.or_true, Bool.or_false, if_true, if_false, ite_true, ite_false, cond_true, cond_false, Bool.false_eq_true, reduceIte]; done) | (simp [c_20, c_33]; done) | (simp_all; done)]; rfl)
          · -- not taken
            refine r_iconst X (v := nI (1)) d_Mo_wrong_36 (by decide) ?_
            refine r_goto X (tgt := 41) d_Mo_wrong_37 (by decide) ?_
            exact V.eq hJ_3 rfl rfl rfl (by rw [show (((isMk n (nI (B1 i))) && (isMk n (nI (B2 i))))) = true from by first | (simp only [c_20, c_33, decide_true, decide_false, Bool.not_true, Bool.not_false, Bool.true_and, Bool.false_and, Bool.and_true, Bool.and_false, Bool.true_or, Bool.false_or, Bool.or_true, Bool.or_false, if_true, if_false, ite_true, ite_false, cond_true, cond_false, Bool.false_eq_true, reduceIte]; done) | (simp [c_20, c_33]; done) | (simp_all; done)]; rfl)
  refine V.wk [1, 0] (V.eq (L2_1 (E - 0) 0 (by omega) (rfl)) ?_ ?_ ?_ rfl) (rfl : lv_pick _ [1, 0] = [(0, .ref (ads o (95))), (1, .int (nI (0)))])
  · rfl
  · rfl
  · rfl

set_option maxHeartbeats 4000000 in
set_option maxRecDepth 100000 in
theorem m_Mo_first (l : Launch) (o : OM) (mi : MI) (ml : ML) (v : Bool) (n : Nat) (hn : ml 96 2 = lN n) (hn40 : n ≤ 40) : ConD l y_Mo_first c_Mo_first 3 (some .int) 4 90 o [.ref (ads o (95)), .int (bI (v))] mi ml (some (.int ((if v then (if lastB (fun k => decide (nI (ahd (fun q => ds (oM ml q) (ml 96 0)) n k) = nI 0)) n = -1 then -1 else nI (ds (oM ml (lastB (fun k => decide (nI (ahd (fun q => ds (oM ml q) (ml 96 0)) n k) = nI 0)) n).toNatClampNeg) (ml 96 0))) else lastB (fun k => decide (nI (ahd (fun q => ds (oM ml q) (ml 96 0)) n k) = nI 0)) n)))) mi ml := by
  refine Con.mk (by decide) (Nat.le_of_ble_eq_true rfl) (fun γ X => ?_)
  show V γ o 3 mi ml 0 [(0, .ref (ads o (95))), (1, .int (bI (v)))] []
  refine r_aload_n X 0 d_Mo_first_0 rfl rfl ?_
  refine r_iconst X (v := nI (0)) d_Mo_first_1 (by decide) ?_
  refine r_callV X (m_Mo_nearestOf l o mi ml (nI (0)) n (hn) hn40) ok_Mo_nearestOf w_Mo_117 rfl b_95 e_95 rfl ⟨Nat.le_of_ble_eq_true rfl, Nat.le_of_ble_eq_true rfl⟩ (rest := []) rfl (Nat.le_of_ble_eq_true rfl) d_Mo_first_2 ?_
  refine kD (st' := [.int ((lastB (fun k => decide (nI (ahd (fun q => ds (oM ml q) (ml 96 0)) n k) = (nI (0)))) n))]) rfl ?_
  refine r_istore_n X [(2, .int ((lastB (fun k => decide (nI (ahd (fun q => ds (oM ml q) (ml 96 0)) n k) = (nI (0)))) n))), (0, .ref (ads o (95))), (1, .int (bI (v)))] d_Mo_first_5 rfl (Nat.le_of_ble_eq_true rfl) rfl ?_
  refine r_iload_n X 0 d_Mo_first_6 rfl rfl ?_
  refine r_iconst X (v := ((-1 : Int32))) d_Mo_first_7 (by decide) ?_
  refine r_iceq X (tgt := 15) (c := (lastB (fun k => decide (nI (ahd (fun q => ds (oM ml q) (ml 96 0)) n k) = (nI (0)))) n) = ((-1 : Int32))) d_Mo_first_8 (by decide) (Iff.rfl) (fun c_8 => ?_) (fun c_8 => ?_)
  · -- taken
    refine r_iload_n X 0 d_Mo_first_15 rfl rfl ?_
    refine r_goto X (tgt := 24) d_Mo_first_16 (by decide) ?_
    refine r_end_i X d_Mo_first_24 ?_
    refine ⟨?_, rfl, rfl⟩; first | (simp_all; done) | (rw [ej, nI_clamp (by omega)]; simp_all)
  · -- not taken
    refine r_iload_n X 2 d_Mo_first_11 rfl rfl ?_
    refine r_ifneB X (tgt := 19) (b := v) d_Mo_first_12 (by decide) (fun c_12 => ?_) (fun c_12 => ?_)
    · -- taken
      obtain ⟨j, hj, ej, -⟩ := lastB_ex (by assumption)
      rw [ej]
      refine r_aload_n X 1 d_Mo_first_19 rfl rfl ?_
      refine r_iload_n X 0 d_Mo_first_20 rfl rfl ?_
      refine r_callV X (m_Mo_off l o mi ml j (by omega)) ok_Mo_off w_Mo_82 rfl b_95 e_95 rfl ⟨Nat.le_of_ble_eq_true rfl, Nat.le_of_ble_eq_true rfl⟩ (rest := []) rfl (Nat.le_of_ble_eq_true rfl) d_Mo_first_21 ?_
      refine kD (st' := [.int (nI (ds (oM ml j) (ml 96 0)))]) rfl ?_
      refine r_end_i X d_Mo_first_24 ?_
      refine ⟨?_, rfl, rfl⟩; first | (simp_all; done) | (rw [ej, nI_clamp (by omega)]; simp_all)
    · -- not taken
      refine r_iload_n X 0 d_Mo_first_15 rfl rfl ?_
      refine r_goto X (tgt := 24) d_Mo_first_16 (by decide) ?_
      refine r_end_i X d_Mo_first_24 ?_
      refine ⟨?_, rfl, rfl⟩; first | (simp_all; done) | (rw [ej, nI_clamp (by omega)]; simp_all)
