set_option maxHeartbeats 4000000 in
set_option maxRecDepth 100000 in
theorem m_Mo_marks (l : Launch) (o : OM) (mi : MI) (ml : ML) (n : Nat) (hn : ml 96 2 = lN n) (hn40 : n ≤ 40) : ConD l y_Mo_marks c_Mo_marks 1 (some .int) 0 0 o [.ref (ads o (95))] mi ml (some (.int (nI (n)))) mi ml := by
  refine Con.mk (by decide) (Nat.le_of_ble_eq_true rfl) (fun γ X => ?_)
  show V γ o 1 mi ml 0 [(0, .ref (ads o (95)))] []
  refine r_aload_n X 0 d_Mo_marks_0 rfl rfl ?_
  refine r_get X f_Mo_7 b_95 e_95 (v := .ref (ads o (96))) rfl d_Mo_marks_1 ?_
  refine r_iconst X (v := nI (2)) d_Mo_marks_4 (by decide) ?_
  refine r_lald X (v := lN (n)) b_96 e_96 (Nat.le_of_ble_eq_true rfl) (by omega) (hn) d_Mo_marks_5 ?_
  refine r_l2i X (v := nI (n)) d_Mo_marks_6 (lN_i _) ?_
  refine r_end_i X d_Mo_marks_7 ?_
  first | exact ⟨rfl, rfl, rfl⟩ | (refine ⟨?_, rfl, rfl⟩; simp_all)

set_option maxHeartbeats 4000000 in
set_option maxRecDepth 100000 in
theorem m_Mo_own (l : Launch) (o : OM) (mi : MI) (ml : ML) (k : Nat) (hk : k < 40) : ConD l y_Mo_own c_Mo_own 2 (some .long) 0 0 o [.ref (ads o (95)), .int (nI (k))] mi ml (some (.long (oM ml k))) mi ml := by
  refine Con.mk (by decide) (Nat.le_of_ble_eq_true rfl) (fun γ X => ?_)
  show V γ o 2 mi ml 0 [(0, .ref (ads o (95))), (1, .int (nI (k)))] []
  refine r_aload_n X 0 d_Mo_own_0 rfl rfl ?_
  refine r_get X f_Mo_7 b_95 e_95 (v := .ref (ads o (96))) rfl d_Mo_own_1 ?_
  refine r_iconst X (v := nI (3)) d_Mo_own_4 (by decide) ?_
  refine r_iload_n X 1 d_Mo_own_5 rfl rfl ?_
  refine r_iadd X (v := nI (3 + k)) d_Mo_own_6 (nI_add _ _) ?_
  refine r_lald X (v := ml 96 (3 + k)) b_96 e_96 (Nat.le_of_ble_eq_true rfl) (by omega) rfl d_Mo_own_7 ?_
  refine r_end_l X d_Mo_own_8 ?_
  first | exact ⟨rfl, rfl, rfl⟩ | (refine ⟨?_, rfl, rfl⟩; simp_all)

set_option maxHeartbeats 4000000 in
set_option maxRecDepth 100000 in
theorem m_Mo_isMark (l : Launch) (o : OM) (mi : MI) (ml : ML) (k : Int32) (n : Nat) (hn : ml 96 2 = lN n) (hn40 : n ≤ 40) : ConD l y_Mo_isMark c_Mo_isMark 2 (some .boolean) 1 25 o [.ref (ads o (95)), .int (k)] mi ml (some (.int (bI (isMk n k)))) mi ml := by
  refine Con.mk (by decide) (Nat.le_of_ble_eq_true rfl) (fun γ X => ?_)
  show V γ o 2 mi ml 0 [(0, .ref (ads o (95))), (1, .int (k))] []
  refine r_iload_n X 1 d_Mo_isMark_0 rfl rfl ?_
  refine r_i2l X (v := (k).toInt64) d_Mo_isMark_1 (rfl) ?_
  refine r_lconst X (v := 0) d_Mo_isMark_2 (by decide) ?_
  refine r_aload_n X 0 d_Mo_isMark_3 rfl rfl ?_
  refine r_callV X (m_Mo_marks l o mi ml n (hn) hn40) ok_Mo_marks w_Mo_59 rfl b_95 e_95 rfl ⟨Nat.le_of_ble_eq_true rfl, Nat.le_of_ble_eq_true rfl⟩ (rest := [.long (0), .long ((k).toInt64)]) rfl (Nat.le_of_ble_eq_true rfl) d_Mo_isMark_4 ?_
  refine kD (st' := [.int (nI (n)), .long (0), .long ((k).toInt64)]) rfl ?_
  refine r_iconst X (v := nI (1)) d_Mo_isMark_7 (by decide) ?_
  refine r_isub X (v := (nI (n) - nI (1))) d_Mo_isMark_8 (rfl) ?_
  refine r_i2l X (v := ((nI (n) - nI (1))).toInt64) d_Mo_isMark_9 (rfl) ?_
  refine r_callS X (m_Mo_in l o mi ml ((k).toInt64) 0 (((nI (n) - nI (1))).toInt64)) ok_Mo_in w_Mo_63 rfl ⟨Nat.le_of_ble_eq_true rfl, Nat.le_of_ble_eq_true rfl⟩ (rest := []) rfl (Nat.le_of_ble_eq_true rfl) d_Mo_isMark_10 ?_
  refine kD (st' := [.int (bI (!decide (((k).toInt64) < 0) && !decide ((((nI (n) - nI (1))).toInt64) < ((k).toInt64))))]) rfl ?_
  refine r_end_z X (bI_nar _) d_Mo_isMark_13 ?_
  exact ⟨by rw [← isMk_eq (by omega) k], rfl, rfl⟩

set_option maxHeartbeats 4000000 in
set_option maxRecDepth 100000 in
theorem m_Mo_off (l : Launch) (o : OM) (mi : MI) (ml : ML) (k : Nat) (hk : k < 40) : ConD l y_Mo_off c_Mo_off 2 (some .int) 1 23 o [.ref (ads o (95)), .int (nI (k))] mi ml (some (.int (nI (ds (oM ml k) (ml 96 0))))) mi ml := by
  refine Con.mk (by decide) (Nat.le_of_ble_eq_true rfl) (fun γ X => ?_)
  show V γ o 2 mi ml 0 [(0, .ref (ads o (95))), (1, .int (nI (k)))] []
  refine r_aload_n X 0 d_Mo_off_0 rfl rfl ?_
  refine r_iload_n X 1 d_Mo_off_1 rfl rfl ?_
  refine r_callV X (m_Mo_own l o mi ml k hk) ok_Mo_own w_Mo_67 rfl b_95 e_95 rfl ⟨Nat.le_of_ble_eq_true rfl, Nat.le_of_ble_eq_true rfl⟩ (rest := []) rfl (Nat.le_of_ble_eq_true rfl) d_Mo_off_2 ?_
  refine kD (st' := [.long (oM ml k)]) rfl ?_
  refine r_aload_n X 0 d_Mo_off_5 rfl rfl ?_
  refine r_get X f_Mo_7 b_95 e_95 (v := .ref (ads o (96))) rfl d_Mo_off_6 ?_
  refine r_iconst X (v := nI (0)) d_Mo_off_9 (by decide) ?_
  refine r_lald X (v := ml 96 0) b_96 e_96 (Nat.le_of_ble_eq_true rfl) (by omega) rfl d_Mo_off_10 ?_
  refine r_lxor X (v := (oM ml k) ^^^ (ml 96 0)) d_Mo_off_11 (rfl) ?_
  refine r_callS X (m_Mo_ones l o mi ml ((oM ml k) ^^^ (ml 96 0))) ok_Mo_ones w_Mo_71 rfl ⟨Nat.le_of_ble_eq_true rfl, Nat.le_of_ble_eq_true rfl⟩ (rest := []) rfl (Nat.le_of_ble_eq_true rfl) d_Mo_off_12 ?_
  refine kD (st' := [.int (nI (pop ((oM ml k) ^^^ (ml 96 0))))]) rfl ?_
  refine r_end_i X d_Mo_off_15 ?_
  first | exact ⟨rfl, rfl, rfl⟩ | (refine ⟨?_, rfl, rfl⟩; simp_all)

set_option maxHeartbeats 4000000 in
set_option maxRecDepth 100000 in
theorem m_Mo_parts (l : Launch) (o : OM) (mi : MI) (ml : ML)   : ConD l y_Mo_parts c_Mo_parts 1 (some .int) 1 23 o [.ref (ads o (95))] mi ml (some (.int (nI (pop (ml 96 1))))) mi ml := by
  refine Con.mk (by decide) (Nat.le_of_ble_eq_true rfl) (fun γ X => ?_)
  show V γ o 1 mi ml 0 [(0, .ref (ads o (95)))] []
  refine r_aload_n X 0 d_Mo_parts_0 rfl rfl ?_
  refine r_get X f_Mo_7 b_95 e_95 (v := .ref (ads o (96))) rfl d_Mo_parts_1 ?_
  refine r_iconst X (v := nI (1)) d_Mo_parts_4 (by decide) ?_
  refine r_lald X (v := ml 96 1) b_96 e_96 (Nat.le_of_ble_eq_true rfl) (by omega) rfl d_Mo_parts_5 ?_
  refine r_callS X (m_Mo_ones l o mi ml (ml 96 1)) ok_Mo_ones w_Mo_71 rfl ⟨Nat.le_of_ble_eq_true rfl, Nat.le_of_ble_eq_true rfl⟩ (rest := []) rfl (Nat.le_of_ble_eq_true rfl) d_Mo_parts_6 ?_
  refine kD (st' := [.int (nI (pop (ml 96 1)))]) rfl ?_
  refine r_end_i X d_Mo_parts_9 ?_
  first | exact ⟨rfl, rfl, rfl⟩ | (refine ⟨?_, rfl, rfl⟩; simp_all)

set_option maxHeartbeats 4000000 in
set_option maxRecDepth 100000 in
theorem m_Mo_isLooked (l : Launch) (o : OM) (mi : MI) (ml : ML) (x : Int64) (y : Int64) (z : Int64)  : ConD l y_Mo_isLooked c_Mo_isLooked 11 (some .boolean) 1 22 o [.long (x), .long (y), .long (z)] mi ml (some (.int (bI (lk x y z)))) mi ml := by
  refine Con.mk (by decide) (Nat.le_of_ble_eq_true rfl) (fun γ X => ?_)
  show V γ o 11 mi ml 0 [(0, .long (x)), (2, .long (y)), (4, .long (z))] []
  refine r_lload_n X 0 d_Mo_isLooked_0 rfl rfl ?_
  refine r_lload_n X 1 d_Mo_isLooked_1 rfl rfl ?_
  refine r_lxor X (v := (x) ^^^ (y)) d_Mo_isLooked_2 (rfl) ?_
  refine r_lstore X [(6, .long ((x) ^^^ (y))), (0, .long (x)), (2, .long (y)), (4, .long (z))] d_Mo_isLooked_3 (Nat.le_of_ble_eq_true rfl) rfl ?_
  refine r_iconst X (v := nI (0)) d_Mo_isLooked_5 (by decide) ?_
  refine r_istore X [(8, .int (nI (0))), (6, .long ((x) ^^^ (y))), (0, .long (x)), (2, .long (y)), (4, .long (z))] d_Mo_isLooked_6 (Nat.le_of_ble_eq_true rfl) rfl ?_
  refine r_iconst X (v := nI (0)) d_Mo_isLooked_8 (by decide) ?_
  refine r_istore X [(9, .int (nI (0))), (8, .int (nI (0))), (6, .long ((x) ^^^ (y))), (0, .long (x)), (2, .long (y)), (4, .long (z))] d_Mo_isLooked_9 (Nat.le_of_ble_eq_true rfl) rfl ?_
  refine r_iconst X (v := nI (0)) d_Mo_isLooked_11 (by decide) ?_
  refine r_istore X [(10, .int (nI (0))), (9, .int (nI (0))), (8, .int (nI (0))), (6, .long ((x) ^^^ (y))), (0, .long (x)), (2, .long (y)), (4, .long (z))] d_Mo_isLooked_12 (Nat.le_of_ble_eq_true rfl) rfl ?_
  have L14_1 : ∀ (d_i i : Nat), i + d_i = 64 → V γ o 11 mi ml 14 [(0, .long (x)), (2, .long (y)), (4, .long (z)), (6, .long ((x) ^^^ (y))), (8, .int (bI ((lkS (x ^^^ y) z (i)).1))), (9, .int (bI ((lkS (x ^^^ y) z (i)).2))), (10, .int (nI (i)))] [] := by
    intro d_i
    induction d_i with
    | zero =>
      intro i hi_L14_1 
      have he_L14_1 : 64 = i := by omega
      subst he_L14_1
      refine r_iload X 6 d_Mo_isLooked_14 rfl ?_
      refine r_bipush X (v := nI (64)) d_Mo_isLooked_16 (by decide) ?_
      refine r_icge X (tgt := 91) (c := 64 ≤ 64) d_Mo_isLooked_18 (by decide) (nI_leI (Nat.le_of_ble_eq_true rfl) (by omega)) (fun c_18 => ?_) (fun c_18 => ?_)
      · -- taken
        refine r_iload X 4 d_Mo_isLooked_91 rfl ?_
        have hJ_2 : V γ o 11 mi ml 106 [(0, .long (x)), (2, .long (y)), (4, .long (z)), (6, .long ((x) ^^^ (y))), (8, .int (bI ((lkS (x ^^^ y) z (64)).1))), (9, .int (bI ((lkS (x ^^^ y) z (64)).2))), (10, .int (nI (64)))] [.int (bI ((((lkS (x ^^^ y) z (64)).1) || ((lkS (x ^^^ y) z (64)).2))))] := by
          refine r_end_z X (bI_nar _) d_Mo_isLooked_106 ?_
          first | exact ⟨rfl, rfl, rfl⟩ | (refine ⟨?_, rfl, rfl⟩; simp_all)
        refine r_ifneB X (tgt := 101) (b := (lkS (x ^^^ y) z (64)).1) d_Mo_isLooked_93 (by decide) (fun c_93 => ?_) (fun c_93 => ?_)
        · -- taken
          refine r_iconst X (v := nI (1)) d_Mo_isLooked_101 (by decide) ?_
          refine r_goto X (tgt := 106) d_Mo_isLooked_102 (by decide) ?_
          exact V.eq hJ_2 rfl rfl rfl (by rw [show ((((lkS (x ^^^ y) z (64)).1) || ((lkS (x ^^^ y) z (64)).2))) = true from by first | (simp only [c_93, decide_true, decide_false, Bool.not_true, Bool.not_false, Bool.true_and, Bool.false_and, Bool.and_true, Bool.and_false, Bool.true_or, Bool.false_or, Bool.or_true, Bool.or_false, if_true, if_false, ite_true, ite_false, cond_true, cond_false, Bool.false_eq_true, reduceIte]; done) | (simp [c_93]; done) | (simp_all; done)]; rfl)
        · -- not taken
          refine r_iload X 5 d_Mo_isLooked_96 rfl ?_
          refine r_ifeqB X (tgt := 105) (b := (lkS (x ^^^ y) z (64)).2) d_Mo_isLooked_98 (by decide) (fun c_98 => ?_) (fun c_98 => ?_)
          · -- taken
            refine r_iconst X (v := nI (0)) d_Mo_isLooked_105 (by decide) ?_
            exact V.eq hJ_2 rfl rfl rfl (by rw [show ((((lkS (x ^^^ y) z (64)).1) || ((lkS (x ^^^ y) z (64)).2))) = false from by first | (simp only [c_93, c_98, decide_true, decide_false, Bool.not_true, Bool.not_false, Bool.true_and, Bool.false_and, Bool.and_true, Bool.and_false, Bool.true_or, Bool.false_or, Bool.or_true, Bool.or_false, if_true, if_false, ite_true, ite_false, cond_true, cond_false, Bool.false_eq_true, reduceIte]; done) | (simp [c_93, c_98]; done) | (simp_all; done)]; rfl)
          · -- not taken
            refine r_iconst X (v := nI (1)) d_Mo_isLooked_101 (by decide) ?_
            refine r_goto X (tgt := 106) d_Mo_isLooked_102 (by decide) ?_
            exact V.eq hJ_2 rfl rfl rfl (by rw [show ((((lkS (x ^^^ y) z (64)).1) || ((lkS (x ^^^ y) z (64)).2))) = true from by first | (simp only [c_93, c_98, decide_true, decide_false, Bool.not_true, Bool.not_false, Bool.true_and, Bool.false_and, Bool.and_true, Bool.and_false, Bool.true_or, Bool.false_or, Bool.or_true, Bool.or_false, if_true, if_false, ite_true, ite_false, cond_true, cond_false, Bool.false_eq_true, reduceIte]; done) | (simp [c_93, c_98]; done) | (simp_all; done)]; rfl)
      · -- not taken
        exact False.elim (by omega)
    | succ d_i ih_L14_1 =>
      intro i hi_L14_1 
      have hlt_L14_1 : i < 64 := by omega
      refine r_iload X 6 d_Mo_isLooked_14 rfl ?_
      refine r_bipush X (v := nI (64)) d_Mo_isLooked_16 (by decide) ?_
      refine r_icge X (tgt := 91) (c := 64 ≤ i) d_Mo_isLooked_18 (by decide) (nI_leI (Nat.le_of_ble_eq_true rfl) (by omega)) (fun c_18_3 => ?_) (fun c_18_3 => ?_)
      · -- taken
        exact False.elim (by omega)
      · -- not taken
        refine r_iload X 4 d_Mo_isLooked_21 rfl ?_
        have hJ_4 : V γ o 11 mi ml 51 [(0, .long (x)), (2, .long (y)), (4, .long (z)), (6, .long ((x) ^^^ (y))), (8, .int (bI ((lkS (x ^^^ y) z (i)).1))), (9, .int (bI ((lkS (x ^^^ y) z (i)).2))), (10, .int (nI (i)))] [.int (bI ((((lkS (x ^^^ y) z (i)).1) || (!decide (i ≤ 0) && ((bt z i) && ((lkS (x ^^^ y) z (i)).2))))))] := by
          refine r_istore X [(8, .int (bI ((((lkS (x ^^^ y) z (i)).1) || (!decide (i ≤ 0) && ((bt z i) && ((lkS (x ^^^ y) z (i)).2))))))), (0, .long (x)), (2, .long (y)), (4, .long (z)), (6, .long ((x) ^^^ (y))), (9, .int (bI ((lkS (x ^^^ y) z (i)).2))), (10, .int (nI (i)))] d_Mo_isLooked_51 (Nat.le_of_ble_eq_true rfl) rfl ?_
          refine r_lload X 3 d_Mo_isLooked_53 rfl ?_
          refine r_iload X 6 d_Mo_isLooked_55 rfl ?_
          refine r_callS X (m_Mo_has l o mi ml z i (by omega)) ok_Mo_has w_Mo_75 rfl ⟨Nat.le_of_ble_eq_true rfl, Nat.le_of_ble_eq_true rfl⟩ (rest := []) rfl (Nat.le_of_ble_eq_true rfl) d_Mo_isLooked_57 ?_
          refine kD (st' := [.int (bI (bt z i))]) rfl ?_
          have hJ_5 : V γ o 11 mi ml 83 [(8, .int (bI ((((lkS (x ^^^ y) z (i)).1) || (!decide (i ≤ 0) && ((bt z i) && ((lkS (x ^^^ y) z (i)).2))))))), (0, .long (x)), (2, .long (y)), (4, .long (z)), (6, .long ((x) ^^^ (y))), (9, .int (bI ((lkS (x ^^^ y) z (i)).2))), (10, .int (nI (i)))] [.int (bI ((bif (bt z i) then !(bt ((x) ^^^ (y)) i) else (((lkS (x ^^^ y) z (i)).2) && !(bt ((x) ^^^ (y)) i)))))] := by
            refine r_istore X [(9, .int (bI ((bif (bt z i) then !(bt ((x) ^^^ (y)) i) else (((lkS (x ^^^ y) z (i)).2) && !(bt ((x) ^^^ (y)) i)))))), (8, .int (bI ((((lkS (x ^^^ y) z (i)).1) || (!decide (i ≤ 0) && ((bt z i) && ((lkS (x ^^^ y) z (i)).2))))))), (0, .long (x)), (2, .long (y)), (4, .long (z)), (6, .long ((x) ^^^ (y))), (10, .int (nI (i)))] d_Mo_isLooked_83 (Nat.le_of_ble_eq_true rfl) rfl ?_
            refine r_iinc X 6 (v := nI (i + 1)) [(10, .int (nI (i + 1))), (9, .int (bI ((bif (bt z i) then !(bt ((x) ^^^ (y)) i) else (((lkS (x ^^^ y) z (i)).2) && !(bt ((x) ^^^ (y)) i)))))), (8, .int (bI ((((lkS (x ^^^ y) z (i)).1) || (!decide (i ≤ 0) && ((bt z i) && ((lkS (x ^^^ y) z (i)).2))))))), (0, .long (x)), (2, .long (y)), (4, .long (z)), (6, .long ((x) ^^^ (y)))] d_Mo_isLooked_85 rfl (nI_add _ 1) (Nat.le_of_ble_eq_true rfl) rfl ?_
            refine r_goto X (tgt := 14) d_Mo_isLooked_88 (by decide) ?_
            refine V.wk [3, 4, 5, 6, 2, 1, 0] (V.eq (ih_L14_1 (i + 1) (by omega) ) ?_ ?_ ?_ rfl) (rfl : lv_pick _ [3, 4, 5, 6, 2, 1, 0] = [(0, .long (x)), (2, .long (y)), (4, .long (z)), (6, .long ((x) ^^^ (y))), (8, .int (bI ((((lkS (x ^^^ y) z (i)).1) || (!decide (i ≤ 0) && ((bt z i) && ((lkS (x ^^^ y) z (i)).2))))))), (9, .int (bI ((bif (bt z i) then !(bt ((x) ^^^ (y)) i) else (((lkS (x ^^^ y) z (i)).2) && !(bt ((x) ^^^ (y)) i)))))), (10, .int (nI (i + 1)))])
            · rfl
            · rfl
            · simp only [lkS]; cases hz1 : bt z i <;> cases hz2 : (lkS (x ^^^ y) z i).2 <;> cases hz3 : (lkS (x ^^^ y) z i).1 <;> cases hz4 : bt (x ^^^ y) i <;> by_cases hz5 : i = 0 <;> simp [hz5, Nat.pos_iff_ne_zero]
          refine r_ifneB X (tgt := 68) (b := bt z i) d_Mo_isLooked_60 (by decide) (fun c_60 => ?_) (fun c_60 => ?_)
          · -- taken
            refine r_lload X 4 d_Mo_isLooked_68 rfl ?_
            refine r_iload X 6 d_Mo_isLooked_70 rfl ?_
            refine r_callS X (m_Mo_has l o mi ml ((x) ^^^ (y)) i (by omega)) ok_Mo_has w_Mo_75 rfl ⟨Nat.le_of_ble_eq_true rfl, Nat.le_of_ble_eq_true rfl⟩ (rest := []) rfl (Nat.le_of_ble_eq_true rfl) d_Mo_isLooked_72 ?_
            refine kD (st' := [.int (bI (bt ((x) ^^^ (y)) i))]) rfl ?_
            refine r_ifneB X (tgt := 82) (b := bt ((x) ^^^ (y)) i) d_Mo_isLooked_75 (by decide) (fun c_75 => ?_) (fun c_75 => ?_)
            · -- taken
              refine r_iconst X (v := nI (0)) d_Mo_isLooked_82 (by decide) ?_
              exact V.eq hJ_5 rfl rfl rfl (by rw [show ((bif (bt z i) then !(bt ((x) ^^^ (y)) i) else (((lkS (x ^^^ y) z (i)).2) && !(bt ((x) ^^^ (y)) i)))) = false from by first | (simp only [c_60, c_75, decide_true, decide_false, Bool.not_true, Bool.not_false, Bool.true_and, Bool.false_and, Bool.and_true, Bool.and_false, Bool.true_or, Bool.false_or, Bool.or_true, Bool.or_false, if_true, if_false, ite_true, ite_false, cond_true, cond_false, Bool.false_eq_true, reduceIte]; done) | (simp [c_60, c_75]; done) | (simp_all; done)]; rfl)
            · -- not taken
              refine r_iconst X (v := nI (1)) d_Mo_isLooked_78 (by decide) ?_
              refine r_goto X (tgt := 83) d_Mo_isLooked_79 (by decide) ?_
              exact V.eq hJ_5 rfl rfl rfl (by rw [show ((bif (bt z i) then !(bt ((x) ^^^ (y)) i) else (((lkS (x ^^^ y) z (i)).2) && !(bt ((x) ^^^ (y)) i)))) = true from by first | (simp only [c_60, c_75, decide_true, decide_false, Bool.not_true, Bool.not_false, Bool.true_and, Bool.false_and, Bool.and_true, Bool.and_false, Bool.true_or, Bool.false_or, Bool.or_true, Bool.or_false, if_true, if_false, ite_true, ite_false, cond_true, cond_false, Bool.false_eq_true, reduceIte]; done) | (simp [c_60, c_75]; done) | (simp_all; done)]; rfl)
          · -- not taken
            refine r_iload X 5 d_Mo_isLooked_63 rfl ?_
            refine r_ifeqB X (tgt := 82) (b := (lkS (x ^^^ y) z (i)).2) d_Mo_isLooked_65 (by decide) (fun c_65 => ?_) (fun c_65 => ?_)
            · -- taken
              refine r_iconst X (v := nI (0)) d_Mo_isLooked_82 (by decide) ?_
              exact V.eq hJ_5 rfl rfl rfl (by rw [show ((bif (bt z i) then !(bt ((x) ^^^ (y)) i) else (((lkS (x ^^^ y) z (i)).2) && !(bt ((x) ^^^ (y)) i)))) = false from by first | (simp only [c_60, c_65, decide_true, decide_false, Bool.not_true, Bool.not_false, Bool.true_and, Bool.false_and, Bool.and_true, Bool.and_false, Bool.true_or, Bool.false_or, Bool.or_true, Bool.or_false, if_true, if_false, ite_true, ite_false, cond_true, cond_false, Bool.false_eq_true, reduceIte]; done) | (simp [c_60, c_65]; done) | (simp_all; done)]; rfl)
            · -- not taken
              refine r_lload X 4 d_Mo_isLooked_68 rfl ?_
              refine r_iload X 6 d_Mo_isLooked_70 rfl ?_
              refine r_callS X (m_Mo_has l o mi ml ((x) ^^^ (y)) i (by omega)) ok_Mo_has w_Mo_75 rfl ⟨Nat.le_of_ble_eq_true rfl, Nat.le_of_ble_eq_true rfl⟩ (rest := []) rfl (Nat.le_of_ble_eq_true rfl) d_Mo_isLooked_72 ?_
              refine kD (st' := [.int (bI (bt ((x) ^^^ (y)) i))]) rfl ?_
              refine r_ifneB X (tgt := 82) (b := bt ((x) ^^^ (y)) i) d_Mo_isLooked_75 (by decide) (fun c_75_6 => ?_) (fun c_75_6 => ?_)
              · -- taken
                refine r_iconst X (v := nI (0)) d_Mo_isLooked_82 (by decide) ?_
                exact V.eq hJ_5 rfl rfl rfl (by rw [show ((bif (bt z i) then !(bt ((x) ^^^ (y)) i) else (((lkS (x ^^^ y) z (i)).2) && !(bt ((x) ^^^ (y)) i)))) = false from by first | (simp only [c_60, c_65, c_75_6, decide_true, decide_false, Bool.not_true, Bool.not_false, Bool.true_and, Bool.false_and, Bool.and_true, Bool.and_false, Bool.true_or, Bool.false_or, Bool.or_true, Bool.or_false, if_true, if_false, ite_true, ite_false, cond_true, cond_false, Bool.false_eq_true, reduceIte]; done) | (simp [c_60, c_65, c_75_6]; done) | (simp_all; done)]; rfl)
              · -- not taken
                refine r_iconst X (v := nI (1)) d_Mo_isLooked_78 (by decide) ?_
                refine r_goto X (tgt := 83) d_Mo_isLooked_79 (by decide) ?_
                exact V.eq hJ_5 rfl rfl rfl (by rw [show ((bif (bt z i) then !(bt ((x) ^^^ (y)) i) else (((lkS (x ^^^ y) z (i)).2) && !(bt ((x) ^^^ (y)) i)))) = true from by first | (simp only [c_60, c_65, c_75_6, decide_true, decide_false, Bool.not_true, Bool.not_false, Bool.true_and, Bool.false_and, Bool.and_true, Bool.and_false, Bool.true_or, Bool.false_or, Bool.or_true, Bool.or_false, if_true, if_false, ite_true, ite_false, cond_true, cond_false, Bool.false_eq_true, reduceIte]; done) | (simp [c_60, c_65, c_75_6]; done) | (simp_all; done)]; rfl)
        refine r_ifneB X (tgt := 46) (b := (lkS (x ^^^ y) z (i)).1) d_Mo_isLooked_23 (by decide) (fun c_23 => ?_) (fun c_23 => ?_)
        · -- taken
          refine r_iconst X (v := nI (1)) d_Mo_isLooked_46 (by decide) ?_
          refine r_goto X (tgt := 51) d_Mo_isLooked_47 (by decide) ?_
          exact V.eq hJ_4 rfl rfl rfl (by rw [show ((((lkS (x ^^^ y) z (i)).1) || (!decide (i ≤ 0) && ((bt z i) && ((lkS (x ^^^ y) z (i)).2))))) = true from by first | (simp only [c_23, decide_true, decide_false, Bool.not_true, Bool.not_false, Bool.true_and, Bool.false_and, Bool.and_true, Bool.and_false, Bool.true_or, Bool.false_or, Bool.or_true, Bool.or_false, if_true, if_false, ite_true, ite_false, cond_true, cond_false, Bool.false_eq_true, reduceIte]; done) | (simp [c_23]; done) | (simp_all; done)]; rfl)
        · -- not taken
          refine r_iload X 6 d_Mo_isLooked_26 rfl ?_
          refine r_ifle X (tgt := 50) (c := i ≤ 0) d_Mo_isLooked_28 (by decide) ((by rw [← nI_0] <;> exact nI_leI (by omega) (Nat.le_of_ble_eq_true rfl))) (fun c_28 => ?_) (fun c_28 => ?_)
          · -- taken
            refine r_iconst X (v := nI (0)) d_Mo_isLooked_50 (by decide) ?_
            exact V.eq hJ_4 rfl rfl rfl (by rw [show ((((lkS (x ^^^ y) z (i)).1) || (!decide (i ≤ 0) && ((bt z i) && ((lkS (x ^^^ y) z (i)).2))))) = false from by first | (simp only [c_23, eq_true c_28, decide_true, decide_false, Bool.not_true, Bool.not_false, Bool.true_and, Bool.false_and, Bool.and_true, Bool.and_false, Bool.true_or, Bool.false_or, Bool.or_true, Bool.or_false, if_true, if_false, ite_true, ite_false, cond_true, cond_false, Bool.false_eq_true, reduceIte]; done) | (simp [c_23, c_28]; done) | (simp_all; done)]; rfl)
          · -- not taken
            refine r_lload X 2 d_Mo_isLooked_31 rfl ?_
            refine r_iload X 6 d_Mo_isLooked_33 rfl ?_
            refine r_callS X (m_Mo_has l o mi ml z i (by omega)) ok_Mo_has w_Mo_75 rfl ⟨Nat.le_of_ble_eq_true rfl, Nat.le_of_ble_eq_true rfl⟩ (rest := []) rfl (Nat.le_of_ble_eq_true rfl) d_Mo_isLooked_35 ?_
            refine kD (st' := [.int (bI (bt z i))]) rfl ?_
            refine r_ifeqB X (tgt := 50) (b := bt z i) d_Mo_isLooked_38 (by decide) (fun c_38 => ?_) (fun c_38 => ?_)
            · -- taken
              refine r_iconst X (v := nI (0)) d_Mo_isLooked_50 (by decide) ?_
              exact V.eq hJ_4 rfl rfl rfl (by rw [show ((((lkS (x ^^^ y) z (i)).1) || (!decide (i ≤ 0) && ((bt z i) && ((lkS (x ^^^ y) z (i)).2))))) = false from by first | (simp only [c_23, eq_false c_28, c_38, decide_true, decide_false, Bool.not_true, Bool.not_false, Bool.true_and, Bool.false_and, Bool.and_true, Bool.and_false, Bool.true_or, Bool.false_or, Bool.or_true, Bool.or_false, if_true, if_false, ite_true, ite_false, cond_true, cond_false, Bool.false_eq_true, reduceIte]; done) | (simp [c_23, c_28, c_38]; done) | (simp_all; done)]; rfl)
            · -- not taken
              refine r_iload X 5 d_Mo_isLooked_41 rfl ?_
              refine r_ifeqB X (tgt := 50) (b := (lkS (x ^^^ y) z (i)).2) d_Mo_isLooked_43 (by decide) (fun c_43 => ?_) (fun c_43 => ?_)
              · -- taken
                refine r_iconst X (v := nI (0)) d_Mo_isLooked_50 (by decide) ?_
                exact V.eq hJ_4 rfl rfl rfl (by rw [show ((((lkS (x ^^^ y) z (i)).1) || (!decide (i ≤ 0) && ((bt z i) && ((lkS (x ^^^ y) z (i)).2))))) = false from by first | (simp only [c_23, eq_false c_28, c_38, c_43, decide_true, decide_false, Bool.not_true, Bool.not_false, Bool.true_and, Bool.false_and, Bool.and_true, Bool.and_false, Bool.true_or, Bool.false_or, Bool.or_true, Bool.or_false, if_true, if_false, ite_true, ite_false, cond_true, cond_false, Bool.false_eq_true, reduceIte]; done) | (simp [c_23, c_28, c_38, c_43]; done) | (simp_all; done)]; rfl)
              · -- not taken
                refine r_iconst X (v := nI (1)) d_Mo_isLooked_46 (by decide) ?_
                refine r_goto X (tgt := 51) d_Mo_isLooked_47 (by decide) ?_
                exact V.eq hJ_4 rfl rfl rfl (by rw [show ((((lkS (x ^^^ y) z (i)).1) || (!decide (i ≤ 0) && ((bt z i) && ((lkS (x ^^^ y) z (i)).2))))) = true from by first | (simp only [c_23, eq_false c_28, c_38, c_43, decide_true, decide_false, Bool.not_true, Bool.not_false, Bool.true_and, Bool.false_and, Bool.and_true, Bool.and_false, Bool.true_or, Bool.false_or, Bool.or_true, Bool.or_false, if_true, if_false, ite_true, ite_false, cond_true, cond_false, Bool.false_eq_true, reduceIte]; done) | (simp [c_23, c_28, c_38, c_43]; done) | (simp_all; done)]; rfl)
  refine V.wk [4, 5, 6, 3, 2, 1, 0] (V.eq (L14_1 (64 - 0) 0 (by omega) ) ?_ ?_ ?_ rfl) (rfl : lv_pick _ [4, 5, 6, 3, 2, 1, 0] = [(0, .long (x)), (2, .long (y)), (4, .long (z)), (6, .long ((x) ^^^ (y))), (8, .int (nI (0))), (9, .int (nI (0))), (10, .int (nI (0)))])
  · rfl
  · rfl
  · rfl

set_option maxHeartbeats 4000000 in
set_option maxRecDepth 100000 in
theorem m_Mo_like (l : Launch) (o : OM) (mi : MI) (ml : ML) (x : Int64) (n : Nat) (hn : ml 96 2 = lN n) (hn40 : n ≤ 40) : ConD l y_Mo_like c_Mo_like 5 (some .int) 1 21 o [.ref (ads o (95)), .long (x)] mi ml (some (.int ((lastB (fun k => decide (oM ml k = x)) n)))) mi ml := by
  refine Con.mk (by decide) (Nat.le_of_ble_eq_true rfl) (fun γ X => ?_)
  show V γ o 5 mi ml 0 [(0, .ref (ads o (95))), (1, .long (x))] []
  refine r_iconst X (v := ((-1 : Int32))) d_Mo_like_0 (by decide) ?_
  refine r_istore_n X [(3, .int (((-1 : Int32)))), (0, .ref (ads o (95))), (1, .long (x))] d_Mo_like_1 rfl (Nat.le_of_ble_eq_true rfl) rfl ?_
  refine r_iconst X (v := nI (0)) d_Mo_like_2 (by decide) ?_
  refine r_istore X [(4, .int (nI (0))), (3, .int (((-1 : Int32)))), (0, .ref (ads o (95))), (1, .long (x))] d_Mo_like_3 (Nat.le_of_ble_eq_true rfl) rfl ?_
  have L5_1 : ∀ (d_i i : Nat), i + d_i = n → V γ o 5 mi ml 5 [(0, .ref (ads o (95))), (1, .long (x)), (3, .int ((lastB (fun k => decide (oM ml k = x)) (i)))), (4, .int (nI (i)))] [] := by
    intro d_i
    induction d_i with
    | zero =>
      intro i hi_L5_1 
      have he_L5_1 : n = i := by omega
      subst he_L5_1
      refine r_iload X 3 d_Mo_like_5 rfl ?_
      refine r_aload_n X 0 d_Mo_like_7 rfl rfl ?_
      refine r_callV X (m_Mo_marks l o mi ml n (hn) hn40) ok_Mo_marks w_Mo_59 rfl b_95 e_95 rfl ⟨Nat.le_of_ble_eq_true rfl, Nat.le_of_ble_eq_true rfl⟩ (rest := [.int (nI (n))]) rfl (Nat.le_of_ble_eq_true rfl) d_Mo_like_8 ?_
      refine kD (st' := [.int (nI (n)), .int (nI (n))]) rfl ?_
      refine r_icge X (tgt := 38) (c := n ≤ n) d_Mo_like_11 (by decide) (nI_leI (by omega) (by omega)) (fun c_11 => ?_) (fun c_11 => ?_)
      · -- taken
        refine r_iload_n X 2 d_Mo_like_38 rfl rfl ?_
        refine r_end_i X d_Mo_like_39 ?_
        first | exact ⟨rfl, rfl, rfl⟩ | (refine ⟨?_, rfl, rfl⟩; simp_all)
      · -- not taken
        exact False.elim (by omega)
    | succ d_i ih_L5_1 =>
      intro i hi_L5_1 
      have hlt_L5_1 : i < n := by omega
      refine r_iload X 3 d_Mo_like_5 rfl ?_
      refine r_aload_n X 0 d_Mo_like_7 rfl rfl ?_
      refine r_callV X (m_Mo_marks l o mi ml n (hn) hn40) ok_Mo_marks w_Mo_59 rfl b_95 e_95 rfl ⟨Nat.le_of_ble_eq_true rfl, Nat.le_of_ble_eq_true rfl⟩ (rest := [.int (nI (i))]) rfl (Nat.le_of_ble_eq_true rfl) d_Mo_like_8 ?_
      refine kD (st' := [.int (nI (n)), .int (nI (i))]) rfl ?_
      refine r_icge X (tgt := 38) (c := n ≤ i) d_Mo_like_11 (by decide) (nI_leI (by omega) (by omega)) (fun c_11_2 => ?_) (fun c_11_2 => ?_)
      · -- taken
        exact False.elim (by omega)
      · -- not taken
        refine r_aload_n X 0 d_Mo_like_14 rfl rfl ?_
        refine r_iload X 3 d_Mo_like_15 rfl ?_
        refine r_callV X (m_Mo_own l o mi ml i (by omega)) ok_Mo_own w_Mo_67 rfl b_95 e_95 rfl ⟨Nat.le_of_ble_eq_true rfl, Nat.le_of_ble_eq_true rfl⟩ (rest := []) rfl (Nat.le_of_ble_eq_true rfl) d_Mo_like_17 ?_
        refine kD (st' := [.long (oM ml i)]) rfl ?_
        refine r_lload_n X 1 d_Mo_like_20 rfl rfl ?_
        refine r_lcmp X d_Mo_like_21 ?_
        have hJ_3 : V γ o 5 mi ml 31 [(0, .ref (ads o (95))), (1, .long (x)), (3, .int ((lastB (fun k => decide (oM ml k = x)) (i)))), (4, .int (nI (i)))] [.int ((if decide ((oM ml i) = x) then nI (i) else (lastB (fun k => decide (oM ml k = x)) (i))))] := by
          refine r_istore_n X [(3, .int ((if decide ((oM ml i) = x) then nI (i) else (lastB (fun k => decide (oM ml k = x)) (i))))), (0, .ref (ads o (95))), (1, .long (x)), (4, .int (nI (i)))] d_Mo_like_31 rfl (Nat.le_of_ble_eq_true rfl) rfl ?_
          refine r_iinc X 3 (v := nI (i + 1)) [(4, .int (nI (i + 1))), (3, .int ((if decide ((oM ml i) = x) then nI (i) else (lastB (fun k => decide (oM ml k = x)) (i))))), (0, .ref (ads o (95))), (1, .long (x))] d_Mo_like_32 rfl (nI_add _ 1) (Nat.le_of_ble_eq_true rfl) rfl ?_
          refine r_goto X (tgt := 5) d_Mo_like_35 (by decide) ?_
          refine V.wk [2, 3, 1, 0] (V.eq (ih_L5_1 (i + 1) (by omega) ) ?_ ?_ ?_ rfl) (rfl : lv_pick _ [2, 3, 1, 0] = [(0, .ref (ads o (95))), (1, .long (x)), (3, .int ((if decide ((oM ml i) = x) then nI (i) else (lastB (fun k => decide (oM ml k = x)) (i))))), (4, .int (nI (i + 1)))])
          · rfl
          · rfl
          · first | rfl | (simp_all [ct, lastB, alB, fromB]; done)
        refine r_ifneP X (tgt := 30) (c := (oM ml i) = x) d_Mo_like_22 (by decide) (lg_cmp_eq _ _) (fun c_22 => ?_) (fun c_22 => ?_)
        · -- taken
          refine r_iload_n X 2 d_Mo_like_30 rfl rfl ?_
          exact V.eq hJ_3 rfl rfl rfl (by rw [show ((if decide ((oM ml i) = x) then nI (i) else (lastB (fun k => decide (oM ml k = x)) (i)))) = ((lastB (fun k => decide (oM ml k = x)) (i))) from by first | (simp only [eq_false c_22, decide_true, decide_false, Bool.not_true, Bool.not_false, Bool.true_and, Bool.false_and, Bool.and_true, Bool.and_false, Bool.true_or, Bool.false_or, Bool.or_true, Bool.or_false, if_true, if_false, ite_true, ite_false, cond_true, cond_false, Bool.false_eq_true, reduceIte]; done) | (simp [c_22]; done) | (simp_all; done)])
        · -- not taken
          refine r_iload X 3 d_Mo_like_25 rfl ?_
          refine r_goto X (tgt := 31) d_Mo_like_27 (by decide) ?_
          exact V.eq hJ_3 rfl rfl rfl (by rw [show ((if decide ((oM ml i) = x) then nI (i) else (lastB (fun k => decide (oM ml k = x)) (i)))) = (nI (i)) from by first | (simp only [eq_true c_22, decide_true, decide_false, Bool.not_true, Bool.not_false, Bool.true_and, Bool.false_and, Bool.and_true, Bool.and_false, Bool.true_or, Bool.false_or, Bool.or_true, Bool.or_false, if_true, if_false, ite_true, ite_false, cond_true, cond_false, Bool.false_eq_true, reduceIte]; done) | (simp [c_22]; done) | (simp_all; done)])
  refine V.wk [2, 3, 1, 0] (V.eq (L5_1 (n - 0) 0 (by omega) ) ?_ ?_ ?_ rfl) (rfl : lv_pick _ [2, 3, 1, 0] = [(0, .ref (ads o (95))), (1, .long (x)), (3, .int (((-1 : Int32)))), (4, .int (nI (0)))])
  · rfl
  · rfl
  · rfl

set_option maxHeartbeats 4000000 in
set_option maxRecDepth 100000 in
theorem m_Mo_looked (l : Launch) (o : OM) (mi : MI) (ml : ML) (v : Bool) (n : Nat) (hn : ml 96 2 = lN n) (hn40 : n ≤ 40) : ConD l y_Mo_looked c_Mo_looked 5 (some .int) 2 52 o [.ref (ads o (95)), .int (bI (v))] mi ml (some (.int (nI (ct (fun k => lk (oM ml k) (ml 96 0) (ml 96 1) && (!v || !decide (ds (oM ml k) (ml 96 0) < pop (ml 96 1)))) n)))) mi ml := by
  refine Con.mk (by decide) (Nat.le_of_ble_eq_true rfl) (fun γ X => ?_)
  show V γ o 5 mi ml 0 [(0, .ref (ads o (95))), (1, .int (bI (v)))] []
  refine r_iconst X (v := nI (0)) d_Mo_looked_0 (by decide) ?_
  refine r_istore_n X [(2, .int (nI (0))), (0, .ref (ads o (95))), (1, .int (bI (v)))] d_Mo_looked_1 rfl (Nat.le_of_ble_eq_true rfl) rfl ?_
  refine r_iconst X (v := nI (0)) d_Mo_looked_2 (by decide) ?_
  refine r_istore_n X [(3, .int (nI (0))), (2, .int (nI (0))), (0, .ref (ads o (95))), (1, .int (bI (v)))] d_Mo_looked_3 rfl (Nat.le_of_ble_eq_true rfl) rfl ?_
  have L4_1 : ∀ (d_i i : Nat), i + d_i = n → V γ o 5 mi ml 4 [(0, .ref (ads o (95))), (1, .int (bI (v))), (2, .int (nI (ct (fun k => lk (oM ml k) (ml 96 0) (ml 96 1) && (!v || !decide (ds (oM ml k) (ml 96 0) < pop (ml 96 1)))) (i)))), (3, .int (nI (i)))] [] := by
    intro d_i
    induction d_i with
    | zero =>
      intro i hi_L4_1 
      have he_L4_1 : n = i := by omega
      subst he_L4_1
      refine r_iload_n X 3 d_Mo_looked_4 rfl rfl ?_
      refine r_aload_n X 0 d_Mo_looked_5 rfl rfl ?_
      refine r_callV X (m_Mo_marks l o mi ml n (hn) hn40) ok_Mo_marks w_Mo_59 rfl b_95 e_95 rfl ⟨Nat.le_of_ble_eq_true rfl, Nat.le_of_ble_eq_true rfl⟩ (rest := [.int (nI (n))]) rfl (Nat.le_of_ble_eq_true rfl) d_Mo_looked_6 ?_
      refine kD (st' := [.int (nI (n)), .int (nI (n))]) rfl ?_
      refine r_icge X (tgt := 69) (c := n ≤ n) d_Mo_looked_9 (by decide) (nI_leI (by omega) (by omega)) (fun c_9 => ?_) (fun c_9 => ?_)
      · -- taken
        refine r_iload_n X 2 d_Mo_looked_69 rfl rfl ?_
        refine r_end_i X d_Mo_looked_70 ?_
        first | exact ⟨rfl, rfl, rfl⟩ | (refine ⟨?_, rfl, rfl⟩; simp_all)
      · -- not taken
        exact False.elim (by omega)
    | succ d_i ih_L4_1 =>
      intro i hi_L4_1 
      have hlt_L4_1 : i < n := by omega
      refine r_iload_n X 3 d_Mo_looked_4 rfl rfl ?_
      refine r_aload_n X 0 d_Mo_looked_5 rfl rfl ?_
      refine r_callV X (m_Mo_marks l o mi ml n (hn) hn40) ok_Mo_marks w_Mo_59 rfl b_95 e_95 rfl ⟨Nat.le_of_ble_eq_true rfl, Nat.le_of_ble_eq_true rfl⟩ (rest := [.int (nI (i))]) rfl (Nat.le_of_ble_eq_true rfl) d_Mo_looked_6 ?_
      refine kD (st' := [.int (nI (n)), .int (nI (i))]) rfl ?_
      refine r_icge X (tgt := 69) (c := n ≤ i) d_Mo_looked_9 (by decide) (nI_leI (by omega) (by omega)) (fun c_9_2 => ?_) (fun c_9_2 => ?_)
      · -- taken
        exact False.elim (by omega)
      · -- not taken
        refine r_aload_n X 0 d_Mo_looked_12 rfl rfl ?_
        refine r_iload_n X 3 d_Mo_looked_13 rfl rfl ?_
        refine r_callV X (m_Mo_own l o mi ml i (by omega)) ok_Mo_own w_Mo_67 rfl b_95 e_95 rfl ⟨Nat.le_of_ble_eq_true rfl, Nat.le_of_ble_eq_true rfl⟩ (rest := []) rfl (Nat.le_of_ble_eq_true rfl) d_Mo_looked_14 ?_
        refine kD (st' := [.long (oM ml i)]) rfl ?_
        refine r_aload_n X 0 d_Mo_looked_17 rfl rfl ?_
        refine r_get X f_Mo_7 b_95 e_95 (v := .ref (ads o (96))) rfl d_Mo_looked_18 ?_
        refine r_iconst X (v := nI (0)) d_Mo_looked_21 (by decide) ?_
        refine r_lald X (v := ml 96 0) b_96 e_96 (Nat.le_of_ble_eq_true rfl) (by omega) rfl d_Mo_looked_22 ?_
        refine r_aload_n X 0 d_Mo_looked_23 rfl rfl ?_
        refine r_get X f_Mo_7 b_95 e_95 (v := .ref (ads o (96))) rfl d_Mo_looked_24 ?_
        refine r_iconst X (v := nI (1)) d_Mo_looked_27 (by decide) ?_
        refine r_lald X (v := ml 96 1) b_96 e_96 (Nat.le_of_ble_eq_true rfl) (by omega) rfl d_Mo_looked_28 ?_
        refine r_callS X (m_Mo_isLooked l o mi ml (oM ml i) (ml 96 0) (ml 96 1)) ok_Mo_isLooked w_Mo_79 rfl ⟨Nat.le_of_ble_eq_true rfl, Nat.le_of_ble_eq_true rfl⟩ (rest := []) rfl (Nat.le_of_ble_eq_true rfl) d_Mo_looked_29 ?_
        refine kD (st' := [.int (bI (lk (oM ml i) (ml 96 0) (ml 96 1)))]) rfl ?_
        refine r_istore X [(4, .int (bI (lk (oM ml i) (ml 96 0) (ml 96 1)))), (0, .ref (ads o (95))), (1, .int (bI (v))), (2, .int (nI (ct (fun k => lk (oM ml k) (ml 96 0) (ml 96 1) && (!v || !decide (ds (oM ml k) (ml 96 0) < pop (ml 96 1)))) (i)))), (3, .int (nI (i)))] d_Mo_looked_32 (Nat.le_of_ble_eq_true rfl) rfl ?_
        refine r_iload_n X 3 d_Mo_looked_34 rfl rfl ?_
        refine r_iload X 0 d_Mo_looked_35 rfl ?_
        have hJ_3 : V γ o 5 mi ml 61 [(4, .int (bI (lk (oM ml i) (ml 96 0) (ml 96 1)))), (0, .ref (ads o (95))), (1, .int (bI (v))), (2, .int (nI (ct (fun k => lk (oM ml k) (ml 96 0) (ml 96 1) && (!v || !decide (ds (oM ml k) (ml 96 0) < pop (ml 96 1)))) (i)))), (3, .int (nI (i)))] [.int (bI (((lk (oM ml i) (ml 96 0) (ml 96 1)) && (!v || !decide ((ds (oM ml i) (ml 96 0)) < (pop (ml 96 1))))))), .int (nI (ct (fun k => lk (oM ml k) (ml 96 0) (ml 96 1) && (!v || !decide (ds (oM ml k) (ml 96 0) < pop (ml 96 1)))) (i)))] := by
          refine r_iadd X (v := nI (ct (fun k => lk (oM ml k) (ml 96 0) (ml 96 1) && (!v || !decide (ds (oM ml k) (ml 96 0) < pop (ml 96 1)))) (i) + (((lk (oM ml i) (ml 96 0) (ml 96 1)) && (!v || !decide ((ds (oM ml i) (ml 96 0)) < (pop (ml 96 1)))))).toNat)) d_Mo_looked_61 (bI_add _ _) ?_
          refine r_istore_n X [(2, .int (nI (ct (fun k => lk (oM ml k) (ml 96 0) (ml 96 1) && (!v || !decide (ds (oM ml k) (ml 96 0) < pop (ml 96 1)))) (i) + (((lk (oM ml i) (ml 96 0) (ml 96 1)) && (!v || !decide ((ds (oM ml i) (ml 96 0)) < (pop (ml 96 1)))))).toNat))), (4, .int (bI (lk (oM ml i) (ml 96 0) (ml 96 1)))), (0, .ref (ads o (95))), (1, .int (bI (v))), (3, .int (nI (i)))] d_Mo_looked_62 rfl (Nat.le_of_ble_eq_true rfl) rfl ?_
          refine r_iinc X 4 (v := nI (i + 1)) [(3, .int (nI (i + 1))), (2, .int (nI (ct (fun k => lk (oM ml k) (ml 96 0) (ml 96 1) && (!v || !decide (ds (oM ml k) (ml 96 0) < pop (ml 96 1)))) (i) + (((lk (oM ml i) (ml 96 0) (ml 96 1)) && (!v || !decide ((ds (oM ml i) (ml 96 0)) < (pop (ml 96 1)))))).toNat))), (4, .int (bI (lk (oM ml i) (ml 96 0) (ml 96 1)))), (0, .ref (ads o (95))), (1, .int (bI (v)))] d_Mo_looked_63 rfl (nI_add _ 1) (Nat.le_of_ble_eq_true rfl) rfl ?_
          refine r_goto X (tgt := 4) d_Mo_looked_66 (by decide) ?_
          refine V.wk [3, 4, 1, 0] (V.eq (ih_L4_1 (i + 1) (by omega) ) ?_ ?_ ?_ rfl) (rfl : lv_pick _ [3, 4, 1, 0] = [(0, .ref (ads o (95))), (1, .int (bI (v))), (2, .int (nI (ct (fun k => lk (oM ml k) (ml 96 0) (ml 96 1) && (!v || !decide (ds (oM ml k) (ml 96 0) < pop (ml 96 1)))) (i) + (((lk (oM ml i) (ml 96 0) (ml 96 1)) && (!v || !decide ((ds (oM ml i) (ml 96 0)) < (pop (ml 96 1)))))).toNat))), (3, .int (nI (i + 1)))])
          · rfl
          · rfl
          · first | rfl | (simp_all [ct, lastB, alB, fromB]; done)
        refine r_ifeqB X (tgt := 60) (b := lk (oM ml i) (ml 96 0) (ml 96 1)) d_Mo_looked_37 (by decide) (fun c_37 => ?_) (fun c_37 => ?_)
        · -- taken
          refine r_iconst X (v := nI (0)) d_Mo_looked_60 (by decide) ?_
          exact V.eq hJ_3 rfl rfl rfl (by rw [show (((lk (oM ml i) (ml 96 0) (ml 96 1)) && (!v || !decide ((ds (oM ml i) (ml 96 0)) < (pop (ml 96 1)))))) = false from by first | (simp only [c_37, decide_true, decide_false, Bool.not_true, Bool.not_false, Bool.true_and, Bool.false_and, Bool.and_true, Bool.and_false, Bool.true_or, Bool.false_or, Bool.or_true, Bool.or_false, if_true, if_false, ite_true, ite_false, cond_true, cond_false, Bool.false_eq_true, reduceIte]; done) | (simp [c_37]; done) | (simp_all; done)]; rfl)
        · -- not taken
          refine r_iload_n X 2 d_Mo_looked_40 rfl rfl ?_
          refine r_ifeqB X (tgt := 56) (b := v) d_Mo_looked_41 (by decide) (fun c_41 => ?_) (fun c_41 => ?_)
          · -- taken
            refine r_iconst X (v := nI (1)) d_Mo_looked_56 (by decide) ?_
            refine r_goto X (tgt := 61) d_Mo_looked_57 (by decide) ?_
            exact V.eq hJ_3 rfl rfl rfl (by rw [show (((lk (oM ml i) (ml 96 0) (ml 96 1)) && (!v || !decide ((ds (oM ml i) (ml 96 0)) < (pop (ml 96 1)))))) = true from by first | (simp only [c_37, c_41, decide_true, decide_false, Bool.not_true, Bool.not_false, Bool.true_and, Bool.false_and, Bool.and_true, Bool.and_false, Bool.true_or, Bool.false_or, Bool.or_true, Bool.or_false, if_true, if_false, ite_true, ite_false, cond_true, cond_false, Bool.false_eq_true, reduceIte]; done) | (simp [c_37, c_41]; done) | (simp_all; done)]; rfl)
          · -- not taken
            refine r_aload_n X 1 d_Mo_looked_44 rfl rfl ?_
            refine r_iload_n X 4 d_Mo_looked_45 rfl rfl ?_
            refine r_callV X (m_Mo_off l o mi ml i (by omega)) ok_Mo_off w_Mo_82 rfl b_95 e_95 rfl ⟨Nat.le_of_ble_eq_true rfl, Nat.le_of_ble_eq_true rfl⟩ (rest := [.int (nI (ct (fun k => lk (oM ml k) (ml 96 0) (ml 96 1) && (!v || !decide (ds (oM ml k) (ml 96 0) < pop (ml 96 1)))) (i)))]) rfl (Nat.le_of_ble_eq_true rfl) d_Mo_looked_46 ?_
            refine kD (st' := [.int (nI (ds (oM ml i) (ml 96 0))), .int (nI (ct (fun k => lk (oM ml k) (ml 96 0) (ml 96 1) && (!v || !decide (ds (oM ml k) (ml 96 0) < pop (ml 96 1)))) (i)))]) rfl ?_
            refine r_aload_n X 1 d_Mo_looked_49 rfl rfl ?_
            refine r_callV X (m_Mo_parts l o mi ml ) ok_Mo_parts w_Mo_86 rfl b_95 e_95 rfl ⟨Nat.le_of_ble_eq_true rfl, Nat.le_of_ble_eq_true rfl⟩ (rest := [.int (nI (ds (oM ml i) (ml 96 0))), .int (nI (ct (fun k => lk (oM ml k) (ml 96 0) (ml 96 1) && (!v || !decide (ds (oM ml k) (ml 96 0) < pop (ml 96 1)))) (i)))]) rfl (Nat.le_of_ble_eq_true rfl) d_Mo_looked_50 ?_
            refine kD (st' := [.int (nI (pop (ml 96 1))), .int (nI (ds (oM ml i) (ml 96 0))), .int (nI (ct (fun k => lk (oM ml k) (ml 96 0) (ml 96 1) && (!v || !decide (ds (oM ml k) (ml 96 0) < pop (ml 96 1)))) (i)))]) rfl ?_
            refine r_iclt X (tgt := 60) (c := (ds (oM ml i) (ml 96 0)) < (pop (ml 96 1))) d_Mo_looked_53 (by decide) (nI_ltI (ds_lt _ _) (pop_lt _)) (fun c_53 => ?_) (fun c_53 => ?_)
            · -- taken
              refine r_iconst X (v := nI (0)) d_Mo_looked_60 (by decide) ?_
              exact V.eq hJ_3 rfl rfl rfl (by rw [show (((lk (oM ml i) (ml 96 0) (ml 96 1)) && (!v || !decide ((ds (oM ml i) (ml 96 0)) < (pop (ml 96 1)))))) = false from by first | (simp only [c_37, c_41, eq_true c_53, decide_true, decide_false, Bool.not_true, Bool.not_false, Bool.true_and, Bool.false_and, Bool.and_true, Bool.and_false, Bool.true_or, Bool.false_or, Bool.or_true, Bool.or_false, if_true, if_false, ite_true, ite_false, cond_true, cond_false, Bool.false_eq_true, reduceIte]; done) | (simp [c_37, c_41, c_53]; done) | (simp_all; done)]; rfl)
            · -- not taken
              refine r_iconst X (v := nI (1)) d_Mo_looked_56 (by decide) ?_
              refine r_goto X (tgt := 61) d_Mo_looked_57 (by decide) ?_
              exact V.eq hJ_3 rfl rfl rfl (by rw [show (((lk (oM ml i) (ml 96 0) (ml 96 1)) && (!v || !decide ((ds (oM ml i) (ml 96 0)) < (pop (ml 96 1)))))) = true from by first | (simp only [c_37, c_41, eq_false c_53, decide_true, decide_false, Bool.not_true, Bool.not_false, Bool.true_and, Bool.false_and, Bool.and_true, Bool.and_false, Bool.true_or, Bool.false_or, Bool.or_true, Bool.or_false, if_true, if_false, ite_true, ite_false, cond_true, cond_false, Bool.false_eq_true, reduceIte]; done) | (simp [c_37, c_41, c_53]; done) | (simp_all; done)]; rfl)
  refine V.wk [2, 3, 1, 0] (V.eq (L4_1 (n - 0) 0 (by omega) ) ?_ ?_ ?_ rfl) (rfl : lv_pick _ [2, 3, 1, 0] = [(0, .ref (ads o (95))), (1, .int (bI (v))), (2, .int (nI (0))), (3, .int (nI (0)))])
  · rfl
  · rfl
  · rfl

set_option maxHeartbeats 4000000 in
set_option maxRecDepth 100000 in
theorem m_Mo_ahead (l : Launch) (o : OM) (mi : MI) (ml : ML) (k : Nat) (n : Nat) (hn : ml 96 2 = lN n) (hn40 : n ≤ 40) (hk : k < n) : ConD l y_Mo_ahead c_Mo_ahead 4 (some .int) 2 44 o [.ref (ads o (95)), .int (nI (k))] mi ml (some (.int (nI (ahd (fun q => ds (oM ml q) (ml 96 0)) n k)))) mi ml := by
  refine Con.mk (by decide) (Nat.le_of_ble_eq_true rfl) (fun γ X => ?_)
  show V γ o 4 mi ml 0 [(0, .ref (ads o (95))), (1, .int (nI (k)))] []
  refine r_iconst X (v := nI (0)) d_Mo_ahead_0 (by decide) ?_
  refine r_istore_n X [(2, .int (nI (0))), (0, .ref (ads o (95))), (1, .int (nI (k)))] d_Mo_ahead_1 rfl (Nat.le_of_ble_eq_true rfl) rfl ?_
  refine r_iconst X (v := nI (0)) d_Mo_ahead_2 (by decide) ?_
  refine r_istore_n X [(3, .int (nI (0))), (2, .int (nI (0))), (0, .ref (ads o (95))), (1, .int (nI (k)))] d_Mo_ahead_3 rfl (Nat.le_of_ble_eq_true rfl) rfl ?_
  have L4_1 : ∀ (d_i i : Nat), i + d_i = n → V γ o 4 mi ml 4 [(0, .ref (ads o (95))), (1, .int (nI (k))), (2, .int (nI (ct (fun j => decide (ds (oM ml j) (ml 96 0) < ds (oM ml k) (ml 96 0)) || (decide (ds (oM ml j) (ml 96 0) = ds (oM ml k) (ml 96 0)) && !decide (k ≤ j))) (i)))), (3, .int (nI (i)))] [] := by
    intro d_i
    induction d_i with
    | zero =>
      intro i hi_L4_1 
      have he_L4_1 : n = i := by omega
      subst he_L4_1
      refine r_iload_n X 3 d_Mo_ahead_4 rfl rfl ?_
      refine r_aload_n X 0 d_Mo_ahead_5 rfl rfl ?_
      refine r_callV X (m_Mo_marks l o mi ml n (hn) hn40) ok_Mo_marks w_Mo_59 rfl b_95 e_95 rfl ⟨Nat.le_of_ble_eq_true rfl, Nat.le_of_ble_eq_true rfl⟩ (rest := [.int (nI (n))]) rfl (Nat.le_of_ble_eq_true rfl) d_Mo_ahead_6 ?_
      refine kD (st' := [.int (nI (n)), .int (nI (n))]) rfl ?_
      refine r_icge X (tgt := 57) (c := n ≤ n) d_Mo_ahead_9 (by decide) (nI_leI (by omega) (by omega)) (fun c_9 => ?_) (fun c_9 => ?_)
      · -- taken
        refine r_iload_n X 2 d_Mo_ahead_57 rfl rfl ?_
        refine r_end_i X d_Mo_ahead_58 ?_
        first | exact ⟨rfl, rfl, rfl⟩ | (refine ⟨?_, rfl, rfl⟩; simp_all)
      · -- not taken
        exact False.elim (by omega)
    | succ d_i ih_L4_1 =>
      intro i hi_L4_1 
      have hlt_L4_1 : i < n := by omega
      refine r_iload_n X 3 d_Mo_ahead_4 rfl rfl ?_
      refine r_aload_n X 0 d_Mo_ahead_5 rfl rfl ?_
      refine r_callV X (m_Mo_marks l o mi ml n (hn) hn40) ok_Mo_marks w_Mo_59 rfl b_95 e_95 rfl ⟨Nat.le_of_ble_eq_true rfl, Nat.le_of_ble_eq_true rfl⟩ (rest := [.int (nI (i))]) rfl (Nat.le_of_ble_eq_true rfl) d_Mo_ahead_6 ?_
      refine kD (st' := [.int (nI (n)), .int (nI (i))]) rfl ?_
      refine r_icge X (tgt := 57) (c := n ≤ i) d_Mo_ahead_9 (by decide) (nI_leI (by omega) (by omega)) (fun c_9_2 => ?_) (fun c_9_2 => ?_)
      · -- taken
        exact False.elim (by omega)
      · -- not taken
        refine r_iload_n X 2 d_Mo_ahead_12 rfl rfl ?_
        refine r_aload_n X 0 d_Mo_ahead_13 rfl rfl ?_
        refine r_iload_n X 3 d_Mo_ahead_14 rfl rfl ?_
        refine r_callV X (m_Mo_off l o mi ml i (by omega)) ok_Mo_off w_Mo_82 rfl b_95 e_95 rfl ⟨Nat.le_of_ble_eq_true rfl, Nat.le_of_ble_eq_true rfl⟩ (rest := [.int (nI (ct (fun j => decide (ds (oM ml j) (ml 96 0) < ds (oM ml k) (ml 96 0)) || (decide (ds (oM ml j) (ml 96 0) = ds (oM ml k) (ml 96 0)) && !decide (k ≤ j))) (i)))]) rfl (Nat.le_of_ble_eq_true rfl) d_Mo_ahead_15 ?_
        refine kD (st' := [.int (nI (ds (oM ml i) (ml 96 0))), .int (nI (ct (fun j => decide (ds (oM ml j) (ml 96 0) < ds (oM ml k) (ml 96 0)) || (decide (ds (oM ml j) (ml 96 0) = ds (oM ml k) (ml 96 0)) && !decide (k ≤ j))) (i)))]) rfl ?_
        refine r_aload_n X 0 d_Mo_ahead_18 rfl rfl ?_
        refine r_iload_n X 1 d_Mo_ahead_19 rfl rfl ?_
        refine r_callV X (m_Mo_off l o mi ml k (by omega)) ok_Mo_off w_Mo_82 rfl b_95 e_95 rfl ⟨Nat.le_of_ble_eq_true rfl, Nat.le_of_ble_eq_true rfl⟩ (rest := [.int (nI (ds (oM ml i) (ml 96 0))), .int (nI (ct (fun j => decide (ds (oM ml j) (ml 96 0) < ds (oM ml k) (ml 96 0)) || (decide (ds (oM ml j) (ml 96 0) = ds (oM ml k) (ml 96 0)) && !decide (k ≤ j))) (i)))]) rfl (Nat.le_of_ble_eq_true rfl) d_Mo_ahead_20 ?_
        refine kD (st' := [.int (nI (ds (oM ml k) (ml 96 0))), .int (nI (ds (oM ml i) (ml 96 0))), .int (nI (ct (fun j => decide (ds (oM ml j) (ml 96 0) < ds (oM ml k) (ml 96 0)) || (decide (ds (oM ml j) (ml 96 0) = ds (oM ml k) (ml 96 0)) && !decide (k ≤ j))) (i)))]) rfl ?_
        have hJ_3 : V γ o 4 mi ml 49 [(0, .ref (ads o (95))), (1, .int (nI (k))), (2, .int (nI (ct (fun j => decide (ds (oM ml j) (ml 96 0) < ds (oM ml k) (ml 96 0)) || (decide (ds (oM ml j) (ml 96 0) = ds (oM ml k) (ml 96 0)) && !decide (k ≤ j))) (i)))), (3, .int (nI (i)))] [.int (bI ((decide ((ds (oM ml i) (ml 96 0)) < (ds (oM ml k) (ml 96 0))) || (decide ((ds (oM ml i) (ml 96 0)) = (ds (oM ml k) (ml 96 0))) && !decide (k ≤ i))))), .int (nI (ct (fun j => decide (ds (oM ml j) (ml 96 0) < ds (oM ml k) (ml 96 0)) || (decide (ds (oM ml j) (ml 96 0) = ds (oM ml k) (ml 96 0)) && !decide (k ≤ j))) (i)))] := by
          refine r_iadd X (v := nI (ct (fun j => decide (ds (oM ml j) (ml 96 0) < ds (oM ml k) (ml 96 0)) || (decide (ds (oM ml j) (ml 96 0) = ds (oM ml k) (ml 96 0)) && !decide (k ≤ j))) (i) + ((decide ((ds (oM ml i) (ml 96 0)) < (ds (oM ml k) (ml 96 0))) || (decide ((ds (oM ml i) (ml 96 0)) = (ds (oM ml k) (ml 96 0))) && !decide (k ≤ i)))).toNat)) d_Mo_ahead_49 (bI_add _ _) ?_
          refine r_istore_n X [(2, .int (nI (ct (fun j => decide (ds (oM ml j) (ml 96 0) < ds (oM ml k) (ml 96 0)) || (decide (ds (oM ml j) (ml 96 0) = ds (oM ml k) (ml 96 0)) && !decide (k ≤ j))) (i) + ((decide ((ds (oM ml i) (ml 96 0)) < (ds (oM ml k) (ml 96 0))) || (decide ((ds (oM ml i) (ml 96 0)) = (ds (oM ml k) (ml 96 0))) && !decide (k ≤ i)))).toNat))), (0, .ref (ads o (95))), (1, .int (nI (k))), (3, .int (nI (i)))] d_Mo_ahead_50 rfl (Nat.le_of_ble_eq_true rfl) rfl ?_
          refine r_iinc X 3 (v := nI (i + 1)) [(3, .int (nI (i + 1))), (2, .int (nI (ct (fun j => decide (ds (oM ml j) (ml 96 0) < ds (oM ml k) (ml 96 0)) || (decide (ds (oM ml j) (ml 96 0) = ds (oM ml k) (ml 96 0)) && !decide (k ≤ j))) (i) + ((decide ((ds (oM ml i) (ml 96 0)) < (ds (oM ml k) (ml 96 0))) || (decide ((ds (oM ml i) (ml 96 0)) = (ds (oM ml k) (ml 96 0))) && !decide (k ≤ i)))).toNat))), (0, .ref (ads o (95))), (1, .int (nI (k)))] d_Mo_ahead_51 rfl (nI_add _ 1) (Nat.le_of_ble_eq_true rfl) rfl ?_
          refine r_goto X (tgt := 4) d_Mo_ahead_54 (by decide) ?_
          refine V.wk [2, 3, 1, 0] (V.eq (ih_L4_1 (i + 1) (by omega) ) ?_ ?_ ?_ rfl) (rfl : lv_pick _ [2, 3, 1, 0] = [(0, .ref (ads o (95))), (1, .int (nI (k))), (2, .int (nI (ct (fun j => decide (ds (oM ml j) (ml 96 0) < ds (oM ml k) (ml 96 0)) || (decide (ds (oM ml j) (ml 96 0) = ds (oM ml k) (ml 96 0)) && !decide (k ≤ j))) (i) + ((decide ((ds (oM ml i) (ml 96 0)) < (ds (oM ml k) (ml 96 0))) || (decide ((ds (oM ml i) (ml 96 0)) = (ds (oM ml k) (ml 96 0))) && !decide (k ≤ i)))).toNat))), (3, .int (nI (i + 1)))])
          · rfl
          · rfl
          · first | rfl | (simp_all [ct, lastB, alB, fromB]; done)
        refine r_iclt X (tgt := 44) (c := (ds (oM ml i) (ml 96 0)) < (ds (oM ml k) (ml 96 0))) d_Mo_ahead_23 (by decide) (nI_ltI (ds_lt _ _) (ds_lt _ _)) (fun c_23 => ?_) (fun c_23 => ?_)
        · -- taken
          refine r_iconst X (v := nI (1)) d_Mo_ahead_44 (by decide) ?_
          refine r_goto X (tgt := 49) d_Mo_ahead_45 (by decide) ?_
          exact V.eq hJ_3 rfl rfl rfl (by rw [show ((decide ((ds (oM ml i) (ml 96 0)) < (ds (oM ml k) (ml 96 0))) || (decide ((ds (oM ml i) (ml 96 0)) = (ds (oM ml k) (ml 96 0))) && !decide (k ≤ i)))) = true from by first | (simp only [eq_true c_23, decide_true, decide_false, Bool.not_true, Bool.not_false, Bool.true_and, Bool.false_and, Bool.and_true, Bool.and_false, Bool.true_or, Bool.false_or, Bool.or_true, Bool.or_false, if_true, if_false, ite_true, ite_false, cond_true, cond_false, Bool.false_eq_true, reduceIte]; done) | (simp [c_23]; done) | (simp_all; done)]; rfl)
        · -- not taken
          refine r_aload_n X 0 d_Mo_ahead_26 rfl rfl ?_
          refine r_iload_n X 3 d_Mo_ahead_27 rfl rfl ?_
          refine r_callV X (m_Mo_off l o mi ml i (by omega)) ok_Mo_off w_Mo_82 rfl b_95 e_95 rfl ⟨Nat.le_of_ble_eq_true rfl, Nat.le_of_ble_eq_true rfl⟩ (rest := [.int (nI (ct (fun j => decide (ds (oM ml j) (ml 96 0) < ds (oM ml k) (ml 96 0)) || (decide (ds (oM ml j) (ml 96 0) = ds (oM ml k) (ml 96 0)) && !decide (k ≤ j))) (i)))]) rfl (Nat.le_of_ble_eq_true rfl) d_Mo_ahead_28 ?_
          refine kD (st' := [.int (nI (ds (oM ml i) (ml 96 0))), .int (nI (ct (fun j => decide (ds (oM ml j) (ml 96 0) < ds (oM ml k) (ml 96 0)) || (decide (ds (oM ml j) (ml 96 0) = ds (oM ml k) (ml 96 0)) && !decide (k ≤ j))) (i)))]) rfl ?_
          refine r_aload_n X 0 d_Mo_ahead_31 rfl rfl ?_
          refine r_iload_n X 1 d_Mo_ahead_32 rfl rfl ?_
          refine r_callV X (m_Mo_off l o mi ml k (by omega)) ok_Mo_off w_Mo_82 rfl b_95 e_95 rfl ⟨Nat.le_of_ble_eq_true rfl, Nat.le_of_ble_eq_true rfl⟩ (rest := [.int (nI (ds (oM ml i) (ml 96 0))), .int (nI (ct (fun j => decide (ds (oM ml j) (ml 96 0) < ds (oM ml k) (ml 96 0)) || (decide (ds (oM ml j) (ml 96 0) = ds (oM ml k) (ml 96 0)) && !decide (k ≤ j))) (i)))]) rfl (Nat.le_of_ble_eq_true rfl) d_Mo_ahead_33 ?_
          refine kD (st' := [.int (nI (ds (oM ml k) (ml 96 0))), .int (nI (ds (oM ml i) (ml 96 0))), .int (nI (ct (fun j => decide (ds (oM ml j) (ml 96 0) < ds (oM ml k) (ml 96 0)) || (decide (ds (oM ml j) (ml 96 0) = ds (oM ml k) (ml 96 0)) && !decide (k ≤ j))) (i)))]) rfl ?_
          refine r_icneP X (tgt := 48) (c := (ds (oM ml i) (ml 96 0)) = (ds (oM ml k) (ml 96 0))) d_Mo_ahead_36 (by decide) (nI_eq (ds_lt _ _) (ds_lt _ _)) (fun c_36 => ?_) (fun c_36 => ?_)
          · -- taken
            refine r_iconst X (v := nI (0)) d_Mo_ahead_48 (by decide) ?_
            exact V.eq hJ_3 rfl rfl rfl (by rw [show ((decide ((ds (oM ml i) (ml 96 0)) < (ds (oM ml k) (ml 96 0))) || (decide ((ds (oM ml i) (ml 96 0)) = (ds (oM ml k) (ml 96 0))) && !decide (k ≤ i)))) = false from by first | (simp only [eq_false c_23, eq_false c_36, decide_true, decide_false, Bool.not_true, Bool.not_false, Bool.true_and, Bool.false_and, Bool.and_true, Bool.and_false, Bool.true_or, Bool.false_or, Bool.or_true, Bool.or_false, if_true, if_false, ite_true, ite_false, cond_true, cond_false, Bool.false_eq_true, reduceIte]; done) | (simp [c_23, c_36]; done) | (simp_all; done)]; rfl)
          · -- not taken
            refine r_iload_n X 3 d_Mo_ahead_39 rfl rfl ?_
            refine r_iload_n X 1 d_Mo_ahead_40 rfl rfl ?_
            refine r_icge X (tgt := 48) (c := k ≤ i) d_Mo_ahead_41 (by decide) (nI_leI (by omega) (by omega)) (fun c_41 => ?_) (fun c_41 => ?_)
            · -- taken
              refine r_iconst X (v := nI (0)) d_Mo_ahead_48 (by decide) ?_
              exact V.eq hJ_3 rfl rfl rfl (by rw [show ((decide ((ds (oM ml i) (ml 96 0)) < (ds (oM ml k) (ml 96 0))) || (decide ((ds (oM ml i) (ml 96 0)) = (ds (oM ml k) (ml 96 0))) && !decide (k ≤ i)))) = false from by first | (simp only [eq_false c_23, eq_true c_36, eq_true c_41, decide_true, decide_false, Bool.not_true, Bool.not_false, Bool.true_and, Bool.false_and, Bool.and_true, Bool.and_false, Bool.true_or, Bool.false_or, Bool.or_true, Bool.or_false, if_true, if_false, ite_true, ite_false, cond_true, cond_false, Bool.false_eq_true, reduceIte]; done) | (simp [c_23, c_36, c_41]; done) | (simp_all; done)]; rfl)
            · -- not taken
              refine r_iconst X (v := nI (1)) d_Mo_ahead_44 (by decide) ?_
              refine r_goto X (tgt := 49) d_Mo_ahead_45 (by decide) ?_
              exact V.eq hJ_3 rfl rfl rfl (by rw [show ((decide ((ds (oM ml i) (ml 96 0)) < (ds (oM ml k) (ml 96 0))) || (decide ((ds (oM ml i) (ml 96 0)) = (ds (oM ml k) (ml 96 0))) && !decide (k ≤ i)))) = true from by first | (simp only [eq_false c_23, eq_true c_36, eq_false c_41, decide_true, decide_false, Bool.not_true, Bool.not_false, Bool.true_and, Bool.false_and, Bool.and_true, Bool.and_false, Bool.true_or, Bool.false_or, Bool.or_true, Bool.or_false, if_true, if_false, ite_true, ite_false, cond_true, cond_false, Bool.false_eq_true, reduceIte]; done) | (simp [c_23, c_36, c_41]; done) | (simp_all; done)]; rfl)
  refine V.wk [2, 3, 1, 0] (V.eq (L4_1 (n - 0) 0 (by omega) ) ?_ ?_ ?_ rfl) (rfl : lv_pick _ [2, 3, 1, 0] = [(0, .ref (ads o (95))), (1, .int (nI (k))), (2, .int (nI (0))), (3, .int (nI (0)))])
  · rfl
  · rfl
  · rfl

set_option maxHeartbeats 4000000 in
set_option maxRecDepth 100000 in
theorem m_Mo_nearestOf (l : Launch) (o : OM) (mi : MI) (ml : ML) (w : Int32) (n : Nat) (hn : ml 96 2 = lN n) (hn40 : n ≤ 40) : ConD l y_Mo_nearestOf c_Mo_nearestOf 4 (some .int) 3 67 o [.ref (ads o (95)), .int (w)] mi ml (some (.int ((lastB (fun k => decide (nI (ahd (fun q => ds (oM ml q) (ml 96 0)) n k) = w)) n)))) mi ml := by
  refine Con.mk (by decide) (Nat.le_of_ble_eq_true rfl) (fun γ X => ?_)
  show V γ o 4 mi ml 0 [(0, .ref (ads o (95))), (1, .int (w))] []
  refine r_iconst X (v := ((-1 : Int32))) d_Mo_nearestOf_0 (by decide) ?_
  refine r_istore_n X [(2, .int (((-1 : Int32)))), (0, .ref (ads o (95))), (1, .int (w))] d_Mo_nearestOf_1 rfl (Nat.le_of_ble_eq_true rfl) rfl ?_
  refine r_iconst X (v := nI (0)) d_Mo_nearestOf_2 (by decide) ?_
  refine r_istore_n X [(3, .int (nI (0))), (2, .int (((-1 : Int32)))), (0, .ref (ads o (95))), (1, .int (w))] d_Mo_nearestOf_3 rfl (Nat.le_of_ble_eq_true rfl) rfl ?_
  have L4_1 : ∀ (d_i i : Nat), i + d_i = n → V γ o 4 mi ml 4 [(0, .ref (ads o (95))), (1, .int (w)), (2, .int ((lastB (fun k => decide (nI (ahd (fun q => ds (oM ml q) (ml 96 0)) n k) = w)) (i)))), (3, .int (nI (i)))] [] := by
    intro d_i
    induction d_i with
    | zero =>
      intro i hi_L4_1 
      have he_L4_1 : n = i := by omega
      subst he_L4_1
      refine r_iload_n X 3 d_Mo_nearestOf_4 rfl rfl ?_
      refine r_aload_n X 0 d_Mo_nearestOf_5 rfl rfl ?_
      refine r_callV X (m_Mo_marks l o mi ml n (hn) hn40) ok_Mo_marks w_Mo_59 rfl b_95 e_95 rfl ⟨Nat.le_of_ble_eq_true rfl, Nat.le_of_ble_eq_true rfl⟩ (rest := [.int (nI (n))]) rfl (Nat.le_of_ble_eq_true rfl) d_Mo_nearestOf_6 ?_
      refine kD (st' := [.int (nI (n)), .int (nI (n))]) rfl ?_
      refine r_icge X (tgt := 33) (c := n ≤ n) d_Mo_nearestOf_9 (by decide) (nI_leI (by omega) (by omega)) (fun c_9 => ?_) (fun c_9 => ?_)
      · -- taken
        refine r_iload_n X 2 d_Mo_nearestOf_33 rfl rfl ?_
        refine r_end_i X d_Mo_nearestOf_34 ?_
        first | exact ⟨rfl, rfl, rfl⟩ | (refine ⟨?_, rfl, rfl⟩; simp_all)
      · -- not taken
        exact False.elim (by omega)
    | succ d_i ih_L4_1 =>
      intro i hi_L4_1 
      have hlt_L4_1 : i < n := by omega
      refine r_iload_n X 3 d_Mo_nearestOf_4 rfl rfl ?_
      refine r_aload_n X 0 d_Mo_nearestOf_5 rfl rfl ?_
      refine r_callV X (m_Mo_marks l o mi ml n (hn) hn40) ok_Mo_marks w_Mo_59 rfl b_95 e_95 rfl ⟨Nat.le_of_ble_eq_true rfl, Nat.le_of_ble_eq_true rfl⟩ (rest := [.int (nI (i))]) rfl (Nat.le_of_ble_eq_true rfl) d_Mo_nearestOf_6 ?_
      refine kD (st' := [.int (nI (n)), .int (nI (i))]) rfl ?_
      refine r_icge X (tgt := 33) (c := n ≤ i) d_Mo_nearestOf_9 (by decide) (nI_leI (by omega) (by omega)) (fun c_9_2 => ?_) (fun c_9_2 => ?_)
      · -- taken
        exact False.elim (by omega)
      · -- not taken
        refine r_aload_n X 0 d_Mo_nearestOf_12 rfl rfl ?_
        refine r_iload_n X 3 d_Mo_nearestOf_13 rfl rfl ?_
        refine r_callV X (m_Mo_ahead l o mi ml i n (hn) hn40 (by omega)) ok_Mo_ahead w_Mo_89 rfl b_95 e_95 rfl ⟨Nat.le_of_ble_eq_true rfl, Nat.le_of_ble_eq_true rfl⟩ (rest := []) rfl (Nat.le_of_ble_eq_true rfl) d_Mo_nearestOf_14 ?_
        refine kD (st' := [.int (nI (ahd (fun q => ds (oM ml q) (ml 96 0)) n i))]) rfl ?_
        refine r_iload_n X 1 d_Mo_nearestOf_17 rfl rfl ?_
        have hJ_3 : V γ o 4 mi ml 26 [(0, .ref (ads o (95))), (1, .int (w)), (2, .int ((lastB (fun k => decide (nI (ahd (fun q => ds (oM ml q) (ml 96 0)) n k) = w)) (i)))), (3, .int (nI (i)))] [.int ((if decide ((nI (ahd (fun q => ds (oM ml q) (ml 96 0)) n i)) = w) then nI (i) else (lastB (fun k => decide (nI (ahd (fun q => ds (oM ml q) (ml 96 0)) n k) = w)) (i))))] := by
          refine r_istore_n X [(2, .int ((if decide ((nI (ahd (fun q => ds (oM ml q) (ml 96 0)) n i)) = w) then nI (i) else (lastB (fun k => decide (nI (ahd (fun q => ds (oM ml q) (ml 96 0)) n k) = w)) (i))))), (0, .ref (ads o (95))), (1, .int (w)), (3, .int (nI (i)))] d_Mo_nearestOf_26 rfl (Nat.le_of_ble_eq_true rfl) rfl ?_
          refine r_iinc X 3 (v := nI (i + 1)) [(3, .int (nI (i + 1))), (2, .int ((if decide ((nI (ahd (fun q => ds (oM ml q) (ml 96 0)) n i)) = w) then nI (i) else (lastB (fun k => decide (nI (ahd (fun q => ds (oM ml q) (ml 96 0)) n k) = w)) (i))))), (0, .ref (ads o (95))), (1, .int (w))] d_Mo_nearestOf_27 rfl (nI_add _ 1) (Nat.le_of_ble_eq_true rfl) rfl ?_
          refine r_goto X (tgt := 4) d_Mo_nearestOf_30 (by decide) ?_
          refine V.wk [2, 3, 1, 0] (V.eq (ih_L4_1 (i + 1) (by omega) ) ?_ ?_ ?_ rfl) (rfl : lv_pick _ [2, 3, 1, 0] = [(0, .ref (ads o (95))), (1, .int (w)), (2, .int ((if decide ((nI (ahd (fun q => ds (oM ml q) (ml 96 0)) n i)) = w) then nI (i) else (lastB (fun k => decide (nI (ahd (fun q => ds (oM ml q) (ml 96 0)) n k) = w)) (i))))), (3, .int (nI (i + 1)))])
          · rfl
          · rfl
          · first | rfl | (simp_all [ct, lastB, alB, fromB]; done)
        refine r_icneP X (tgt := 25) (c := (nI (ahd (fun q => ds (oM ml q) (ml 96 0)) n i)) = w) d_Mo_nearestOf_18 (by decide) (Iff.rfl) (fun c_18 => ?_) (fun c_18 => ?_)
        · -- taken
          refine r_iload_n X 2 d_Mo_nearestOf_25 rfl rfl ?_
          exact V.eq hJ_3 rfl rfl rfl (by rw [show ((if decide ((nI (ahd (fun q => ds (oM ml q) (ml 96 0)) n i)) = w) then nI (i) else (lastB (fun k => decide (nI (ahd (fun q => ds (oM ml q) (ml 96 0)) n k) = w)) (i)))) = ((lastB (fun k => decide (nI (ahd (fun q => ds (oM ml q) (ml 96 0)) n k) = w)) (i))) from by first | (simp only [eq_false c_18, decide_true, decide_false, Bool.not_true, Bool.not_false, Bool.true_and, Bool.false_and, Bool.and_true, Bool.and_false, Bool.true_or, Bool.false_or, Bool.or_true, Bool.or_false, if_true, if_false, ite_true, ite_false, cond_true, cond_false, Bool.false_eq_true, reduceIte]; done) | (simp [c_18]; done) | (simp_all; done)])
        · -- not taken
          refine r_iload_n X 3 d_Mo_nearestOf_21 rfl rfl ?_
          refine r_goto X (tgt := 26) d_Mo_nearestOf_22 (by decide) ?_
          exact V.eq hJ_3 rfl rfl rfl (by rw [show ((if decide ((nI (ahd (fun q => ds (oM ml q) (ml 96 0)) n i)) = w) then nI (i) else (lastB (fun k => decide (nI (ahd (fun q => ds (oM ml q) (ml 96 0)) n k) = w)) (i)))) = (nI (i)) from by first | (simp only [eq_true c_18, decide_true, decide_false, Bool.not_true, Bool.not_false, Bool.true_and, Bool.false_and, Bool.and_true, Bool.and_false, Bool.true_or, Bool.false_or, Bool.or_true, Bool.or_false, if_true, if_false, ite_true, ite_false, cond_true, cond_false, Bool.false_eq_true, reduceIte]; done) | (simp [c_18]; done) | (simp_all; done)])
  refine V.wk [2, 3, 1, 0] (V.eq (L4_1 (n - 0) 0 (by omega) ) ?_ ?_ ?_ rfl) (rfl : lv_pick _ [2, 3, 1, 0] = [(0, .ref (ads o (95))), (1, .int (w)), (2, .int (((-1 : Int32)))), (3, .int (nI (0)))])
  · rfl
  · rfl
  · rfl

set_option maxHeartbeats 4000000 in
set_option maxRecDepth 100000 in
theorem m_Mo_isDead (l : Launch) (o : OM) (mi : MI) (ml : ML) (b : Nat) (n : Nat) (hn : ml 96 2 = lN n) (hn40 : n ≤ 40) (hb : b < 64) : ConD l y_Mo_isDead c_Mo_isDead 4 (some .boolean) 1 22 o [.ref (ads o (95)), .int (nI (b))] mi ml (some (.int (bI (deadM (oM ml) n b)))) mi ml := by
  refine Con.mk (by decide) (Nat.le_of_ble_eq_true rfl) (fun γ X => ?_)
  show V γ o 4 mi ml 0 [(0, .ref (ads o (95))), (1, .int (nI (b)))] []
  refine r_iconst X (v := nI (1)) d_Mo_isDead_0 (by decide) ?_
  refine r_istore_n X [(2, .int (nI (1))), (0, .ref (ads o (95))), (1, .int (nI (b)))] d_Mo_isDead_1 rfl (Nat.le_of_ble_eq_true rfl) rfl ?_
  refine r_iconst X (v := nI (1)) d_Mo_isDead_2 (by decide) ?_
  refine r_istore_n X [(3, .int (nI (1))), (2, .int (nI (1))), (0, .ref (ads o (95))), (1, .int (nI (b)))] d_Mo_isDead_3 rfl (Nat.le_of_ble_eq_true rfl) rfl ?_
  have L4_1 : ∀ (d_i i : Nat), i + d_i = n - 1 + 1 → (1 ≤ i) → V γ o 4 mi ml 4 [(0, .ref (ads o (95))), (1, .int (nI (b))), (2, .int (bI (alB (fun k => decide (bt (oM ml k) b = bt (oM ml 0) b)) (i)))), (3, .int (nI (i)))] [] := by
    intro d_i
    induction d_i with
    | zero =>
      intro i hi_L4_1 h1
      have he_L4_1 : n - 1 + 1 = i := by omega
      subst he_L4_1
      refine r_iload_n X 3 d_Mo_isDead_4 rfl rfl ?_
      refine r_aload_n X 0 d_Mo_isDead_5 rfl rfl ?_
      refine r_callV X (m_Mo_marks l o mi ml n (hn) hn40) ok_Mo_marks w_Mo_59 rfl b_95 e_95 rfl ⟨Nat.le_of_ble_eq_true rfl, Nat.le_of_ble_eq_true rfl⟩ (rest := [.int (nI (n - 1 + 1))]) rfl (Nat.le_of_ble_eq_true rfl) d_Mo_isDead_6 ?_
      refine kD (st' := [.int (nI (n)), .int (nI (n - 1 + 1))]) rfl ?_
      refine r_icge X (tgt := 49) (c := n ≤ (n - 1 + 1)) d_Mo_isDead_9 (by decide) (nI_leI (by omega) (by omega)) (fun c_9 => ?_) (fun c_9 => ?_)
      · -- taken
        refine r_iload_n X 2 d_Mo_isDead_49 rfl rfl ?_
        refine r_end_z X (bI_nar _) d_Mo_isDead_50 ?_
        refine ⟨?_, rfl, rfl⟩; unfold deadM; first | (rw [alB_d (by simp) n]; done) | (have hq := alB_no (n := n) (by assumption) (by omega); simp_all; done)
      · -- not taken
        exact False.elim (by omega)
    | succ d_i ih_L4_1 =>
      intro i hi_L4_1 h1
      have hlt_L4_1 : i < n - 1 + 1 := by omega
      refine r_iload_n X 3 d_Mo_isDead_4 rfl rfl ?_
      refine r_aload_n X 0 d_Mo_isDead_5 rfl rfl ?_
      refine r_callV X (m_Mo_marks l o mi ml n (hn) hn40) ok_Mo_marks w_Mo_59 rfl b_95 e_95 rfl ⟨Nat.le_of_ble_eq_true rfl, Nat.le_of_ble_eq_true rfl⟩ (rest := [.int (nI (i))]) rfl (Nat.le_of_ble_eq_true rfl) d_Mo_isDead_6 ?_
      refine kD (st' := [.int (nI (n)), .int (nI (i))]) rfl ?_
      refine r_icge X (tgt := 49) (c := n ≤ i) d_Mo_isDead_9 (by decide) (nI_leI (by omega) (by omega)) (fun c_9_2 => ?_) (fun c_9_2 => ?_)
      · -- taken
        exact False.elim (by omega)
      · -- not taken
        refine r_iload_n X 2 d_Mo_isDead_12 rfl rfl ?_
        refine r_ifeqB X (tgt := 49) (b := alB (fun k => decide (bt (oM ml k) b = bt (oM ml 0) b)) (i)) d_Mo_isDead_13 (by decide) (fun c_13 => ?_) (fun c_13 => ?_)
        · -- taken
          refine r_iload_n X 2 d_Mo_isDead_49 rfl rfl ?_
          refine r_end_z X (bI_nar _) d_Mo_isDead_50 ?_
          refine ⟨?_, rfl, rfl⟩; unfold deadM; first | (rw [alB_d (by simp) n]; done) | (have hq := alB_no (n := n) (by assumption) (by omega); simp_all; done)
        · -- not taken
          refine r_aload_n X 0 d_Mo_isDead_16 rfl rfl ?_
          refine r_iload_n X 3 d_Mo_isDead_17 rfl rfl ?_
          refine r_callV X (m_Mo_own l o mi ml i (by omega)) ok_Mo_own w_Mo_67 rfl b_95 e_95 rfl ⟨Nat.le_of_ble_eq_true rfl, Nat.le_of_ble_eq_true rfl⟩ (rest := []) rfl (Nat.le_of_ble_eq_true rfl) d_Mo_isDead_18 ?_
          refine kD (st' := [.long (oM ml i)]) rfl ?_
          refine r_iload_n X 1 d_Mo_isDead_21 rfl rfl ?_
          refine r_callS X (m_Mo_has l o mi ml (oM ml i) b (by omega)) ok_Mo_has w_Mo_75 rfl ⟨Nat.le_of_ble_eq_true rfl, Nat.le_of_ble_eq_true rfl⟩ (rest := []) rfl (Nat.le_of_ble_eq_true rfl) d_Mo_isDead_22 ?_
          refine kD (st' := [.int (bI (bt (oM ml i) b))]) rfl ?_
          refine r_aload_n X 0 d_Mo_isDead_25 rfl rfl ?_
          refine r_iconst X (v := nI (0)) d_Mo_isDead_26 (by decide) ?_
          refine r_callV X (m_Mo_own l o mi ml 0 (by omega)) ok_Mo_own w_Mo_67 rfl b_95 e_95 rfl ⟨Nat.le_of_ble_eq_true rfl, Nat.le_of_ble_eq_true rfl⟩ (rest := [.int (bI (bt (oM ml i) b))]) rfl (Nat.le_of_ble_eq_true rfl) d_Mo_isDead_27 ?_
          refine kD (st' := [.long (oM ml 0), .int (bI (bt (oM ml i) b))]) rfl ?_
          refine r_iload_n X 1 d_Mo_isDead_30 rfl rfl ?_
          refine r_callS X (m_Mo_has l o mi ml (oM ml 0) b (by omega)) ok_Mo_has w_Mo_75 rfl ⟨Nat.le_of_ble_eq_true rfl, Nat.le_of_ble_eq_true rfl⟩ (rest := [.int (bI (bt (oM ml i) b))]) rfl (Nat.le_of_ble_eq_true rfl) d_Mo_isDead_31 ?_
          refine kD (st' := [.int (bI (bt (oM ml 0) b)), .int (bI (bt (oM ml i) b))]) rfl ?_
          have hJ_3 : V γ o 4 mi ml 42 [(0, .ref (ads o (95))), (1, .int (nI (b))), (2, .int (bI (alB (fun k => decide (bt (oM ml k) b = bt (oM ml 0) b)) (i)))), (3, .int (nI (i)))] [.int (bI (decide ((bt (oM ml i) b) = (bt (oM ml 0) b))))] := by
            refine r_istore_n X [(2, .int (bI (decide ((bt (oM ml i) b) = (bt (oM ml 0) b))))), (0, .ref (ads o (95))), (1, .int (nI (b))), (3, .int (nI (i)))] d_Mo_isDead_42 rfl (Nat.le_of_ble_eq_true rfl) rfl ?_
            refine r_iinc X 3 (v := nI (i + 1)) [(3, .int (nI (i + 1))), (2, .int (bI (decide ((bt (oM ml i) b) = (bt (oM ml 0) b))))), (0, .ref (ads o (95))), (1, .int (nI (b)))] d_Mo_isDead_43 rfl (nI_add _ 1) (Nat.le_of_ble_eq_true rfl) rfl ?_
            refine r_goto X (tgt := 4) d_Mo_isDead_46 (by decide) ?_
            refine V.wk [2, 3, 1, 0] (V.eq (ih_L4_1 (i + 1) (by omega) (by omega)) ?_ ?_ ?_ rfl) (rfl : lv_pick _ [2, 3, 1, 0] = [(0, .ref (ads o (95))), (1, .int (nI (b))), (2, .int (bI (decide ((bt (oM ml i) b) = (bt (oM ml 0) b))))), (3, .int (nI (i + 1)))])
            · rfl
            · rfl
            · first | rfl | (simp_all [ct, lastB, alB, fromB]; done)
          refine r_icneP X (tgt := 41) (c := (bt (oM ml i) b) = (bt (oM ml 0) b)) d_Mo_isDead_34 (by decide) (bI_inj _ _) (fun c_34 => ?_) (fun c_34 => ?_)
          · -- taken
            refine r_iconst X (v := nI (0)) d_Mo_isDead_41 (by decide) ?_
            exact V.eq hJ_3 rfl rfl rfl (by rw [show (decide ((bt (oM ml i) b) = (bt (oM ml 0) b))) = false from by first | (simp only [eq_false c_34, decide_true, decide_false, Bool.not_true, Bool.not_false, Bool.true_and, Bool.false_and, Bool.and_true, Bool.and_false, Bool.true_or, Bool.false_or, Bool.or_true, Bool.or_false, if_true, if_false, ite_true, ite_false, cond_true, cond_false, Bool.false_eq_true, reduceIte]; done) | (simp [c_34]; done) | (simp_all; done)]; rfl)
          · -- not taken
            refine r_iconst X (v := nI (1)) d_Mo_isDead_37 (by decide) ?_
            refine r_goto X (tgt := 42) d_Mo_isDead_38 (by decide) ?_
            exact V.eq hJ_3 rfl rfl rfl (by rw [show (decide ((bt (oM ml i) b) = (bt (oM ml 0) b))) = true from by first | (simp only [eq_true c_34, decide_true, decide_false, Bool.not_true, Bool.not_false, Bool.true_and, Bool.false_and, Bool.and_true, Bool.and_false, Bool.true_or, Bool.false_or, Bool.or_true, Bool.or_false, if_true, if_false, ite_true, ite_false, cond_true, cond_false, Bool.false_eq_true, reduceIte]; done) | (simp [c_34]; done) | (simp_all; done)]; rfl)
  refine V.wk [2, 3, 1, 0] (V.eq (L4_1 ((n - 1 + 1) - 1) 1 (by omega) (by omega)) ?_ ?_ ?_ rfl) (rfl : lv_pick _ [2, 3, 1, 0] = [(0, .ref (ads o (95))), (1, .int (nI (b))), (2, .int (nI (1))), (3, .int (nI (1)))])
  · rfl
  · rfl
  · simp [alB, bI, nI]; done
