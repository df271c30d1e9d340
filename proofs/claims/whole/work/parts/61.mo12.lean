set_option maxHeartbeats 4000000 in
set_option maxRecDepth 100000 in
theorem m_Mo_markAt_i (l : Launch) (o : OM) (mi : MI) (ml : ML) (k : Nat) (n : Nat) (hn : ml 96 2 = lN n) (hn40 : n ≤ 40) (hk : k < n) : ConD l y_Mo_markAt c_Mo_markAt 2 (some .long) 8 270 o [.ref (ads o (95)), .int (nI (k))] mi ml (some (.long (oM ml k))) mi ml := by
  refine Con.mk (by decide) (Nat.le_of_ble_eq_true rfl) (fun γ X => ?_)
  show V γ o 2 mi ml 0 [(0, .ref (ads o (95))), (1, .int (nI (k)))] []
  refine r_aload_n X 0 d_Mo_markAt_0 rfl rfl ?_
  refine r_iload_n X 1 d_Mo_markAt_1 rfl rfl ?_
  refine r_callV X (m_Mo_isMark l o mi ml (nI (k)) n (hn) hn40) ok_Mo_isMark w_Mo_114 rfl b_95 e_95 rfl ⟨Nat.le_of_ble_eq_true rfl, Nat.le_of_ble_eq_true rfl⟩ (rest := []) rfl (Nat.le_of_ble_eq_true rfl) d_Mo_markAt_2 ?_
  refine kD (st' := [.int (bI (isMk n (nI (k))))]) rfl ?_
  have hJ_1 : V γ o 2 mi ml 17 [(0, .ref (ads o (95))), (1, .int (nI (k)))] [.long (oM ml k)] := by
    refine r_end_l X d_Mo_markAt_17 ?_
    first | exact ⟨rfl, rfl, rfl⟩ | (refine ⟨?_, rfl, rfl⟩; simp_all)
  refine r_ifeqB X (tgt := 16) (b := isMk n (nI (k))) d_Mo_markAt_5 (by decide) (fun c_5 => ?_) (fun c_5 => ?_)
  · -- taken
    exact False.elim (by rw [isMk_nI (by omega) (by omega)] at c_5; simp at c_5; omega)
  · -- not taken
    refine r_aload_n X 0 d_Mo_markAt_8 rfl rfl ?_
    refine r_iload_n X 1 d_Mo_markAt_9 rfl rfl ?_
    refine r_callV X (m_Mo_own l o mi ml k (by omega)) ok_Mo_own w_Mo_67 rfl b_95 e_95 rfl ⟨Nat.le_of_ble_eq_true rfl, Nat.le_of_ble_eq_true rfl⟩ (rest := []) rfl (Nat.le_of_ble_eq_true rfl) d_Mo_markAt_10 ?_
    refine kD (st' := [.long (oM ml k)]) rfl ?_
    refine r_goto X (tgt := 17) d_Mo_markAt_13 (by decide) ?_
    exact hJ_1

set_option maxHeartbeats 4000000 in
set_option maxRecDepth 100000 in
theorem m_Mo_markAt_u (l : Launch) (o : OM) (mi : MI) (ml : ML) (k : Int32) (n : Nat) (hn : ml 96 2 = lN n) (hn40 : n ≤ 40) (hu : isMk n k = false) : ConD l y_Mo_markAt c_Mo_markAt 2 (some .long) 8 270 o [.ref (ads o (95)), .int (k)] mi ml (some (.long (0))) mi ml := by
  refine Con.mk (by decide) (Nat.le_of_ble_eq_true rfl) (fun γ X => ?_)
  show V γ o 2 mi ml 0 [(0, .ref (ads o (95))), (1, .int (k))] []
  refine r_aload_n X 0 d_Mo_markAt_0 rfl rfl ?_
  refine r_iload_n X 1 d_Mo_markAt_1 rfl rfl ?_
  refine r_callV X (m_Mo_isMark l o mi ml k n (hn) hn40) ok_Mo_isMark w_Mo_114 rfl b_95 e_95 rfl ⟨Nat.le_of_ble_eq_true rfl, Nat.le_of_ble_eq_true rfl⟩ (rest := []) rfl (Nat.le_of_ble_eq_true rfl) d_Mo_markAt_2 ?_
  refine kD (st' := [.int (bI (isMk n k))]) rfl ?_
  have hJ_1 : V γ o 2 mi ml 17 [(0, .ref (ads o (95))), (1, .int (k))] [.long (0)] := by
    refine r_end_l X d_Mo_markAt_17 ?_
    first | exact ⟨rfl, rfl, rfl⟩ | (refine ⟨?_, rfl, rfl⟩; simp_all)
  refine r_ifeqB X (tgt := 16) (b := isMk n k) d_Mo_markAt_5 (by decide) (fun c_5 => ?_) (fun c_5 => ?_)
  · -- taken
    refine r_lconst X (v := 0) d_Mo_markAt_16 (by decide) ?_
    exact hJ_1
  · -- not taken
    exact False.elim (by rw [hu] at c_5; cases c_5)

set_option maxHeartbeats 4000000 in
set_option maxRecDepth 100000 in
theorem m_Mo_mark_u (l : Launch) (o : OM) (mi : MI) (ml : ML) (k : Int32) (w : Int32) (n : Nat) (hn : ml 96 2 = lN n) (hn40 : n ≤ 40) (hu : isMk n k = false) : ConD l y_Mo_mark c_Mo_mark 5 (some .int) 8 270 o [.ref (ads o (95)), .int (k), .int (w)] mi ml (some (.int (((-1000000001 : Int32))))) mi ml := by
  refine Con.mk (by decide) (Nat.le_of_ble_eq_true rfl) (fun γ X => ?_)
  show V γ o 5 mi ml 0 [(0, .ref (ads o (95))), (1, .int (k)), (2, .int (w))] []
  refine r_aload_n X 0 d_Mo_mark_0 rfl rfl ?_
  refine r_iload_n X 1 d_Mo_mark_1 rfl rfl ?_
  refine r_callV X (m_Mo_isMark l o mi ml k n (hn) hn40) ok_Mo_isMark w_Mo_114 rfl b_95 e_95 rfl ⟨Nat.le_of_ble_eq_true rfl, Nat.le_of_ble_eq_true rfl⟩ (rest := []) rfl (Nat.le_of_ble_eq_true rfl) d_Mo_mark_2 ?_
  refine kD (st' := [.int (bI (isMk n k))]) rfl ?_
  refine r_ifneB X (tgt := 11) (b := isMk n k) d_Mo_mark_5 (by decide) (fun c_5 => ?_) (fun c_5 => ?_)
  · -- taken
    exact False.elim (by rw [hu] at c_5; cases c_5)
  · -- not taken
    refine r_ldc X (v := ((-1000000001 : Int32))) k_Mo_145 (by decide) d_Mo_mark_8 ?_
    refine r_end_i X d_Mo_mark_10 ?_
    first | exact ⟨rfl, rfl, rfl⟩ | (refine ⟨?_, rfl, rfl⟩; simp_all)

set_option maxHeartbeats 4000000 in
set_option maxRecDepth 100000 in
theorem m_Mo_mark_i (l : Launch) (o : OM) (mi : MI) (ml : ML) (k : Nat) (w : Int32) (n : Nat) (hn : ml 96 2 = lN n) (hn40 : n ≤ 40) (hk : k < n) : ConD l y_Mo_mark c_Mo_mark 5 (some .int) 8 270 o [.ref (ads o (95)), .int (nI (k)), .int (w)] mi ml (some (.int ((oI (ix w 5) (-1000000002 : Int32) (markM mi ml n k))))) mi ml := by
  refine Con.mk (by decide) (Nat.le_of_ble_eq_true rfl) (fun γ X => ?_)
  have hpl := pop_le (ml 96 1)
  show V γ o 5 mi ml 0 [(0, .ref (ads o (95))), (1, .int (nI (k))), (2, .int (w))] []
  refine r_aload_n X 0 d_Mo_mark_0 rfl rfl ?_
  refine r_iload_n X 1 d_Mo_mark_1 rfl rfl ?_
  refine r_callV X (m_Mo_isMark l o mi ml (nI (k)) n (hn) hn40) ok_Mo_isMark w_Mo_114 rfl b_95 e_95 rfl ⟨Nat.le_of_ble_eq_true rfl, Nat.le_of_ble_eq_true rfl⟩ (rest := []) rfl (Nat.le_of_ble_eq_true rfl) d_Mo_mark_2 ?_
  refine kD (st' := [.int (bI (isMk n (nI (k))))]) rfl ?_
  refine r_ifneB X (tgt := 11) (b := isMk n (nI (k))) d_Mo_mark_5 (by decide) (fun c_5 => ?_) (fun c_5 => ?_)
  · -- taken
    refine r_iload_n X 2 d_Mo_mark_11 rfl rfl ?_
    rcases pk_ix w (n := 5) (by decide) with hs12 | hs12 | ⟨q12, hq12, rfl⟩
    · refine r_tswOut X (tgt := 157) d_Mo_mark_12 (Or.inl (tsw_lo hs12)) (by decide) ?_
      refine r_ldc X (v := ((-1000000002 : Int32))) k_Mo_144 (by decide) d_Mo_mark_157 ?_
      refine r_end_i X d_Mo_mark_159 ?_
      refine ⟨?_, rfl, rfl⟩; rw [ix_lo hs12]; rfl
    · refine r_tswOut X (tgt := 157) d_Mo_mark_12 (Or.inr (tsw_hi (by decide) hs12)) (by decide) ?_
      refine r_ldc X (v := ((-1000000002 : Int32))) k_Mo_144 (by decide) d_Mo_mark_157 ?_
      refine r_end_i X d_Mo_mark_159 ?_
      refine ⟨?_, rfl, rfl⟩; rw [ix_hi hs12]; rfl
    · match q12, hq12 with
      | 0, _ =>
        refine r_tswIn X (off := 36) (tgt := 48) d_Mo_mark_12 (by decide) (by decide) (by decide) (by decide) ?_
        refine r_aload_n X 0 d_Mo_mark_48 rfl rfl ?_
        refine r_get X f_Mo_13 b_95 e_95 (v := .ref (ads o (97))) rfl d_Mo_mark_49 ?_
        refine r_iload_n X 1 d_Mo_mark_52 rfl rfl ?_
        refine r_iald X (v := (mi 97 k)) b_97 e_97 (Nat.le_of_ble_eq_true rfl) (by omega) rfl d_Mo_mark_53 ?_
        refine r_end_i X d_Mo_mark_54 ?_
        refine ⟨?_, rfl, rfl⟩; rw [show ix (nI 0) 5 = some 0 from by decide]; rfl
      | 1, _ =>
        refine r_tswIn X (off := 43) (tgt := 55) d_Mo_mark_12 (by decide) (by decide) (by decide) (by decide) ?_
        refine r_aload_n X 0 d_Mo_mark_55 rfl rfl ?_
        refine r_iload_n X 1 d_Mo_mark_56 rfl rfl ?_
        refine r_callV X (m_Mo_own l o mi ml k (by omega)) ok_Mo_own w_Mo_67 rfl b_95 e_95 rfl ⟨Nat.le_of_ble_eq_true rfl, Nat.le_of_ble_eq_true rfl⟩ (rest := []) rfl (Nat.le_of_ble_eq_true rfl) d_Mo_mark_57 ?_
        refine kD (st' := [.long (oM ml k)]) rfl ?_
        refine r_callS X (m_Mo_ones l o mi ml (oM ml k)) ok_Mo_ones w_Mo_71 rfl ⟨Nat.le_of_ble_eq_true rfl, Nat.le_of_ble_eq_true rfl⟩ (rest := []) rfl (Nat.le_of_ble_eq_true rfl) d_Mo_mark_60 ?_
        refine kD (st' := [.int (nI (pop (oM ml k)))]) rfl ?_
        refine r_end_i X d_Mo_mark_63 ?_
        refine ⟨?_, rfl, rfl⟩; rw [show ix (nI 1) 5 = some 1 from by decide]; rfl
      | 2, _ =>
        refine r_tswIn X (off := 52) (tgt := 64) d_Mo_mark_12 (by decide) (by decide) (by decide) (by decide) ?_
        refine r_aload_n X 0 d_Mo_mark_64 rfl rfl ?_
        refine r_iload_n X 1 d_Mo_mark_65 rfl rfl ?_
        refine r_callV X (m_Mo_off l o mi ml k (by omega)) ok_Mo_off w_Mo_82 rfl b_95 e_95 rfl ⟨Nat.le_of_ble_eq_true rfl, Nat.le_of_ble_eq_true rfl⟩ (rest := []) rfl (Nat.le_of_ble_eq_true rfl) d_Mo_mark_66 ?_
        refine kD (st' := [.int (nI (ds (oM ml k) (ml 96 0)))]) rfl ?_
        refine r_end_i X d_Mo_mark_69 ?_
        refine ⟨?_, rfl, rfl⟩; rw [show ix (nI 2) 5 = some 2 from by decide]; rfl
      | 3, _ =>
        refine r_tswIn X (off := 58) (tgt := 70) d_Mo_mark_12 (by decide) (by decide) (by decide) (by decide) ?_
        refine r_iconst X (v := nI (0)) d_Mo_mark_70 (by decide) ?_
        refine r_istore_n X [(3, .int (nI (0))), (0, .ref (ads o (95))), (1, .int (nI (k))), (2, .int (nI (3)))] d_Mo_mark_71 rfl (Nat.le_of_ble_eq_true rfl) rfl ?_
        refine r_iconst X (v := nI (0)) d_Mo_mark_72 (by decide) ?_
        refine r_istore X [(4, .int (nI (0))), (3, .int (nI (0))), (0, .ref (ads o (95))), (1, .int (nI (k))), (2, .int (nI (3)))] d_Mo_mark_73 (Nat.le_of_ble_eq_true rfl) rfl ?_
        have L75_1 : ∀ (d_i i : Nat), i + d_i = n → V γ o 5 mi ml 75 [(0, .ref (ads o (95))), (1, .int (nI (k))), (2, .int (nI (3))), (3, .int (nI (ct (fun j => (!decide (j = k) && !decide (pop (ml 96 1) ≤ ds (oM ml j) (oM ml k)))) (i)))), (4, .int (nI (i)))] [] := by
          intro d_i
          induction d_i with
          | zero =>
            intro i hi_L75_1 
            have he_L75_1 : n = i := by omega
            subst he_L75_1
            refine r_iload X 4 d_Mo_mark_75 rfl ?_
            refine r_aload_n X 0 d_Mo_mark_77 rfl rfl ?_
            refine r_callV X (m_Mo_marks l o mi ml n (hn) hn40) ok_Mo_marks w_Mo_59 rfl b_95 e_95 rfl ⟨Nat.le_of_ble_eq_true rfl, Nat.le_of_ble_eq_true rfl⟩ (rest := [.int (nI (n))]) rfl (Nat.le_of_ble_eq_true rfl) d_Mo_mark_78 ?_
            refine kD (st' := [.int (nI (n)), .int (nI (n))]) rfl ?_
            refine r_icge X (tgt := 126) (c := n ≤ n) d_Mo_mark_81 (by decide) (nI_leI (by omega) (by omega)) (fun c_81 => ?_) (fun c_81 => ?_)
            · -- taken
              refine r_iload_n X 3 d_Mo_mark_126 rfl rfl ?_
              refine r_end_i X d_Mo_mark_127 ?_
              refine ⟨?_, rfl, rfl⟩; rw [show ix (nI 3) 5 = some 3 from by decide]; rfl
            · -- not taken
              exact False.elim (by omega)
          | succ d_i ih_L75_1 =>
            intro i hi_L75_1 
            have hlt_L75_1 : i < n := by omega
            refine r_iload X 4 d_Mo_mark_75 rfl ?_
            refine r_aload_n X 0 d_Mo_mark_77 rfl rfl ?_
            refine r_callV X (m_Mo_marks l o mi ml n (hn) hn40) ok_Mo_marks w_Mo_59 rfl b_95 e_95 rfl ⟨Nat.le_of_ble_eq_true rfl, Nat.le_of_ble_eq_true rfl⟩ (rest := [.int (nI (i))]) rfl (Nat.le_of_ble_eq_true rfl) d_Mo_mark_78 ?_
            refine kD (st' := [.int (nI (n)), .int (nI (i))]) rfl ?_
            refine r_icge X (tgt := 126) (c := n ≤ i) d_Mo_mark_81 (by decide) (nI_leI (by omega) (by omega)) (fun c_81_2 => ?_) (fun c_81_2 => ?_)
            · -- taken
              exact False.elim (by omega)
            · -- not taken
              refine r_iload_n X 3 d_Mo_mark_84 rfl rfl ?_
              refine r_iload X 4 d_Mo_mark_85 rfl ?_
              refine r_iload_n X 1 d_Mo_mark_87 rfl rfl ?_
              have hJ_3 : V γ o 5 mi ml 118 [(0, .ref (ads o (95))), (1, .int (nI (k))), (2, .int (nI (3))), (3, .int (nI (ct (fun j => (!decide (j = k) && !decide (pop (ml 96 1) ≤ ds (oM ml j) (oM ml k)))) (i)))), (4, .int (nI (i)))] [.int (bI ((!decide (i = k) && !decide ((pop (ml 96 1)) ≤ (pop ((oM ml i) ^^^ (oM ml k))))))), .int (nI (ct (fun j => (!decide (j = k) && !decide (pop (ml 96 1) ≤ ds (oM ml j) (oM ml k)))) (i)))] := by
                refine r_iadd X (v := nI (ct (fun j => (!decide (j = k) && !decide (pop (ml 96 1) ≤ ds (oM ml j) (oM ml k)))) (i) + ((!decide (i = k) && !decide ((pop (ml 96 1)) ≤ (pop ((oM ml i) ^^^ (oM ml k)))))).toNat)) d_Mo_mark_118 (bI_add _ _) ?_
                refine r_istore_n X [(3, .int (nI (ct (fun j => (!decide (j = k) && !decide (pop (ml 96 1) ≤ ds (oM ml j) (oM ml k)))) (i) + ((!decide (i = k) && !decide ((pop (ml 96 1)) ≤ (pop ((oM ml i) ^^^ (oM ml k)))))).toNat))), (0, .ref (ads o (95))), (1, .int (nI (k))), (2, .int (nI (3))), (4, .int (nI (i)))] d_Mo_mark_119 rfl (Nat.le_of_ble_eq_true rfl) rfl ?_
                refine r_iinc X 4 (v := nI (i + 1)) [(4, .int (nI (i + 1))), (3, .int (nI (ct (fun j => (!decide (j = k) && !decide (pop (ml 96 1) ≤ ds (oM ml j) (oM ml k)))) (i) + ((!decide (i = k) && !decide ((pop (ml 96 1)) ≤ (pop ((oM ml i) ^^^ (oM ml k)))))).toNat))), (0, .ref (ads o (95))), (1, .int (nI (k))), (2, .int (nI (3)))] d_Mo_mark_120 rfl (nI_add _ 1) (Nat.le_of_ble_eq_true rfl) rfl ?_
                refine r_goto X (tgt := 75) d_Mo_mark_123 (by decide) ?_
                refine V.wk [2, 3, 4, 1, 0] (V.eq (ih_L75_1 (i + 1) (by omega) ) ?_ ?_ ?_ rfl) (rfl : lv_pick _ [2, 3, 4, 1, 0] = [(0, .ref (ads o (95))), (1, .int (nI (k))), (2, .int (nI (3))), (3, .int (nI (ct (fun j => (!decide (j = k) && !decide (pop (ml 96 1) ≤ ds (oM ml j) (oM ml k)))) (i) + ((!decide (i = k) && !decide ((pop (ml 96 1)) ≤ (pop ((oM ml i) ^^^ (oM ml k)))))).toNat))), (4, .int (nI (i + 1)))])
                · rfl
                · rfl
                · first | rfl | (simp_all [ct, lastB, alB, fromB]; done)
              refine r_iceq X (tgt := 117) (c := i = k) d_Mo_mark_88 (by decide) (nI_eq (by omega) (by omega)) (fun c_88 => ?_) (fun c_88 => ?_)
              · -- taken
                refine r_iconst X (v := nI (0)) d_Mo_mark_117 (by decide) ?_
                exact V.eq hJ_3 rfl rfl rfl (by rw [show ((!decide (i = k) && !decide ((pop (ml 96 1)) ≤ (pop ((oM ml i) ^^^ (oM ml k)))))) = false from by first | (simp only [eq_true c_88, decide_true, decide_false, Bool.not_true, Bool.not_false, Bool.true_and, Bool.false_and, Bool.and_true, Bool.and_false, Bool.true_or, Bool.false_or, Bool.or_true, Bool.or_false, if_true, if_false, ite_true, ite_false, cond_true, cond_false, Bool.false_eq_true, reduceIte]; done) | (simp [c_88]; done) | (simp_all; done)]; rfl)
              · -- not taken
                refine r_aload_n X 0 d_Mo_mark_91 rfl rfl ?_
                refine r_iload X 4 d_Mo_mark_92 rfl ?_
                refine r_callV X (m_Mo_own l o mi ml i (by omega)) ok_Mo_own w_Mo_67 rfl b_95 e_95 rfl ⟨Nat.le_of_ble_eq_true rfl, Nat.le_of_ble_eq_true rfl⟩ (rest := [.int (nI (ct (fun j => (!decide (j = k) && !decide (pop (ml 96 1) ≤ ds (oM ml j) (oM ml k)))) (i)))]) rfl (Nat.le_of_ble_eq_true rfl) d_Mo_mark_94 ?_
                refine kD (st' := [.long (oM ml i), .int (nI (ct (fun j => (!decide (j = k) && !decide (pop (ml 96 1) ≤ ds (oM ml j) (oM ml k)))) (i)))]) rfl ?_
                refine r_aload_n X 0 d_Mo_mark_97 rfl rfl ?_
                refine r_iload_n X 1 d_Mo_mark_98 rfl rfl ?_
                refine r_callV X (m_Mo_own l o mi ml k (by omega)) ok_Mo_own w_Mo_67 rfl b_95 e_95 rfl ⟨Nat.le_of_ble_eq_true rfl, Nat.le_of_ble_eq_true rfl⟩ (rest := [.long (oM ml i), .int (nI (ct (fun j => (!decide (j = k) && !decide (pop (ml 96 1) ≤ ds (oM ml j) (oM ml k)))) (i)))]) rfl (Nat.le_of_ble_eq_true rfl) d_Mo_mark_99 ?_
                refine kD (st' := [.long (oM ml k), .long (oM ml i), .int (nI (ct (fun j => (!decide (j = k) && !decide (pop (ml 96 1) ≤ ds (oM ml j) (oM ml k)))) (i)))]) rfl ?_
                refine r_lxor X (v := (oM ml i) ^^^ (oM ml k)) d_Mo_mark_102 (rfl) ?_
                refine r_callS X (m_Mo_ones l o mi ml ((oM ml i) ^^^ (oM ml k))) ok_Mo_ones w_Mo_71 rfl ⟨Nat.le_of_ble_eq_true rfl, Nat.le_of_ble_eq_true rfl⟩ (rest := [.int (nI (ct (fun j => (!decide (j = k) && !decide (pop (ml 96 1) ≤ ds (oM ml j) (oM ml k)))) (i)))]) rfl (Nat.le_of_ble_eq_true rfl) d_Mo_mark_103 ?_
                refine kD (st' := [.int (nI (pop ((oM ml i) ^^^ (oM ml k)))), .int (nI (ct (fun j => (!decide (j = k) && !decide (pop (ml 96 1) ≤ ds (oM ml j) (oM ml k)))) (i)))]) rfl ?_
                refine r_aload_n X 0 d_Mo_mark_106 rfl rfl ?_
                refine r_callV X (m_Mo_parts l o mi ml ) ok_Mo_parts w_Mo_86 rfl b_95 e_95 rfl ⟨Nat.le_of_ble_eq_true rfl, Nat.le_of_ble_eq_true rfl⟩ (rest := [.int (nI (pop ((oM ml i) ^^^ (oM ml k)))), .int (nI (ct (fun j => (!decide (j = k) && !decide (pop (ml 96 1) ≤ ds (oM ml j) (oM ml k)))) (i)))]) rfl (Nat.le_of_ble_eq_true rfl) d_Mo_mark_107 ?_
                refine kD (st' := [.int (nI (pop (ml 96 1))), .int (nI (pop ((oM ml i) ^^^ (oM ml k)))), .int (nI (ct (fun j => (!decide (j = k) && !decide (pop (ml 96 1) ≤ ds (oM ml j) (oM ml k)))) (i)))]) rfl ?_
                refine r_icge X (tgt := 117) (c := (pop (ml 96 1)) ≤ (pop ((oM ml i) ^^^ (oM ml k)))) d_Mo_mark_110 (by decide) (nI_leI (pop_lt _) (pop_lt _)) (fun c_110 => ?_) (fun c_110 => ?_)
                · -- taken
                  refine r_iconst X (v := nI (0)) d_Mo_mark_117 (by decide) ?_
                  exact V.eq hJ_3 rfl rfl rfl (by rw [show ((!decide (i = k) && !decide ((pop (ml 96 1)) ≤ (pop ((oM ml i) ^^^ (oM ml k)))))) = false from by first | (simp only [eq_false c_88, eq_true c_110, decide_true, decide_false, Bool.not_true, Bool.not_false, Bool.true_and, Bool.false_and, Bool.and_true, Bool.and_false, Bool.true_or, Bool.false_or, Bool.or_true, Bool.or_false, if_true, if_false, ite_true, ite_false, cond_true, cond_false, Bool.false_eq_true, reduceIte]; done) | (simp [c_88, c_110]; done) | (simp_all; done)]; rfl)
                · -- not taken
                  refine r_iconst X (v := nI (1)) d_Mo_mark_113 (by decide) ?_
                  refine r_goto X (tgt := 118) d_Mo_mark_114 (by decide) ?_
                  exact V.eq hJ_3 rfl rfl rfl (by rw [show ((!decide (i = k) && !decide ((pop (ml 96 1)) ≤ (pop ((oM ml i) ^^^ (oM ml k)))))) = true from by first | (simp only [eq_false c_88, eq_false c_110, decide_true, decide_false, Bool.not_true, Bool.not_false, Bool.true_and, Bool.false_and, Bool.and_true, Bool.and_false, Bool.true_or, Bool.false_or, Bool.or_true, Bool.or_false, if_true, if_false, ite_true, ite_false, cond_true, cond_false, Bool.false_eq_true, reduceIte]; done) | (simp [c_88, c_110]; done) | (simp_all; done)]; rfl)
        refine V.wk [2, 3, 4, 1, 0] (V.eq (L75_1 (n - 0) 0 (by omega) ) ?_ ?_ ?_ rfl) (rfl : lv_pick _ [2, 3, 4, 1, 0] = [(0, .ref (ads o (95))), (1, .int (nI (k))), (2, .int (nI (3))), (3, .int (nI (0))), (4, .int (nI (0)))])
        · rfl
        · rfl
        · rfl
      | 4, _ =>
        refine r_tswIn X (off := 116) (tgt := 128) d_Mo_mark_12 (by decide) (by decide) (by decide) (by decide) ?_
        refine r_aload_n X 0 d_Mo_mark_128 rfl rfl ?_
        refine r_iload_n X 1 d_Mo_mark_129 rfl rfl ?_
        refine r_callV X (m_Mo_own l o mi ml k (by omega)) ok_Mo_own w_Mo_67 rfl b_95 e_95 rfl ⟨Nat.le_of_ble_eq_true rfl, Nat.le_of_ble_eq_true rfl⟩ (rest := []) rfl (Nat.le_of_ble_eq_true rfl) d_Mo_mark_130 ?_
        refine kD (st' := [.long (oM ml k)]) rfl ?_
        refine r_aload_n X 0 d_Mo_mark_133 rfl rfl ?_
        refine r_get X f_Mo_7 b_95 e_95 (v := .ref (ads o (96))) rfl d_Mo_mark_134 ?_
        refine r_iconst X (v := nI (0)) d_Mo_mark_137 (by decide) ?_
        refine r_lald X (v := ml 96 0) b_96 e_96 (Nat.le_of_ble_eq_true rfl) (by omega) rfl d_Mo_mark_138 ?_
        refine r_aload_n X 0 d_Mo_mark_139 rfl rfl ?_
        refine r_get X f_Mo_7 b_95 e_95 (v := .ref (ads o (96))) rfl d_Mo_mark_140 ?_
        refine r_iconst X (v := nI (1)) d_Mo_mark_143 (by decide) ?_
        refine r_lald X (v := ml 96 1) b_96 e_96 (Nat.le_of_ble_eq_true rfl) (by omega) rfl d_Mo_mark_144 ?_
        refine r_callS X (m_Mo_isLooked l o mi ml (oM ml k) (ml 96 0) (ml 96 1)) ok_Mo_isLooked w_Mo_79 rfl ⟨Nat.le_of_ble_eq_true rfl, Nat.le_of_ble_eq_true rfl⟩ (rest := []) rfl (Nat.le_of_ble_eq_true rfl) d_Mo_mark_145 ?_
        refine kD (st' := [.int (bI (lk (oM ml k) (ml 96 0) (ml 96 1)))]) rfl ?_
        have hJ_4 : V γ o 5 mi ml 156 [(0, .ref (ads o (95))), (1, .int (nI (k))), (2, .int (nI (4)))] [.int (bI ((lk (oM ml k) (ml 96 0) (ml 96 1))))] := by
          refine r_end_i X d_Mo_mark_156 ?_
          refine ⟨?_, rfl, rfl⟩; rw [show ix (nI 4) 5 = some 4 from by decide]; rfl
        refine r_ifeqB X (tgt := 155) (b := lk (oM ml k) (ml 96 0) (ml 96 1)) d_Mo_mark_148 (by decide) (fun c_148 => ?_) (fun c_148 => ?_)
        · -- taken
          refine r_iconst X (v := nI (0)) d_Mo_mark_155 (by decide) ?_
          exact V.eq hJ_4 rfl rfl rfl (by rw [show ((lk (oM ml k) (ml 96 0) (ml 96 1))) = false from by first | (simp only [c_148, decide_true, decide_false, Bool.not_true, Bool.not_false, Bool.true_and, Bool.false_and, Bool.and_true, Bool.and_false, Bool.true_or, Bool.false_or, Bool.or_true, Bool.or_false, if_true, if_false, ite_true, ite_false, cond_true, cond_false, Bool.false_eq_true, reduceIte]; done) | (simp [c_148]; done) | (simp_all; done)]; rfl)
        · -- not taken
          refine r_iconst X (v := nI (1)) d_Mo_mark_151 (by decide) ?_
          refine r_goto X (tgt := 156) d_Mo_mark_152 (by decide) ?_
          exact V.eq hJ_4 rfl rfl rfl (by rw [show ((lk (oM ml k) (ml 96 0) (ml 96 1))) = true from by first | (simp only [c_148, decide_true, decide_false, Bool.not_true, Bool.not_false, Bool.true_and, Bool.false_and, Bool.and_true, Bool.and_false, Bool.true_or, Bool.false_or, Bool.or_true, Bool.or_false, if_true, if_false, ite_true, ite_false, cond_true, cond_false, Bool.false_eq_true, reduceIte]; done) | (simp [c_148]; done) | (simp_all; done)]; rfl)
  · -- not taken
    exact False.elim (by rw [isMk_nI (by omega) (by omega)] at c_5; simp at c_5; omega)

set_option maxHeartbeats 4000000 in
set_option maxRecDepth 100000 in
theorem m_Mo_part_u (l : Launch) (o : OM) (mi : MI) (ml : ML) (p : Int32) (w : Int32) (hu : isMk (pop (ml 96 1)) p = false) : ConD l y_Mo_part c_Mo_part 3 (some .int) 8 270 o [.ref (ads o (95)), .int (p), .int (w)] mi ml (some (.int (((-1000000001 : Int32))))) mi ml := by
  refine Con.mk (by decide) (Nat.le_of_ble_eq_true rfl) (fun γ X => ?_)
  have hpl := pop_le (ml 96 1)
  show V γ o 3 mi ml 0 [(0, .ref (ads o (95))), (1, .int (p)), (2, .int (w))] []
  refine r_iload_n X 1 d_Mo_part_0 rfl rfl ?_
  refine r_i2l X (v := (p).toInt64) d_Mo_part_1 (rfl) ?_
  refine r_lconst X (v := 0) d_Mo_part_2 (by decide) ?_
  refine r_aload_n X 0 d_Mo_part_3 rfl rfl ?_
  refine r_callV X (m_Mo_parts l o mi ml ) ok_Mo_parts w_Mo_86 rfl b_95 e_95 rfl ⟨Nat.le_of_ble_eq_true rfl, Nat.le_of_ble_eq_true rfl⟩ (rest := [.long (0), .long ((p).toInt64)]) rfl (Nat.le_of_ble_eq_true rfl) d_Mo_part_4 ?_
  refine kD (st' := [.int (nI (pop (ml 96 1))), .long (0), .long ((p).toInt64)]) rfl ?_
  refine r_iconst X (v := nI (1)) d_Mo_part_7 (by decide) ?_
  refine r_isub X (v := (nI (pop (ml 96 1)) - nI (1))) d_Mo_part_8 (rfl) ?_
  refine r_i2l X (v := ((nI (pop (ml 96 1)) - nI (1))).toInt64) d_Mo_part_9 (rfl) ?_
  refine r_callS X (m_Mo_in l o mi ml ((p).toInt64) 0 (((nI (pop (ml 96 1)) - nI (1))).toInt64)) ok_Mo_in w_Mo_63 rfl ⟨Nat.le_of_ble_eq_true rfl, Nat.le_of_ble_eq_true rfl⟩ (rest := []) rfl (Nat.le_of_ble_eq_true rfl) d_Mo_part_10 ?_
  refine kD (st' := [.int (bI (!decide (((p).toInt64) < 0) && !decide ((((nI (pop (ml 96 1)) - nI (1))).toInt64) < ((p).toInt64))))]) rfl ?_
  refine r_ifneB X (tgt := 19) (b := !decide (((p).toInt64) < 0) && !decide ((((nI (pop (ml 96 1)) - nI (1))).toInt64) < ((p).toInt64))) d_Mo_part_13 (by decide) (fun c_13 => ?_) (fun c_13 => ?_)
  · -- taken
    exact False.elim (by rw [isMk_eq (by omega) p, hu] at c_13; cases c_13)
  · -- not taken
    refine r_ldc X (v := ((-1000000001 : Int32))) k_Mo_145 (by decide) d_Mo_part_16 ?_
    refine r_end_i X d_Mo_part_18 ?_
    first | exact ⟨rfl, rfl, rfl⟩ | (refine ⟨?_, rfl, rfl⟩; simp_all)

set_option maxHeartbeats 4000000 in
set_option maxRecDepth 100000 in
theorem m_Mo_part_i (l : Launch) (o : OM) (mi : MI) (ml : ML) (p : Nat) (w : Int32) (n : Nat) (hn : ml 96 2 = lN n) (hn40 : n ≤ 40) (hp : p < pop (ml 96 1)) : ConD l y_Mo_part c_Mo_part 3 (some .int) 8 270 o [.ref (ads o (95)), .int (nI (p)), .int (w)] mi ml (some (.int ((oI (ix w 3) (-1000000002 : Int32) (partM ml n p))))) mi ml := by
  refine Con.mk (by decide) (Nat.le_of_ble_eq_true rfl) (fun γ X => ?_)
  have hpl := pop_le (ml 96 1)
  have hg := enM_gt hp
  have he := enM_le (ml 96 1) p
  show V γ o 3 mi ml 0 [(0, .ref (ads o (95))), (1, .int (nI (p))), (2, .int (w))] []
  refine r_iload_n X 1 d_Mo_part_0 rfl rfl ?_
  refine r_i2l X (v := lN (p)) d_Mo_part_1 (nI_l (by omega)) ?_
  refine r_lconst X (v := 0) d_Mo_part_2 (by decide) ?_
  refine r_aload_n X 0 d_Mo_part_3 rfl rfl ?_
  refine r_callV X (m_Mo_parts l o mi ml ) ok_Mo_parts w_Mo_86 rfl b_95 e_95 rfl ⟨Nat.le_of_ble_eq_true rfl, Nat.le_of_ble_eq_true rfl⟩ (rest := [.long (0), .long (lN (p))]) rfl (Nat.le_of_ble_eq_true rfl) d_Mo_part_4 ?_
  refine kD (st' := [.int (nI (pop (ml 96 1))), .long (0), .long (lN (p))]) rfl ?_
  refine r_iconst X (v := nI (1)) d_Mo_part_7 (by decide) ?_
  refine r_isub X (v := nI (pop (ml 96 1) - 1)) d_Mo_part_8 (pk_sub (by omega)) ?_
  refine r_i2l X (v := lN (pop (ml 96 1) - 1)) d_Mo_part_9 (nI_l (by omega)) ?_
  refine r_callS X (m_Mo_in l o mi ml (lN (p)) 0 (lN (pop (ml 96 1) - 1))) ok_Mo_in w_Mo_63 rfl ⟨Nat.le_of_ble_eq_true rfl, Nat.le_of_ble_eq_true rfl⟩ (rest := []) rfl (Nat.le_of_ble_eq_true rfl) d_Mo_part_10 ?_
  refine kD (st' := [.int (bI (!decide ((lN (p)) < 0) && !decide ((lN (pop (ml 96 1) - 1)) < (lN (p)))))]) rfl ?_
  refine r_ifneB X (tgt := 19) (b := !decide ((lN (p)) < 0) && !decide ((lN (pop (ml 96 1) - 1)) < (lN (p)))) d_Mo_part_13 (by decide) (fun c_13 => ?_) (fun c_13 => ?_)
  · -- taken
    refine r_iload_n X 2 d_Mo_part_19 rfl rfl ?_
    rcases pk_ix w (n := 3) (by decide) with hs20 | hs20 | ⟨q20, hq20, rfl⟩
    · refine r_tswOut X (tgt := 72) d_Mo_part_20 (Or.inl (tsw_lo hs20)) (by decide) ?_
      refine r_ldc X (v := ((-1000000002 : Int32))) k_Mo_144 (by decide) d_Mo_part_72 ?_
      refine r_end_i X d_Mo_part_74 ?_
      refine ⟨?_, rfl, rfl⟩; rw [ix_lo hs20]; rfl
    · refine r_tswOut X (tgt := 72) d_Mo_part_20 (Or.inr (tsw_hi (by decide) hs20)) (by decide) ?_
      refine r_ldc X (v := ((-1000000002 : Int32))) k_Mo_144 (by decide) d_Mo_part_72 ?_
      refine r_end_i X d_Mo_part_74 ?_
      refine ⟨?_, rfl, rfl⟩; rw [ix_hi hs20]; rfl
    · match q20, hq20 with
      | 0, _ =>
        refine r_tswIn X (off := 28) (tgt := 48) d_Mo_part_20 (by decide) (by decide) (by decide) (by decide) ?_
        refine r_aload_n X 0 d_Mo_part_48 rfl rfl ?_
        refine r_iload_n X 1 d_Mo_part_49 rfl rfl ?_
        refine r_callV X (m_Mo_beginOf l o mi ml p hp) ok_Mo_beginOf w_Mo_146 rfl b_95 e_95 rfl ⟨Nat.le_of_ble_eq_true rfl, Nat.le_of_ble_eq_true rfl⟩ (rest := []) rfl (Nat.le_of_ble_eq_true rfl) d_Mo_part_50 ?_
        refine kD (st' := [.int (nI (kth (ml 96 1) p))]) rfl ?_
        refine r_end_i X d_Mo_part_53 ?_
        refine ⟨?_, rfl, rfl⟩; rw [show ix (nI 0) 3 = some 0 from by decide]; rfl
      | 1, _ =>
        refine r_tswIn X (off := 34) (tgt := 54) d_Mo_part_20 (by decide) (by decide) (by decide) (by decide) ?_
        refine r_aload_n X 0 d_Mo_part_54 rfl rfl ?_
        refine r_iload_n X 1 d_Mo_part_55 rfl rfl ?_
        refine r_callV X (m_Mo_endOf l o mi ml p hp) ok_Mo_endOf w_Mo_149 rfl b_95 e_95 rfl ⟨Nat.le_of_ble_eq_true rfl, Nat.le_of_ble_eq_true rfl⟩ (rest := []) rfl (Nat.le_of_ble_eq_true rfl) d_Mo_part_56 ?_
        refine kD (st' := [.int (nI (enM (ml 96 1) p))]) rfl ?_
        refine r_aload_n X 0 d_Mo_part_59 rfl rfl ?_
        refine r_iload_n X 1 d_Mo_part_60 rfl rfl ?_
        refine r_callV X (m_Mo_beginOf l o mi ml p hp) ok_Mo_beginOf w_Mo_146 rfl b_95 e_95 rfl ⟨Nat.le_of_ble_eq_true rfl, Nat.le_of_ble_eq_true rfl⟩ (rest := [.int (nI (enM (ml 96 1) p))]) rfl (Nat.le_of_ble_eq_true rfl) d_Mo_part_61 ?_
        refine kD (st' := [.int (nI (kth (ml 96 1) p)), .int (nI (enM (ml 96 1) p))]) rfl ?_
        refine r_isub X (v := nI (enM (ml 96 1) p - (kth (ml 96 1) p))) d_Mo_part_64 (pk_sub (by omega)) ?_
        refine r_end_i X d_Mo_part_65 ?_
        refine ⟨?_, rfl, rfl⟩; rw [show ix (nI 1) 3 = some 1 from by decide]; rfl
      | 2, _ =>
        refine r_tswIn X (off := 46) (tgt := 66) d_Mo_part_20 (by decide) (by decide) (by decide) (by decide) ?_
        refine r_aload_n X 0 d_Mo_part_66 rfl rfl ?_
        refine r_iload_n X 1 d_Mo_part_67 rfl rfl ?_
        refine r_callV X (m_Mo_have l o mi ml p n (hn) hn40 hp) ok_Mo_have w_Mo_152 rfl b_95 e_95 rfl ⟨Nat.le_of_ble_eq_true rfl, Nat.le_of_ble_eq_true rfl⟩ (rest := []) rfl (Nat.le_of_ble_eq_true rfl) d_Mo_part_68 ?_
        refine kD (st' := [.int (nI (haveM (oM ml) (ml 96 0) (ml 96 1) p n))]) rfl ?_
        refine r_end_i X d_Mo_part_71 ?_
        refine ⟨?_, rfl, rfl⟩; rw [show ix (nI 2) 3 = some 2 from by decide]; rfl
  · -- not taken
    exact False.elim (by have e := in_nat (a := 0) (j := p) (m := pop (ml 96 1) - 1) (by omega) (by omega) (by omega); exact absurd (c_13.symm.trans e) (by decide))

set_option maxHeartbeats 4000000 in
set_option maxRecDepth 100000 in
theorem m_Mo_isMore (l : Launch) (o : OM) (mi : MI) (ml : ML) (p : Nat) (P : Nat) (h : Nat) (hP1 : 1 ≤ P) (hP8 : P ≤ 8) (hp : p < P) (hh : h < 3) : ConD l y_Mo_isMore c_Mo_isMore 5 (some .boolean) 0 0 o [.int (nI (p)), .int (nI (P)), .int (nI (h))] mi ml (some (.int (bI (moreM p P h)))) mi ml := by
  refine Con.mk (by decide) (Nat.le_of_ble_eq_true rfl) (fun γ X => ?_)
  have hm := Nat.mod_lt 64 (show 0 < P by omega)
  have hif : (if decide (p % 2 = 0) then p / 2 else (P + 1) / 2 + p / 2) ≤ 20 := by split <;> omega
  show V γ o 5 mi ml 0 [(0, .int (nI (p))), (1, .int (nI (P))), (2, .int (nI (h)))] []
  refine r_bipush X (v := nI (64)) d_Mo_isMore_0 (by decide) ?_
  refine r_iload_n X 1 d_Mo_isMore_2 rfl rfl ?_
  refine r_irem X (v := nI ((64) % (P))) d_Mo_isMore_3 (nI_ne0 (by omega) (by omega)) (pk_rem (Nat.le_of_ble_eq_true rfl) (by omega) (by omega)) ?_
  refine r_istore_n X [(3, .int (nI ((64) % (P)))), (0, .int (nI (p))), (1, .int (nI (P))), (2, .int (nI (h)))] d_Mo_isMore_4 rfl (Nat.le_of_ble_eq_true rfl) rfl ?_
  refine r_iload_n X 3 d_Mo_isMore_5 rfl rfl ?_
  refine r_iconst X (v := nI (2)) d_Mo_isMore_6 (by decide) ?_
  refine r_icge X (tgt := 40) (c := 2 ≤ h) d_Mo_isMore_7 (by decide) (nI_leI (Nat.le_of_ble_eq_true rfl) (by omega)) (fun c_7 => ?_) (fun c_7 => ?_)
  · -- taken
    refine r_iload_n X 1 d_Mo_isMore_40 rfl rfl ?_
    refine r_iconst X (v := nI (2)) d_Mo_isMore_41 (by decide) ?_
    refine r_irem X (v := nI ((p) % (2))) d_Mo_isMore_42 (nI_ne0 (by omega) (Nat.le_of_ble_eq_true rfl)) (pk_rem (by omega) (by omega) (Nat.le_of_ble_eq_true rfl)) ?_
    have hJ_1 : V γ o 5 mi ml 61 [(3, .int (nI ((64) % (P)))), (0, .int (nI (p))), (1, .int (nI (P))), (2, .int (nI (h)))] [.int (nI (if decide (((p) % (2)) = 0) then (p) / (2) else (P + 1) / (2) + ((p) / (2))))] := by
      refine r_istore X [(4, .int (nI (if decide (((p) % (2)) = 0) then (p) / (2) else (P + 1) / (2) + ((p) / (2))))), (3, .int (nI ((64) % (P)))), (0, .int (nI (p))), (1, .int (nI (P))), (2, .int (nI (h)))] d_Mo_isMore_61 (Nat.le_of_ble_eq_true rfl) rfl ?_
      refine r_iload X 0 d_Mo_isMore_63 rfl ?_
      refine r_iload_n X 1 d_Mo_isMore_65 rfl rfl ?_
      have hJ_2 : V γ o 5 mi ml 74 [(4, .int (nI (if decide (((p) % (2)) = 0) then (p) / (2) else (P + 1) / (2) + ((p) / (2))))), (3, .int (nI ((64) % (P)))), (0, .int (nI (p))), (1, .int (nI (P))), (2, .int (nI (h)))] [.int (bI (!decide (((64) % (P)) ≤ (if decide (((p) % (2)) = 0) then (p) / (2) else (P + 1) / (2) + ((p) / (2))))))] := by
        refine r_end_z X (bI_nar _) d_Mo_isMore_74 ?_
        refine ⟨?_, rfl, rfl⟩; unfold moreM; rw [show decide (2 ≤ h) = true from decide_eq_true c_7]; rfl
      refine r_icge X (tgt := 73) (c := ((64) % (P)) ≤ (if decide (((p) % (2)) = 0) then (p) / (2) else (P + 1) / (2) + ((p) / (2)))) d_Mo_isMore_66 (by decide) (nI_leI (by omega) (by omega)) (fun c_66 => ?_) (fun c_66 => ?_)
      · -- taken
        refine r_iconst X (v := nI (0)) d_Mo_isMore_73 (by decide) ?_
        exact V.eq hJ_2 rfl rfl rfl (by rw [show (!decide (((64) % (P)) ≤ (if decide (((p) % (2)) = 0) then (p) / (2) else (P + 1) / (2) + ((p) / (2))))) = false from by first | (simp only [eq_true c_66, decide_true, decide_false, Bool.not_true, Bool.not_false, Bool.true_and, Bool.false_and, Bool.and_true, Bool.and_false, Bool.true_or, Bool.false_or, Bool.or_true, Bool.or_false, if_true, if_false, ite_true, ite_false, cond_true, cond_false, Bool.false_eq_true, reduceIte]; done) | (simp [c_66]; done) | (simp_all; done)]; rfl)
      · -- not taken
        refine r_iconst X (v := nI (1)) d_Mo_isMore_69 (by decide) ?_
        refine r_goto X (tgt := 74) d_Mo_isMore_70 (by decide) ?_
        exact V.eq hJ_2 rfl rfl rfl (by rw [show (!decide (((64) % (P)) ≤ (if decide (((p) % (2)) = 0) then (p) / (2) else (P + 1) / (2) + ((p) / (2))))) = true from by first | (simp only [eq_false c_66, decide_true, decide_false, Bool.not_true, Bool.not_false, Bool.true_and, Bool.false_and, Bool.and_true, Bool.and_false, Bool.true_or, Bool.false_or, Bool.or_true, Bool.or_false, if_true, if_false, ite_true, ite_false, cond_true, cond_false, Bool.false_eq_true, reduceIte]; done) | (simp [c_66]; done) | (simp_all; done)]; rfl)
    refine r_ifneP X (tgt := 52) (c := ((p) % (2)) = 0) d_Mo_isMore_43 (by decide) ((by rw [← nI_0] <;> exact nI_eq (by omega) (Nat.le_of_ble_eq_true rfl))) (fun c_43 => ?_) (fun c_43 => ?_)
    · -- taken
      refine r_iload_n X 2 d_Mo_isMore_52 rfl rfl ?_
      refine r_iconst X (v := nI (1)) d_Mo_isMore_53 (by decide) ?_
      refine r_iadd X (v := nI (P + 1)) d_Mo_isMore_54 (nI_add _ _) ?_
      refine r_iconst X (v := nI (2)) d_Mo_isMore_55 (by decide) ?_
      refine r_idiv X (v := nI ((P + 1) / (2))) d_Mo_isMore_56 (nI_ne0 (by omega) (Nat.le_of_ble_eq_true rfl)) (pk_div (by omega) (by omega) (Nat.le_of_ble_eq_true rfl)) ?_
      refine r_iload_n X 1 d_Mo_isMore_57 rfl rfl ?_
      refine r_iconst X (v := nI (2)) d_Mo_isMore_58 (by decide) ?_
      refine r_idiv X (v := nI ((p) / (2))) d_Mo_isMore_59 (nI_ne0 (by omega) (Nat.le_of_ble_eq_true rfl)) (pk_div (by omega) (by omega) (Nat.le_of_ble_eq_true rfl)) ?_
      refine r_iadd X (v := nI ((P + 1) / (2) + ((p) / (2)))) d_Mo_isMore_60 (nI_add _ _) ?_
      exact V.eq hJ_1 rfl rfl rfl (by rw [show (nI (if decide (((p) % (2)) = 0) then (p) / (2) else (P + 1) / (2) + ((p) / (2)))) = (nI ((P + 1) / (2) + ((p) / (2)))) from by first | (simp only [eq_false c_43, decide_true, decide_false, Bool.not_true, Bool.not_false, Bool.true_and, Bool.false_and, Bool.and_true, Bool.and_false, Bool.true_or, Bool.false_or, Bool.or_true, Bool.or_false, if_true, if_false, ite_true, ite_false, cond_true, cond_false, Bool.false_eq_true, reduceIte]; done) | (simp [c_43]; done) | (simp_all; done)])
    · -- not taken
      refine r_iload_n X 1 d_Mo_isMore_46 rfl rfl ?_
      refine r_iconst X (v := nI (2)) d_Mo_isMore_47 (by decide) ?_
      refine r_idiv X (v := nI ((p) / (2))) d_Mo_isMore_48 (nI_ne0 (by omega) (Nat.le_of_ble_eq_true rfl)) (pk_div (by omega) (by omega) (Nat.le_of_ble_eq_true rfl)) ?_
      refine r_goto X (tgt := 61) d_Mo_isMore_49 (by decide) ?_
      exact V.eq hJ_1 rfl rfl rfl (by rw [show (nI (if decide (((p) % (2)) = 0) then (p) / (2) else (P + 1) / (2) + ((p) / (2)))) = (nI ((p) / (2))) from by first | (simp only [eq_true c_43, decide_true, decide_false, Bool.not_true, Bool.not_false, Bool.true_and, Bool.false_and, Bool.and_true, Bool.and_false, Bool.true_or, Bool.false_or, Bool.or_true, Bool.or_false, if_true, if_false, ite_true, ite_false, cond_true, cond_false, Bool.false_eq_true, reduceIte]; done) | (simp [c_43]; done) | (simp_all; done)])
  · -- not taken
    refine r_iload_n X 3 d_Mo_isMore_10 rfl rfl ?_
    have hJ_3 : V γ o 5 mi ml 39 [(3, .int (nI ((64) % (P)))), (0, .int (nI (p))), (1, .int (nI (P))), (2, .int (nI (h)))] [.int (bI ((bif decide (h = 0) then !decide (((64) % (P)) ≤ p) else !decide (p < (P - ((64) % (P)))))))] := by
      refine r_end_z X (bI_nar _) d_Mo_isMore_39 ?_
      refine ⟨?_, rfl, rfl⟩; unfold moreM; rw [show decide (2 ≤ h) = false from decide_eq_false c_7]; rfl
    refine r_ifneP X (tgt := 27) (c := h = 0) d_Mo_isMore_11 (by decide) ((by rw [← nI_0] <;> exact nI_eq (by omega) (Nat.le_of_ble_eq_true rfl))) (fun c_11 => ?_) (fun c_11 => ?_)
    · -- taken
      refine r_iload_n X 1 d_Mo_isMore_27 rfl rfl ?_
      refine r_iload_n X 2 d_Mo_isMore_28 rfl rfl ?_
      refine r_iload_n X 0 d_Mo_isMore_29 rfl rfl ?_
      refine r_isub X (v := nI (P - ((64) % (P)))) d_Mo_isMore_30 (pk_sub (by omega)) ?_
      refine r_iclt X (tgt := 38) (c := p < (P - ((64) % (P)))) d_Mo_isMore_31 (by decide) (nI_ltI (by omega) (by omega)) (fun c_31 => ?_) (fun c_31 => ?_)
      · -- taken
        refine r_iconst X (v := nI (0)) d_Mo_isMore_38 (by decide) ?_
        exact V.eq hJ_3 rfl rfl rfl (by rw [show ((bif decide (h = 0) then !decide (((64) % (P)) ≤ p) else !decide (p < (P - ((64) % (P)))))) = false from by first | (simp only [eq_false c_11, eq_true c_31, decide_true, decide_false, Bool.not_true, Bool.not_false, Bool.true_and, Bool.false_and, Bool.and_true, Bool.and_false, Bool.true_or, Bool.false_or, Bool.or_true, Bool.or_false, if_true, if_false, ite_true, ite_false, cond_true, cond_false, Bool.false_eq_true, reduceIte]; done) | (simp [c_11, c_31]; done) | (simp_all; done)]; rfl)
      · -- not taken
        refine r_iconst X (v := nI (1)) d_Mo_isMore_34 (by decide) ?_
        refine r_goto X (tgt := 39) d_Mo_isMore_35 (by decide) ?_
        exact V.eq hJ_3 rfl rfl rfl (by rw [show ((bif decide (h = 0) then !decide (((64) % (P)) ≤ p) else !decide (p < (P - ((64) % (P)))))) = true from by first | (simp only [eq_false c_11, eq_false c_31, decide_true, decide_false, Bool.not_true, Bool.not_false, Bool.true_and, Bool.false_and, Bool.and_true, Bool.and_false, Bool.true_or, Bool.false_or, Bool.or_true, Bool.or_false, if_true, if_false, ite_true, ite_false, cond_true, cond_false, Bool.false_eq_true, reduceIte]; done) | (simp [c_11, c_31]; done) | (simp_all; done)]; rfl)
    · -- not taken
      refine r_iload_n X 1 d_Mo_isMore_14 rfl rfl ?_
      refine r_iload_n X 0 d_Mo_isMore_15 rfl rfl ?_
      refine r_icge X (tgt := 23) (c := ((64) % (P)) ≤ p) d_Mo_isMore_16 (by decide) (nI_leI (by omega) (by omega)) (fun c_16 => ?_) (fun c_16 => ?_)
      · -- taken
        refine r_iconst X (v := nI (0)) d_Mo_isMore_23 (by decide) ?_
        refine r_goto X (tgt := 39) d_Mo_isMore_24 (by decide) ?_
        exact V.eq hJ_3 rfl rfl rfl (by rw [show ((bif decide (h = 0) then !decide (((64) % (P)) ≤ p) else !decide (p < (P - ((64) % (P)))))) = false from by first | (simp only [eq_true c_11, eq_true c_16, decide_true, decide_false, Bool.not_true, Bool.not_false, Bool.true_and, Bool.false_and, Bool.and_true, Bool.and_false, Bool.true_or, Bool.false_or, Bool.or_true, Bool.or_false, if_true, if_false, ite_true, ite_false, cond_true, cond_false, Bool.false_eq_true, reduceIte]; done) | (simp [c_11, c_16]; done) | (simp_all; done)]; rfl)
      · -- not taken
        refine r_iconst X (v := nI (1)) d_Mo_isMore_19 (by decide) ?_
        refine r_goto X (tgt := 39) d_Mo_isMore_20 (by decide) ?_
        exact V.eq hJ_3 rfl rfl rfl (by rw [show ((bif decide (h = 0) then !decide (((64) % (P)) ≤ p) else !decide (p < (P - ((64) % (P)))))) = true from by first | (simp only [eq_true c_11, eq_false c_16, decide_true, decide_false, Bool.not_true, Bool.not_false, Bool.true_and, Bool.false_and, Bool.and_true, Bool.and_false, Bool.true_or, Bool.false_or, Bool.or_true, Bool.or_false, if_true, if_false, ite_true, ite_false, cond_true, cond_false, Bool.false_eq_true, reduceIte]; done) | (simp [c_11, c_16]; done) | (simp_all; done)]; rfl)

set_option maxHeartbeats 4000000 in
set_option maxRecDepth 100000 in
theorem m_Mo_cutBy (l : Launch) (o : OM) (mi : MI) (ml : ML) (P : Nat) (h : Nat) (hP1 : 1 ≤ P) (hP8 : P ≤ 8) (hh : h < 3) : ConD l y_Mo_cutBy c_Mo_cutBy 6 (some .long) 1 24 o [.int (nI (P)), .int (nI (h))] mi ml (some (.long ((cutS P h P).1))) mi ml := by
  refine Con.mk (by decide) (Nat.le_of_ble_eq_true rfl) (fun γ X => ?_)
  show V γ o 6 mi ml 0 [(0, .int (nI (P))), (1, .int (nI (h)))] []
  refine r_lconst X (v := 0) d_Mo_cutBy_0 (by decide) ?_
  refine r_lstore_n X [(2, .long (0)), (0, .int (nI (P))), (1, .int (nI (h)))] d_Mo_cutBy_1 rfl (Nat.le_of_ble_eq_true rfl) rfl ?_
  refine r_iconst X (v := nI (0)) d_Mo_cutBy_2 (by decide) ?_
  refine r_istore X [(4, .int (nI (0))), (2, .long (0)), (0, .int (nI (P))), (1, .int (nI (h)))] d_Mo_cutBy_3 (Nat.le_of_ble_eq_true rfl) rfl ?_
  refine r_iconst X (v := nI (0)) d_Mo_cutBy_5 (by decide) ?_
  refine r_istore X [(5, .int (nI (0))), (4, .int (nI (0))), (2, .long (0)), (0, .int (nI (P))), (1, .int (nI (h)))] d_Mo_cutBy_6 (Nat.le_of_ble_eq_true rfl) rfl ?_
  have L8_1 : ∀ (d_i i : Nat), i + d_i = P → V γ o 6 mi ml 8 [(0, .int (nI (P))), (1, .int (nI (h))), (2, .long ((cutS P h (i)).1)), (4, .int (nI ((cutS P h (i)).2))), (5, .int (nI (i)))] [] := by
    intro d_i
    induction d_i with
    | zero =>
      intro i hi_L8_1 
      have he_L8_1 : P = i := by omega
      subst he_L8_1
      refine r_iload X 4 d_Mo_cutBy_8 rfl ?_
      refine r_iload_n X 0 d_Mo_cutBy_10 rfl rfl ?_
      refine r_icge X (tgt := 52) (c := P ≤ P) d_Mo_cutBy_11 (by decide) (nI_leI (by omega) (by omega)) (fun c_11 => ?_) (fun c_11 => ?_)
      · -- taken
        refine r_lload_n X 2 d_Mo_cutBy_52 rfl rfl ?_
        refine r_end_l X d_Mo_cutBy_53 ?_
        first | exact ⟨rfl, rfl, rfl⟩ | (refine ⟨?_, rfl, rfl⟩; simp_all)
      · -- not taken
        exact False.elim (by omega)
    | succ d_i ih_L8_1 =>
      intro i hi_L8_1 
      have hlt_L8_1 : i < P := by omega
      refine r_iload X 4 d_Mo_cutBy_8 rfl ?_
      refine r_iload_n X 0 d_Mo_cutBy_10 rfl rfl ?_
      refine r_icge X (tgt := 52) (c := P ≤ i) d_Mo_cutBy_11 (by decide) (nI_leI (by omega) (by omega)) (fun c_11_2 => ?_) (fun c_11_2 => ?_)
      · -- taken
        exact False.elim (by omega)
      · -- not taken
        refine r_lload_n X 2 d_Mo_cutBy_14 rfl rfl ?_
        refine r_lconst X (v := 1) d_Mo_cutBy_15 (by decide) ?_
        refine r_iload X 3 d_Mo_cutBy_16 rfl ?_
        refine r_lshl X (v := shl (1) ((cutS P h (i)).2)) d_Mo_cutBy_18 (rfl) ?_
        refine r_lor X (v := ((cutS P h (i)).1) ||| (shl (1) ((cutS P h (i)).2))) d_Mo_cutBy_19 (rfl) ?_
        refine r_lstore_n X [(2, .long (((cutS P h (i)).1) ||| (shl (1) ((cutS P h (i)).2)))), (0, .int (nI (P))), (1, .int (nI (h))), (4, .int (nI ((cutS P h (i)).2))), (5, .int (nI (i)))] d_Mo_cutBy_20 rfl (Nat.le_of_ble_eq_true rfl) rfl ?_
        refine r_iload X 3 d_Mo_cutBy_21 rfl ?_
        refine r_bipush X (v := nI (64)) d_Mo_cutBy_23 (by decide) ?_
        refine r_iload_n X 1 d_Mo_cutBy_25 rfl rfl ?_
        refine r_idiv X (v := nI ((64) / (P))) d_Mo_cutBy_26 (nI_ne0 (by omega) (by omega)) (pk_div (Nat.le_of_ble_eq_true rfl) (by omega) (by omega)) ?_
        refine r_iload X 4 d_Mo_cutBy_27 rfl ?_
        refine r_iload_n X 1 d_Mo_cutBy_29 rfl rfl ?_
        refine r_iload_n X 2 d_Mo_cutBy_30 rfl rfl ?_
        refine r_callS X (m_Mo_isMore l o mi ml i P h hP1 hP8 (by omega) hh) ok_Mo_isMore w_Mo_216 rfl ⟨Nat.le_of_ble_eq_true rfl, Nat.le_of_ble_eq_true rfl⟩ (rest := [.int (nI ((64) / (P))), .int (nI ((cutS P h (i)).2))]) rfl (Nat.le_of_ble_eq_true rfl) d_Mo_cutBy_31 ?_
        refine kD (st' := [.int (bI (moreM i P h)), .int (nI ((64) / (P))), .int (nI ((cutS P h (i)).2))]) rfl ?_
        have hJ_3 : V γ o 6 mi ml 42 [(2, .long (((cutS P h (i)).1) ||| (shl (1) ((cutS P h (i)).2)))), (0, .int (nI (P))), (1, .int (nI (h))), (4, .int (nI ((cutS P h (i)).2))), (5, .int (nI (i)))] [.int (bI ((moreM i P h))), .int (nI ((64) / (P))), .int (nI ((cutS P h (i)).2))] := by
          refine r_iadd X (v := nI ((64) / (P) + ((moreM i P h)).toNat)) d_Mo_cutBy_42 (bI_add _ _) ?_
          refine r_iadd X (v := nI ((cutS P h (i)).2 + ((64) / (P) + ((moreM i P h)).toNat))) d_Mo_cutBy_43 (nI_add _ _) ?_
          refine r_istore X [(4, .int (nI ((cutS P h (i)).2 + ((64) / (P) + ((moreM i P h)).toNat)))), (2, .long (((cutS P h (i)).1) ||| (shl (1) ((cutS P h (i)).2)))), (0, .int (nI (P))), (1, .int (nI (h))), (5, .int (nI (i)))] d_Mo_cutBy_44 (Nat.le_of_ble_eq_true rfl) rfl ?_
          refine r_iinc X 4 (v := nI (i + 1)) [(5, .int (nI (i + 1))), (4, .int (nI ((cutS P h (i)).2 + ((64) / (P) + ((moreM i P h)).toNat)))), (2, .long (((cutS P h (i)).1) ||| (shl (1) ((cutS P h (i)).2)))), (0, .int (nI (P))), (1, .int (nI (h)))] d_Mo_cutBy_46 rfl (nI_add _ 1) (Nat.le_of_ble_eq_true rfl) rfl ?_
          refine r_goto X (tgt := 8) d_Mo_cutBy_49 (by decide) ?_
          refine V.wk [3, 4, 2, 1, 0] (V.eq (ih_L8_1 (i + 1) (by omega) ) ?_ ?_ ?_ rfl) (rfl : lv_pick _ [3, 4, 2, 1, 0] = [(0, .int (nI (P))), (1, .int (nI (h))), (2, .long (((cutS P h (i)).1) ||| (shl (1) ((cutS P h (i)).2)))), (4, .int (nI ((cutS P h (i)).2 + ((64) / (P) + ((moreM i P h)).toNat)))), (5, .int (nI (i + 1)))])
          · rfl
          · rfl
          · first | rfl | (simp_all [ct, lastB, alB, fromB]; done)
        refine r_ifeqB X (tgt := 41) (b := moreM i P h) d_Mo_cutBy_34 (by decide) (fun c_34 => ?_) (fun c_34 => ?_)
        · -- taken
          refine r_iconst X (v := nI (0)) d_Mo_cutBy_41 (by decide) ?_
          exact V.eq hJ_3 rfl rfl rfl (by rw [show ((moreM i P h)) = false from by first | (simp only [c_34, decide_true, decide_false, Bool.not_true, Bool.not_false, Bool.true_and, Bool.false_and, Bool.and_true, Bool.and_false, Bool.true_or, Bool.false_or, Bool.or_true, Bool.or_false, if_true, if_false, ite_true, ite_false, cond_true, cond_false, Bool.false_eq_true, reduceIte]; done) | (simp [c_34]; done) | (simp_all; done)]; rfl)
        · -- not taken
          refine r_iconst X (v := nI (1)) d_Mo_cutBy_37 (by decide) ?_
          refine r_goto X (tgt := 42) d_Mo_cutBy_38 (by decide) ?_
          exact V.eq hJ_3 rfl rfl rfl (by rw [show ((moreM i P h)) = true from by first | (simp only [c_34, decide_true, decide_false, Bool.not_true, Bool.not_false, Bool.true_and, Bool.false_and, Bool.and_true, Bool.and_false, Bool.true_or, Bool.false_or, Bool.or_true, Bool.or_false, if_true, if_false, ite_true, ite_false, cond_true, cond_false, Bool.false_eq_true, reduceIte]; done) | (simp [c_34]; done) | (simp_all; done)]; rfl)
  refine V.wk [3, 4, 2, 1, 0] (V.eq (L8_1 (P - 0) 0 (by omega) ) ?_ ?_ ?_ rfl) (rfl : lv_pick _ [3, 4, 2, 1, 0] = [(0, .int (nI (P))), (1, .int (nI (h))), (2, .long (0)), (4, .int (nI (0))), (5, .int (nI (0)))])
  · rfl
  · rfl
  · rfl

set_option maxHeartbeats 4000000 in
set_option maxRecDepth 100000 in
theorem m_Mo_fewest_o1 (l : Launch) (o : OM) (mi : MI) (ml : ML) (p : Int32) (w : Int32) (hp : p < nI 1 ∨ nI 8 < p) : ConD l y_Mo_fewest c_Mo_fewest 9 (some .int) 8 270 o [.ref (ads o (95)), .int (p), .int (w)] mi ml (some (.int (((-1000000002 : Int32))))) mi ml := by
  refine Con.mk (by decide) (Nat.le_of_ble_eq_true rfl) (fun γ X => ?_)
  show V γ o 9 mi ml 0 [(0, .ref (ads o (95))), (1, .int (p)), (2, .int (w))] []
  refine r_iload_n X 1 d_Mo_fewest_0 rfl rfl ?_
  refine r_i2l X (v := (p).toInt64) d_Mo_fewest_1 (rfl) ?_
  refine r_lconst X (v := 1) d_Mo_fewest_2 (by decide) ?_
  refine r_ldc2 X (v := (8 : Int64)) k_Mo_220 d_Mo_fewest_3 ?_
  refine r_callS X (m_Mo_in l o mi ml ((p).toInt64) 1 (8 : Int64)) ok_Mo_in w_Mo_63 rfl ⟨Nat.le_of_ble_eq_true rfl, Nat.le_of_ble_eq_true rfl⟩ (rest := []) rfl (Nat.le_of_ble_eq_true rfl) d_Mo_fewest_6 ?_
  refine kD (st' := [.int (bI (!decide (((p).toInt64) < 1) && !decide ((8 : Int64) < ((p).toInt64))))]) rfl ?_
  refine r_ifeqB X (tgt := 22) (b := !decide (((p).toInt64) < 1) && !decide ((8 : Int64) < ((p).toInt64))) d_Mo_fewest_9 (by decide) (fun c_9 => ?_) (fun c_9 => ?_)
  · -- taken
    refine r_ldc X (v := ((-1000000002 : Int32))) k_Mo_144 (by decide) d_Mo_fewest_22 ?_
    refine r_end_i X d_Mo_fewest_24 ?_
    first | exact ⟨rfl, rfl, rfl⟩ | (refine ⟨?_, rfl, rfl⟩; simp_all)
  · -- not taken
    exact False.elim (by have e := in_out (a := 1) (m := 8) (by decide) (by decide) hp; exact absurd (c_9.symm.trans e) (by decide))

set_option maxHeartbeats 4000000 in
set_option maxRecDepth 100000 in
theorem m_Mo_fewest_o2 (l : Launch) (o : OM) (mi : MI) (ml : ML) (p : Nat) (w : Int32) (hp1 : 1 ≤ p) (hp8 : p ≤ 8) (hw : w < nI 0 ∨ nI 1 < w) : ConD l y_Mo_fewest c_Mo_fewest 9 (some .int) 8 270 o [.ref (ads o (95)), .int (nI (p)), .int (w)] mi ml (some (.int (((-1000000002 : Int32))))) mi ml := by
  refine Con.mk (by decide) (Nat.le_of_ble_eq_true rfl) (fun γ X => ?_)
  show V γ o 9 mi ml 0 [(0, .ref (ads o (95))), (1, .int (nI (p))), (2, .int (w))] []
  refine r_iload_n X 1 d_Mo_fewest_0 rfl rfl ?_
  refine r_i2l X (v := lN (p)) d_Mo_fewest_1 (nI_l (by omega)) ?_
  refine r_lconst X (v := 1) d_Mo_fewest_2 (by decide) ?_
  refine r_ldc2 X (v := (8 : Int64)) k_Mo_220 d_Mo_fewest_3 ?_
  refine r_callS X (m_Mo_in l o mi ml (lN (p)) 1 (8 : Int64)) ok_Mo_in w_Mo_63 rfl ⟨Nat.le_of_ble_eq_true rfl, Nat.le_of_ble_eq_true rfl⟩ (rest := []) rfl (Nat.le_of_ble_eq_true rfl) d_Mo_fewest_6 ?_
  refine kD (st' := [.int (bI (!decide ((lN (p)) < 1) && !decide ((8 : Int64) < (lN (p)))))]) rfl ?_
  refine r_ifeqB X (tgt := 22) (b := !decide ((lN (p)) < 1) && !decide ((8 : Int64) < (lN (p)))) d_Mo_fewest_9 (by decide) (fun c_9 => ?_) (fun c_9 => ?_)
  · -- taken
    exact False.elim (by have e := in_nat (a := 1) (j := p) (m := 8) (by omega) (by omega) (by decide); exact absurd (c_9.symm.trans e) (by decide))
  · -- not taken
    refine r_iload_n X 2 d_Mo_fewest_12 rfl rfl ?_
    refine r_i2l X (v := (w).toInt64) d_Mo_fewest_13 (rfl) ?_
    refine r_lconst X (v := 0) d_Mo_fewest_14 (by decide) ?_
    refine r_lconst X (v := 1) d_Mo_fewest_15 (by decide) ?_
    refine r_callS X (m_Mo_in l o mi ml ((w).toInt64) 0 1) ok_Mo_in w_Mo_63 rfl ⟨Nat.le_of_ble_eq_true rfl, Nat.le_of_ble_eq_true rfl⟩ (rest := []) rfl (Nat.le_of_ble_eq_true rfl) d_Mo_fewest_16 ?_
    refine kD (st' := [.int (bI (!decide (((w).toInt64) < 0) && !decide (1 < ((w).toInt64))))]) rfl ?_
    refine r_ifneB X (tgt := 25) (b := !decide (((w).toInt64) < 0) && !decide (1 < ((w).toInt64))) d_Mo_fewest_19 (by decide) (fun c_19 => ?_) (fun c_19 => ?_)
    · -- taken
      exact False.elim (by have e := in_out (a := 0) (m := 1) (by decide) (by decide) hw; exact absurd (c_19.symm.trans e) (by decide))
    · -- not taken
      refine r_ldc X (v := ((-1000000002 : Int32))) k_Mo_144 (by decide) d_Mo_fewest_22 ?_
      refine r_end_i X d_Mo_fewest_24 ?_
      first | exact ⟨rfl, rfl, rfl⟩ | (refine ⟨?_, rfl, rfl⟩; simp_all)

set_option maxHeartbeats 4000000 in
set_option maxRecDepth 100000 in
theorem m_Mo_fewest_i (l : Launch) (o : OM) (mi : MI) (ml : ML) (p : Nat) (w : Nat) (n : Nat) (hn : ml 96 2 = lN n) (hn40 : n ≤ 40) (hp1 : 1 ≤ p) (hp8 : p ≤ 8) (hw : w < 2) : ConD l y_Mo_fewest c_Mo_fewest 9 (some .int) 8 270 o [.ref (ads o (95)), .int (nI (p)), .int (nI (w))] mi ml (some (.int (nI (if decide (w = 0) then (fewS (fun h => looksM (oM ml) n (cutS p h p).1 n) 3).1 else (fewS (fun h => looksM (oM ml) n (cutS p h p).1 n) 3).2)))) mi ml := by
  refine Con.mk (by decide) (Nat.le_of_ble_eq_true rfl) (fun γ X => ?_)
  show V γ o 9 mi ml 0 [(0, .ref (ads o (95))), (1, .int (nI (p))), (2, .int (nI (w)))] []
  refine r_iload_n X 1 d_Mo_fewest_0 rfl rfl ?_
  refine r_i2l X (v := lN (p)) d_Mo_fewest_1 (nI_l (by omega)) ?_
  refine r_lconst X (v := 1) d_Mo_fewest_2 (by decide) ?_
  refine r_ldc2 X (v := (8 : Int64)) k_Mo_220 d_Mo_fewest_3 ?_
  refine r_callS X (m_Mo_in l o mi ml (lN (p)) 1 (8 : Int64)) ok_Mo_in w_Mo_63 rfl ⟨Nat.le_of_ble_eq_true rfl, Nat.le_of_ble_eq_true rfl⟩ (rest := []) rfl (Nat.le_of_ble_eq_true rfl) d_Mo_fewest_6 ?_
  refine kD (st' := [.int (bI (!decide ((lN (p)) < 1) && !decide ((8 : Int64) < (lN (p)))))]) rfl ?_
  refine r_ifeqB X (tgt := 22) (b := !decide ((lN (p)) < 1) && !decide ((8 : Int64) < (lN (p)))) d_Mo_fewest_9 (by decide) (fun c_9 => ?_) (fun c_9 => ?_)
  · -- taken
    exact False.elim (by have e := in_nat (a := 1) (j := p) (m := 8) (by omega) (by omega) (by decide); exact absurd (c_9.symm.trans e) (by decide))
  · -- not taken
    refine r_iload_n X 2 d_Mo_fewest_12 rfl rfl ?_
    refine r_i2l X (v := lN (w)) d_Mo_fewest_13 (nI_l (by omega)) ?_
    refine r_lconst X (v := 0) d_Mo_fewest_14 (by decide) ?_
    refine r_lconst X (v := 1) d_Mo_fewest_15 (by decide) ?_
    refine r_callS X (m_Mo_in l o mi ml (lN (w)) 0 1) ok_Mo_in w_Mo_63 rfl ⟨Nat.le_of_ble_eq_true rfl, Nat.le_of_ble_eq_true rfl⟩ (rest := []) rfl (Nat.le_of_ble_eq_true rfl) d_Mo_fewest_16 ?_
    refine kD (st' := [.int (bI (!decide ((lN (w)) < 0) && !decide (1 < (lN (w)))))]) rfl ?_
    refine r_ifneB X (tgt := 25) (b := !decide ((lN (w)) < 0) && !decide (1 < (lN (w)))) d_Mo_fewest_19 (by decide) (fun c_19 => ?_) (fun c_19 => ?_)
    · -- taken
      refine r_iconst X (v := nI (0)) d_Mo_fewest_25 (by decide) ?_
      refine r_istore_n X [(3, .int (nI (0))), (0, .ref (ads o (95))), (1, .int (nI (p))), (2, .int (nI (w)))] d_Mo_fewest_26 rfl (Nat.le_of_ble_eq_true rfl) rfl ?_
      refine r_iconst X (v := nI (0)) d_Mo_fewest_27 (by decide) ?_
      refine r_istore X [(4, .int (nI (0))), (3, .int (nI (0))), (0, .ref (ads o (95))), (1, .int (nI (p))), (2, .int (nI (w)))] d_Mo_fewest_28 (Nat.le_of_ble_eq_true rfl) rfl ?_
      refine r_iconst X (v := nI (0)) d_Mo_fewest_30 (by decide) ?_
      refine r_istore X [(5, .int (nI (0))), (4, .int (nI (0))), (3, .int (nI (0))), (0, .ref (ads o (95))), (1, .int (nI (p))), (2, .int (nI (w)))] d_Mo_fewest_31 (Nat.le_of_ble_eq_true rfl) rfl ?_
      have L33_1 : ∀ (d_i i : Nat), i + d_i = 3 → V γ o 9 mi ml 33 [(0, .ref (ads o (95))), (1, .int (nI (p))), (2, .int (nI (w))), (3, .int (nI ((fewS (fun h => looksM (oM ml) n (cutS p h p).1 n) (i)).2))), (4, .int (nI ((fewS (fun h => looksM (oM ml) n (cutS p h p).1 n) (i)).1))), (5, .int (nI (i)))] [] := by
        intro d_i
        induction d_i with
        | zero =>
          intro i hi_L33_1 
          have he_L33_1 : 3 = i := by omega
          subst he_L33_1
          refine r_iload X 5 d_Mo_fewest_33 rfl ?_
          refine r_iconst X (v := nI (3)) d_Mo_fewest_35 (by decide) ?_
          refine r_icge X (tgt := 158) (c := 3 ≤ 3) d_Mo_fewest_36 (by decide) (nI_leI (Nat.le_of_ble_eq_true rfl) (by omega)) (fun c_36 => ?_) (fun c_36 => ?_)
          · -- taken
            refine r_iload_n X 2 d_Mo_fewest_158 rfl rfl ?_
            have hJ_2 : V γ o 9 mi ml 168 [(0, .ref (ads o (95))), (1, .int (nI (p))), (2, .int (nI (w))), (3, .int (nI ((fewS (fun h => looksM (oM ml) n (cutS p h p).1 n) (3)).2))), (4, .int (nI ((fewS (fun h => looksM (oM ml) n (cutS p h p).1 n) (3)).1))), (5, .int (nI (3)))] [.int (nI (if decide (w = 0) then (fewS (fun h => looksM (oM ml) n (cutS p h p).1 n) (3)).1 else (fewS (fun h => looksM (oM ml) n (cutS p h p).1 n) (3)).2))] := by
              refine r_end_i X d_Mo_fewest_168 ?_
              first | exact ⟨rfl, rfl, rfl⟩ | (refine ⟨?_, rfl, rfl⟩; simp_all)
            refine r_ifneP X (tgt := 167) (c := w = 0) d_Mo_fewest_159 (by decide) ((by rw [← nI_0] <;> exact nI_eq (by omega) (Nat.le_of_ble_eq_true rfl))) (fun c_159 => ?_) (fun c_159 => ?_)
            · -- taken
              refine r_iload_n X 3 d_Mo_fewest_167 rfl rfl ?_
              exact V.eq hJ_2 rfl rfl rfl (by rw [show (nI (if decide (w = 0) then (fewS (fun h => looksM (oM ml) n (cutS p h p).1 n) (3)).1 else (fewS (fun h => looksM (oM ml) n (cutS p h p).1 n) (3)).2)) = (nI ((fewS (fun h => looksM (oM ml) n (cutS p h p).1 n) (3)).2)) from by first | (simp only [eq_false c_159, decide_true, decide_false, Bool.not_true, Bool.not_false, Bool.true_and, Bool.false_and, Bool.and_true, Bool.and_false, Bool.true_or, Bool.false_or, Bool.or_true, Bool.or_false, if_true, if_false, ite_true, ite_false, cond_true, cond_false, Bool.false_eq_true, reduceIte]; done) | (simp [c_159]; done) | (simp_all; done)])
            · -- not taken
              refine r_iload X 4 d_Mo_fewest_162 rfl ?_
              refine r_goto X (tgt := 168) d_Mo_fewest_164 (by decide) ?_
              exact V.eq hJ_2 rfl rfl rfl (by rw [show (nI (if decide (w = 0) then (fewS (fun h => looksM (oM ml) n (cutS p h p).1 n) (3)).1 else (fewS (fun h => looksM (oM ml) n (cutS p h p).1 n) (3)).2)) = (nI ((fewS (fun h => looksM (oM ml) n (cutS p h p).1 n) (3)).1)) from by first | (simp only [eq_true c_159, decide_true, decide_false, Bool.not_true, Bool.not_false, Bool.true_and, Bool.false_and, Bool.and_true, Bool.and_false, Bool.true_or, Bool.false_or, Bool.or_true, Bool.or_false, if_true, if_false, ite_true, ite_false, cond_true, cond_false, Bool.false_eq_true, reduceIte]; done) | (simp [c_159]; done) | (simp_all; done)])
          · -- not taken
            exact False.elim (by omega)
        | succ d_i ih_L33_1 =>
          intro i hi_L33_1 
          have hlt_L33_1 : i < 3 := by omega
          have hf : (fewS (fun h => looksM (oM ml) n (cutS p h p).1 n) i).1 ≤ 1600 := fewS_le (fun h => looksM_40 _ _ hn40 (Nat.le_refl n)) i
          have hl : looksM (oM ml) n (cutS p i p).1 n ≤ 1600 := looksM_40 _ _ hn40 (Nat.le_refl n)
          refine r_iload X 5 d_Mo_fewest_33 rfl ?_
          refine r_iconst X (v := nI (3)) d_Mo_fewest_35 (by decide) ?_
          refine r_icge X (tgt := 158) (c := 3 ≤ i) d_Mo_fewest_36 (by decide) (nI_leI (Nat.le_of_ble_eq_true rfl) (by omega)) (fun c_36_3 => ?_) (fun c_36_3 => ?_)
          · -- taken
            exact False.elim (by omega)
          · -- not taken
            refine r_iconst X (v := nI (0)) d_Mo_fewest_39 (by decide) ?_
            refine r_istore X [(6, .int (nI (0))), (0, .ref (ads o (95))), (1, .int (nI (p))), (2, .int (nI (w))), (3, .int (nI ((fewS (fun h => looksM (oM ml) n (cutS p h p).1 n) (i)).2))), (4, .int (nI ((fewS (fun h => looksM (oM ml) n (cutS p h p).1 n) (i)).1))), (5, .int (nI (i)))] d_Mo_fewest_40 (Nat.le_of_ble_eq_true rfl) rfl ?_
            refine r_iconst X (v := nI (0)) d_Mo_fewest_42 (by decide) ?_
            refine r_istore X [(7, .int (nI (0))), (6, .int (nI (0))), (0, .ref (ads o (95))), (1, .int (nI (p))), (2, .int (nI (w))), (3, .int (nI ((fewS (fun h => looksM (oM ml) n (cutS p h p).1 n) (i)).2))), (4, .int (nI ((fewS (fun h => looksM (oM ml) n (cutS p h p).1 n) (i)).1))), (5, .int (nI (i)))] d_Mo_fewest_43 (Nat.le_of_ble_eq_true rfl) rfl ?_
            have L45_4 : ∀ (d_j j : Nat), j + d_j = n → V γ o 9 mi ml 45 [(0, .ref (ads o (95))), (1, .int (nI (p))), (2, .int (nI (w))), (3, .int (nI ((fewS (fun h => looksM (oM ml) n (cutS p h p).1 n) (i)).2))), (4, .int (nI ((fewS (fun h => looksM (oM ml) n (cutS p h p).1 n) (i)).1))), (5, .int (nI (i))), (6, .int (nI (looksM (oM ml) n (cutS p i p).1 (j)))), (7, .int (nI (j)))] [] := by
              intro d_j
              induction d_j with
              | zero =>
                intro j hi_L45_4 
                have he_L45_4 : n = j := by omega
                subst he_L45_4
                refine r_iload X 7 d_Mo_fewest_45 rfl ?_
                refine r_aload_n X 0 d_Mo_fewest_47 rfl rfl ?_
                refine r_callV X (m_Mo_marks l o mi ml n (hn) hn40) ok_Mo_marks w_Mo_59 rfl b_95 e_95 rfl ⟨Nat.le_of_ble_eq_true rfl, Nat.le_of_ble_eq_true rfl⟩ (rest := [.int (nI (n))]) rfl (Nat.le_of_ble_eq_true rfl) d_Mo_fewest_48 ?_
                refine kD (st' := [.int (nI (n)), .int (nI (n))]) rfl ?_
                refine r_icge X (tgt := 112) (c := n ≤ n) d_Mo_fewest_51 (by decide) (nI_leI (by omega) (by omega)) (fun c_51 => ?_) (fun c_51 => ?_)
                · -- taken
                  refine r_iload X 5 d_Mo_fewest_112 rfl ?_
                  have hJ_5 : V γ o 9 mi ml 130 [(0, .ref (ads o (95))), (1, .int (nI (p))), (2, .int (nI (w))), (3, .int (nI ((fewS (fun h => looksM (oM ml) n (cutS p h p).1 n) (i)).2))), (4, .int (nI ((fewS (fun h => looksM (oM ml) n (cutS p h p).1 n) (i)).1))), (5, .int (nI (i))), (6, .int (nI (looksM (oM ml) n (cutS p i p).1 (n)))), (7, .int (nI (n)))] [.int (nI (if (decide (i ≤ 0) || decide (((fewS (fun h => looksM (oM ml) n (cutS p h p).1 n) (i)).1) ≤ (looksM (oM ml) n (cutS p i p).1 (n)))) then (fewS (fun h => looksM (oM ml) n (cutS p h p).1 n) (i)).2 else i))] := by
                    refine r_istore_n X [(3, .int (nI (if (decide (i ≤ 0) || decide (((fewS (fun h => looksM (oM ml) n (cutS p h p).1 n) (i)).1) ≤ (looksM (oM ml) n (cutS p i p).1 (n)))) then (fewS (fun h => looksM (oM ml) n (cutS p h p).1 n) (i)).2 else i))), (0, .ref (ads o (95))), (1, .int (nI (p))), (2, .int (nI (w))), (4, .int (nI ((fewS (fun h => looksM (oM ml) n (cutS p h p).1 n) (i)).1))), (5, .int (nI (i))), (6, .int (nI (looksM (oM ml) n (cutS p i p).1 (n)))), (7, .int (nI (n)))] d_Mo_fewest_130 rfl (Nat.le_of_ble_eq_true rfl) rfl ?_
                    refine r_iload X 5 d_Mo_fewest_131 rfl ?_
                    have hJ_6 : V γ o 9 mi ml 150 [(3, .int (nI (if (decide (i ≤ 0) || decide (((fewS (fun h => looksM (oM ml) n (cutS p h p).1 n) (i)).1) ≤ (looksM (oM ml) n (cutS p i p).1 (n)))) then (fewS (fun h => looksM (oM ml) n (cutS p h p).1 n) (i)).2 else i))), (0, .ref (ads o (95))), (1, .int (nI (p))), (2, .int (nI (w))), (4, .int (nI ((fewS (fun h => looksM (oM ml) n (cutS p h p).1 n) (i)).1))), (5, .int (nI (i))), (6, .int (nI (looksM (oM ml) n (cutS p i p).1 (n)))), (7, .int (nI (n)))] [.int (nI (if (decide (i = 0) || !decide (((fewS (fun h => looksM (oM ml) n (cutS p h p).1 n) (i)).1) ≤ (looksM (oM ml) n (cutS p i p).1 (n)))) then looksM (oM ml) n (cutS p i p).1 (n) else (fewS (fun h => looksM (oM ml) n (cutS p h p).1 n) (i)).1))] := by
                      refine r_istore X [(4, .int (nI (if (decide (i = 0) || !decide (((fewS (fun h => looksM (oM ml) n (cutS p h p).1 n) (i)).1) ≤ (looksM (oM ml) n (cutS p i p).1 (n)))) then looksM (oM ml) n (cutS p i p).1 (n) else (fewS (fun h => looksM (oM ml) n (cutS p h p).1 n) (i)).1))), (3, .int (nI (if (decide (i ≤ 0) || decide (((fewS (fun h => looksM (oM ml) n (cutS p h p).1 n) (i)).1) ≤ (looksM (oM ml) n (cutS p i p).1 (n)))) then (fewS (fun h => looksM (oM ml) n (cutS p h p).1 n) (i)).2 else i))), (0, .ref (ads o (95))), (1, .int (nI (p))), (2, .int (nI (w))), (5, .int (nI (i))), (6, .int (nI (looksM (oM ml) n (cutS p i p).1 (n)))), (7, .int (nI (n)))] d_Mo_fewest_150 (Nat.le_of_ble_eq_true rfl) rfl ?_
                      refine r_iinc X 5 (v := nI (i + 1)) [(5, .int (nI (i + 1))), (4, .int (nI (if (decide (i = 0) || !decide (((fewS (fun h => looksM (oM ml) n (cutS p h p).1 n) (i)).1) ≤ (looksM (oM ml) n (cutS p i p).1 (n)))) then looksM (oM ml) n (cutS p i p).1 (n) else (fewS (fun h => looksM (oM ml) n (cutS p h p).1 n) (i)).1))), (3, .int (nI (if (decide (i ≤ 0) || decide (((fewS (fun h => looksM (oM ml) n (cutS p h p).1 n) (i)).1) ≤ (looksM (oM ml) n (cutS p i p).1 (n)))) then (fewS (fun h => looksM (oM ml) n (cutS p h p).1 n) (i)).2 else i))), (0, .ref (ads o (95))), (1, .int (nI (p))), (2, .int (nI (w))), (6, .int (nI (looksM (oM ml) n (cutS p i p).1 (n)))), (7, .int (nI (n)))] d_Mo_fewest_152 rfl (nI_add _ 1) (Nat.le_of_ble_eq_true rfl) rfl ?_
                      refine r_goto X (tgt := 33) d_Mo_fewest_155 (by decide) ?_
                      refine V.wk [3, 4, 5, 2, 1, 0] (V.eq (ih_L33_1 (i + 1) (by omega) ) ?_ ?_ ?_ rfl) (rfl : lv_pick _ [3, 4, 5, 2, 1, 0] = [(0, .ref (ads o (95))), (1, .int (nI (p))), (2, .int (nI (w))), (3, .int (nI (if (decide (i ≤ 0) || decide (((fewS (fun h => looksM (oM ml) n (cutS p h p).1 n) (i)).1) ≤ (looksM (oM ml) n (cutS p i p).1 (n)))) then (fewS (fun h => looksM (oM ml) n (cutS p h p).1 n) (i)).2 else i))), (4, .int (nI (if (decide (i = 0) || !decide (((fewS (fun h => looksM (oM ml) n (cutS p h p).1 n) (i)).1) ≤ (looksM (oM ml) n (cutS p i p).1 (n)))) then looksM (oM ml) n (cutS p i p).1 (n) else (fewS (fun h => looksM (oM ml) n (cutS p h p).1 n) (i)).1))), (5, .int (nI (i + 1)))])
                      · rfl
                      · rfl
                      · first | rfl | (simp_all [ct, lastB, alB, fromB]; done)
                    refine r_ifeq X (tgt := 143) (c := i = 0) d_Mo_fewest_133 (by decide) ((by rw [← nI_0] <;> exact nI_eq (by omega) (Nat.le_of_ble_eq_true rfl))) (fun c_133 => ?_) (fun c_133 => ?_)
                    · -- taken
                      refine r_iload X 6 d_Mo_fewest_143 rfl ?_
                      refine r_goto X (tgt := 150) d_Mo_fewest_145 (by decide) ?_
                      exact V.eq hJ_6 rfl rfl rfl (by rw [show (nI (if (decide (i = 0) || !decide (((fewS (fun h => looksM (oM ml) n (cutS p h p).1 n) (i)).1) ≤ (looksM (oM ml) n (cutS p i p).1 (n)))) then looksM (oM ml) n (cutS p i p).1 (n) else (fewS (fun h => looksM (oM ml) n (cutS p h p).1 n) (i)).1)) = (nI (looksM (oM ml) n (cutS p i p).1 (n))) from by first | (simp only [eq_true c_133, decide_true, decide_false, Bool.not_true, Bool.not_false, Bool.true_and, Bool.false_and, Bool.and_true, Bool.and_false, Bool.true_or, Bool.false_or, Bool.or_true, Bool.or_false, if_true, if_false, ite_true, ite_false, cond_true, cond_false, Bool.false_eq_true, reduceIte]; done) | (simp [c_133]; done) | (simp_all; done)])
                    · -- not taken
                      refine r_iload X 6 d_Mo_fewest_136 rfl ?_
                      refine r_iload X 4 d_Mo_fewest_138 rfl ?_
                      refine r_icge X (tgt := 148) (c := ((fewS (fun h => looksM (oM ml) n (cutS p h p).1 n) (i)).1) ≤ (looksM (oM ml) n (cutS p i p).1 (n))) d_Mo_fewest_140 (by decide) (nI_leI (by omega) (by omega)) (fun c_140 => ?_) (fun c_140 => ?_)
                      · -- taken
                        refine r_iload X 4 d_Mo_fewest_148 rfl ?_
                        exact V.eq hJ_6 rfl rfl rfl (by rw [show (nI (if (decide (i = 0) || !decide (((fewS (fun h => looksM (oM ml) n (cutS p h p).1 n) (i)).1) ≤ (looksM (oM ml) n (cutS p i p).1 (n)))) then looksM (oM ml) n (cutS p i p).1 (n) else (fewS (fun h => looksM (oM ml) n (cutS p h p).1 n) (i)).1)) = (nI ((fewS (fun h => looksM (oM ml) n (cutS p h p).1 n) (i)).1)) from by first | (simp only [eq_false c_133, eq_true c_140, decide_true, decide_false, Bool.not_true, Bool.not_false, Bool.true_and, Bool.false_and, Bool.and_true, Bool.and_false, Bool.true_or, Bool.false_or, Bool.or_true, Bool.or_false, if_true, if_false, ite_true, ite_false, cond_true, cond_false, Bool.false_eq_true, reduceIte]; done) | (simp [c_133, c_140]; done) | (simp_all; done)])
                      · -- not taken
                        refine r_iload X 6 d_Mo_fewest_143 rfl ?_
                        refine r_goto X (tgt := 150) d_Mo_fewest_145 (by decide) ?_
                        exact V.eq hJ_6 rfl rfl rfl (by rw [show (nI (if (decide (i = 0) || !decide (((fewS (fun h => looksM (oM ml) n (cutS p h p).1 n) (i)).1) ≤ (looksM (oM ml) n (cutS p i p).1 (n)))) then looksM (oM ml) n (cutS p i p).1 (n) else (fewS (fun h => looksM (oM ml) n (cutS p h p).1 n) (i)).1)) = (nI (looksM (oM ml) n (cutS p i p).1 (n))) from by first | (simp only [eq_false c_133, eq_false c_140, decide_true, decide_false, Bool.not_true, Bool.not_false, Bool.true_and, Bool.false_and, Bool.and_true, Bool.and_false, Bool.true_or, Bool.false_or, Bool.or_true, Bool.or_false, if_true, if_false, ite_true, ite_false, cond_true, cond_false, Bool.false_eq_true, reduceIte]; done) | (simp [c_133, c_140]; done) | (simp_all; done)])
                  refine r_ifle X (tgt := 129) (c := i ≤ 0) d_Mo_fewest_114 (by decide) ((by rw [← nI_0] <;> exact nI_leI (by omega) (Nat.le_of_ble_eq_true rfl))) (fun c_114 => ?_) (fun c_114 => ?_)
                  · -- taken
                    refine r_iload_n X 3 d_Mo_fewest_129 rfl rfl ?_
                    exact V.eq hJ_5 rfl rfl rfl (by rw [show (nI (if (decide (i ≤ 0) || decide (((fewS (fun h => looksM (oM ml) n (cutS p h p).1 n) (i)).1) ≤ (looksM (oM ml) n (cutS p i p).1 (n)))) then (fewS (fun h => looksM (oM ml) n (cutS p h p).1 n) (i)).2 else i)) = (nI ((fewS (fun h => looksM (oM ml) n (cutS p h p).1 n) (i)).2)) from by first | (simp only [eq_true c_114, decide_true, decide_false, Bool.not_true, Bool.not_false, Bool.true_and, Bool.false_and, Bool.and_true, Bool.and_false, Bool.true_or, Bool.false_or, Bool.or_true, Bool.or_false, if_true, if_false, ite_true, ite_false, cond_true, cond_false, Bool.false_eq_true, reduceIte]; done) | (simp [c_114]; done) | (simp_all; done)])
                  · -- not taken
                    refine r_iload X 6 d_Mo_fewest_117 rfl ?_
                    refine r_iload X 4 d_Mo_fewest_119 rfl ?_
                    refine r_icge X (tgt := 129) (c := ((fewS (fun h => looksM (oM ml) n (cutS p h p).1 n) (i)).1) ≤ (looksM (oM ml) n (cutS p i p).1 (n))) d_Mo_fewest_121 (by decide) (nI_leI (by omega) (by omega)) (fun c_121 => ?_) (fun c_121 => ?_)
                    · -- taken
                      refine r_iload_n X 3 d_Mo_fewest_129 rfl rfl ?_
                      exact V.eq hJ_5 rfl rfl rfl (by rw [show (nI (if (decide (i ≤ 0) || decide (((fewS (fun h => looksM (oM ml) n (cutS p h p).1 n) (i)).1) ≤ (looksM (oM ml) n (cutS p i p).1 (n)))) then (fewS (fun h => looksM (oM ml) n (cutS p h p).1 n) (i)).2 else i)) = (nI ((fewS (fun h => looksM (oM ml) n (cutS p h p).1 n) (i)).2)) from by first | (simp only [eq_false c_114, eq_true c_121, decide_true, decide_false, Bool.not_true, Bool.not_false, Bool.true_and, Bool.false_and, Bool.and_true, Bool.and_false, Bool.true_or, Bool.false_or, Bool.or_true, Bool.or_false, if_true, if_false, ite_true, ite_false, cond_true, cond_false, Bool.false_eq_true, reduceIte]; done) | (simp [c_114, c_121]; done) | (simp_all; done)])
                    · -- not taken
                      refine r_iload X 5 d_Mo_fewest_124 rfl ?_
                      refine r_goto X (tgt := 130) d_Mo_fewest_126 (by decide) ?_
                      exact V.eq hJ_5 rfl rfl rfl (by rw [show (nI (if (decide (i ≤ 0) || decide (((fewS (fun h => looksM (oM ml) n (cutS p h p).1 n) (i)).1) ≤ (looksM (oM ml) n (cutS p i p).1 (n)))) then (fewS (fun h => looksM (oM ml) n (cutS p h p).1 n) (i)).2 else i)) = (nI (i)) from by first | (simp only [eq_false c_114, eq_false c_121, decide_true, decide_false, Bool.not_true, Bool.not_false, Bool.true_and, Bool.false_and, Bool.and_true, Bool.and_false, Bool.true_or, Bool.false_or, Bool.or_true, Bool.or_false, if_true, if_false, ite_true, ite_false, cond_true, cond_false, Bool.false_eq_true, reduceIte]; done) | (simp [c_114, c_121]; done) | (simp_all; done)])
                · -- not taken
                  exact False.elim (by omega)
              | succ d_j ih_L45_4 =>
                intro j hi_L45_4 
                have hlt_L45_4 : j < n := by omega
                refine r_iload X 7 d_Mo_fewest_45 rfl ?_
                refine r_aload_n X 0 d_Mo_fewest_47 rfl rfl ?_
                refine r_callV X (m_Mo_marks l o mi ml n (hn) hn40) ok_Mo_marks w_Mo_59 rfl b_95 e_95 rfl ⟨Nat.le_of_ble_eq_true rfl, Nat.le_of_ble_eq_true rfl⟩ (rest := [.int (nI (j))]) rfl (Nat.le_of_ble_eq_true rfl) d_Mo_fewest_48 ?_
                refine kD (st' := [.int (nI (n)), .int (nI (j))]) rfl ?_
                refine r_icge X (tgt := 112) (c := n ≤ j) d_Mo_fewest_51 (by decide) (nI_leI (by omega) (by omega)) (fun c_51_7 => ?_) (fun c_51_7 => ?_)
                · -- taken
                  exact False.elim (by omega)
                · -- not taken
                  refine r_iconst X (v := nI (0)) d_Mo_fewest_54 (by decide) ?_
                  refine r_istore X [(8, .int (nI (0))), (0, .ref (ads o (95))), (1, .int (nI (p))), (2, .int (nI (w))), (3, .int (nI ((fewS (fun h => looksM (oM ml) n (cutS p h p).1 n) (i)).2))), (4, .int (nI ((fewS (fun h => looksM (oM ml) n (cutS p h p).1 n) (i)).1))), (5, .int (nI (i))), (6, .int (nI (looksM (oM ml) n (cutS p i p).1 (j)))), (7, .int (nI (j)))] d_Mo_fewest_55 (Nat.le_of_ble_eq_true rfl) rfl ?_
                  have L57_8 : ∀ (d_q q : Nat), q + d_q = n → V γ o 9 mi ml 57 [(0, .ref (ads o (95))), (1, .int (nI (p))), (2, .int (nI (w))), (3, .int (nI ((fewS (fun h => looksM (oM ml) n (cutS p h p).1 n) (i)).2))), (4, .int (nI ((fewS (fun h => looksM (oM ml) n (cutS p h p).1 n) (i)).1))), (5, .int (nI (i))), (6, .int (nI (looksM (oM ml) n (cutS p i p).1 j + ct (fun t => lk (oM ml j) (oM ml t) (cutS p i p).1) (q)))), (7, .int (nI (j))), (8, .int (nI (q)))] [] := by
                    intro d_q
                    induction d_q with
                    | zero =>
                      intro q hi_L57_8 
                      have he_L57_8 : n = q := by omega
                      subst he_L57_8
                      refine r_iload X 8 d_Mo_fewest_57 rfl ?_
                      refine r_aload_n X 0 d_Mo_fewest_59 rfl rfl ?_
                      refine r_callV X (m_Mo_marks l o mi ml n (hn) hn40) ok_Mo_marks w_Mo_59 rfl b_95 e_95 rfl ⟨Nat.le_of_ble_eq_true rfl, Nat.le_of_ble_eq_true rfl⟩ (rest := [.int (nI (n))]) rfl (Nat.le_of_ble_eq_true rfl) d_Mo_fewest_60 ?_
                      refine kD (st' := [.int (nI (n)), .int (nI (n))]) rfl ?_
                      refine r_icge X (tgt := 106) (c := n ≤ n) d_Mo_fewest_63 (by decide) (nI_leI (by omega) (by omega)) (fun c_63 => ?_) (fun c_63 => ?_)
                      · -- taken
                        refine r_iinc X 7 (v := nI (j + 1)) [(7, .int (nI (j + 1))), (0, .ref (ads o (95))), (1, .int (nI (p))), (2, .int (nI (w))), (3, .int (nI ((fewS (fun h => looksM (oM ml) n (cutS p h p).1 n) (i)).2))), (4, .int (nI ((fewS (fun h => looksM (oM ml) n (cutS p h p).1 n) (i)).1))), (5, .int (nI (i))), (6, .int (nI (looksM (oM ml) n (cutS p i p).1 j + ct (fun t => lk (oM ml j) (oM ml t) (cutS p i p).1) (n)))), (8, .int (nI (n)))] d_Mo_fewest_106 rfl (nI_add _ 1) (Nat.le_of_ble_eq_true rfl) rfl ?_
                        refine r_goto X (tgt := 45) d_Mo_fewest_109 (by decide) ?_
                        refine V.wk [1, 2, 3, 4, 5, 6, 7, 0] (V.eq (ih_L45_4 (j + 1) (by omega) ) ?_ ?_ ?_ rfl) (rfl : lv_pick _ [1, 2, 3, 4, 5, 6, 7, 0] = [(0, .ref (ads o (95))), (1, .int (nI (p))), (2, .int (nI (w))), (3, .int (nI ((fewS (fun h => looksM (oM ml) n (cutS p h p).1 n) (i)).2))), (4, .int (nI ((fewS (fun h => looksM (oM ml) n (cutS p h p).1 n) (i)).1))), (5, .int (nI (i))), (6, .int (nI (looksM (oM ml) n (cutS p i p).1 j + ct (fun t => lk (oM ml j) (oM ml t) (cutS p i p).1) (n)))), (7, .int (nI (j + 1)))])
                        · rfl
                        · rfl
                        · first | rfl | (simp_all [ct, lastB, alB, fromB]; done)
                      · -- not taken
                        exact False.elim (by omega)
                    | succ d_q ih_L57_8 =>
                      intro q hi_L57_8 
                      have hlt_L57_8 : q < n := by omega
                      refine r_iload X 8 d_Mo_fewest_57 rfl ?_
                      refine r_aload_n X 0 d_Mo_fewest_59 rfl rfl ?_
                      refine r_callV X (m_Mo_marks l o mi ml n (hn) hn40) ok_Mo_marks w_Mo_59 rfl b_95 e_95 rfl ⟨Nat.le_of_ble_eq_true rfl, Nat.le_of_ble_eq_true rfl⟩ (rest := [.int (nI (q))]) rfl (Nat.le_of_ble_eq_true rfl) d_Mo_fewest_60 ?_
                      refine kD (st' := [.int (nI (n)), .int (nI (q))]) rfl ?_
                      refine r_icge X (tgt := 106) (c := n ≤ q) d_Mo_fewest_63 (by decide) (nI_leI (by omega) (by omega)) (fun c_63_9 => ?_) (fun c_63_9 => ?_)
                      · -- taken
                        exact False.elim (by omega)
                      · -- not taken
                        refine r_iload X 6 d_Mo_fewest_66 rfl ?_
                        refine r_aload_n X 0 d_Mo_fewest_68 rfl rfl ?_
                        refine r_iload X 7 d_Mo_fewest_69 rfl ?_
                        refine r_callV X (m_Mo_own l o mi ml j (by omega)) ok_Mo_own w_Mo_67 rfl b_95 e_95 rfl ⟨Nat.le_of_ble_eq_true rfl, Nat.le_of_ble_eq_true rfl⟩ (rest := [.int (nI (looksM (oM ml) n (cutS p i p).1 j + ct (fun t => lk (oM ml j) (oM ml t) (cutS p i p).1) (q)))]) rfl (Nat.le_of_ble_eq_true rfl) d_Mo_fewest_71 ?_
                        refine kD (st' := [.long (oM ml j), .int (nI (looksM (oM ml) n (cutS p i p).1 j + ct (fun t => lk (oM ml j) (oM ml t) (cutS p i p).1) (q)))]) rfl ?_
                        refine r_aload_n X 0 d_Mo_fewest_74 rfl rfl ?_
                        refine r_iload X 8 d_Mo_fewest_75 rfl ?_
                        refine r_callV X (m_Mo_own l o mi ml q (by omega)) ok_Mo_own w_Mo_67 rfl b_95 e_95 rfl ⟨Nat.le_of_ble_eq_true rfl, Nat.le_of_ble_eq_true rfl⟩ (rest := [.long (oM ml j), .int (nI (looksM (oM ml) n (cutS p i p).1 j + ct (fun t => lk (oM ml j) (oM ml t) (cutS p i p).1) (q)))]) rfl (Nat.le_of_ble_eq_true rfl) d_Mo_fewest_77 ?_
                        refine kD (st' := [.long (oM ml q), .long (oM ml j), .int (nI (looksM (oM ml) n (cutS p i p).1 j + ct (fun t => lk (oM ml j) (oM ml t) (cutS p i p).1) (q)))]) rfl ?_
                        refine r_iload_n X 1 d_Mo_fewest_80 rfl rfl ?_
                        refine r_iload X 5 d_Mo_fewest_81 rfl ?_
                        refine r_callS X (m_Mo_cutBy l o mi ml p i (by omega) (by omega) (by omega)) ok_Mo_cutBy w_Mo_222 rfl ⟨Nat.le_of_ble_eq_true rfl, Nat.le_of_ble_eq_true rfl⟩ (rest := [.long (oM ml q), .long (oM ml j), .int (nI (looksM (oM ml) n (cutS p i p).1 j + ct (fun t => lk (oM ml j) (oM ml t) (cutS p i p).1) (q)))]) rfl (Nat.le_of_ble_eq_true rfl) d_Mo_fewest_83 ?_
                        refine kD (st' := [.long ((cutS p i p).1), .long (oM ml q), .long (oM ml j), .int (nI (looksM (oM ml) n (cutS p i p).1 j + ct (fun t => lk (oM ml j) (oM ml t) (cutS p i p).1) (q)))]) rfl ?_
                        refine r_callS X (m_Mo_isLooked l o mi ml (oM ml j) (oM ml q) ((cutS p i p).1)) ok_Mo_isLooked w_Mo_79 rfl ⟨Nat.le_of_ble_eq_true rfl, Nat.le_of_ble_eq_true rfl⟩ (rest := [.int (nI (looksM (oM ml) n (cutS p i p).1 j + ct (fun t => lk (oM ml j) (oM ml t) (cutS p i p).1) (q)))]) rfl (Nat.le_of_ble_eq_true rfl) d_Mo_fewest_86 ?_
                        refine kD (st' := [.int (bI (lk (oM ml j) (oM ml q) ((cutS p i p).1))), .int (nI (looksM (oM ml) n (cutS p i p).1 j + ct (fun t => lk (oM ml j) (oM ml t) (cutS p i p).1) (q)))]) rfl ?_
                        have hJ_10 : V γ o 9 mi ml 97 [(0, .ref (ads o (95))), (1, .int (nI (p))), (2, .int (nI (w))), (3, .int (nI ((fewS (fun h => looksM (oM ml) n (cutS p h p).1 n) (i)).2))), (4, .int (nI ((fewS (fun h => looksM (oM ml) n (cutS p h p).1 n) (i)).1))), (5, .int (nI (i))), (6, .int (nI (looksM (oM ml) n (cutS p i p).1 j + ct (fun t => lk (oM ml j) (oM ml t) (cutS p i p).1) (q)))), (7, .int (nI (j))), (8, .int (nI (q)))] [.int (bI ((lk (oM ml j) (oM ml q) ((cutS p i p).1)))), .int (nI (looksM (oM ml) n (cutS p i p).1 j + ct (fun t => lk (oM ml j) (oM ml t) (cutS p i p).1) (q)))] := by
                          refine r_iadd X (v := nI (looksM (oM ml) n (cutS p i p).1 j + ct (fun t => lk (oM ml j) (oM ml t) (cutS p i p).1) (q) + ((lk (oM ml j) (oM ml q) ((cutS p i p).1))).toNat)) d_Mo_fewest_97 (bI_add _ _) ?_
                          refine r_istore X [(6, .int (nI (looksM (oM ml) n (cutS p i p).1 j + ct (fun t => lk (oM ml j) (oM ml t) (cutS p i p).1) (q) + ((lk (oM ml j) (oM ml q) ((cutS p i p).1))).toNat))), (0, .ref (ads o (95))), (1, .int (nI (p))), (2, .int (nI (w))), (3, .int (nI ((fewS (fun h => looksM (oM ml) n (cutS p h p).1 n) (i)).2))), (4, .int (nI ((fewS (fun h => looksM (oM ml) n (cutS p h p).1 n) (i)).1))), (5, .int (nI (i))), (7, .int (nI (j))), (8, .int (nI (q)))] d_Mo_fewest_98 (Nat.le_of_ble_eq_true rfl) rfl ?_
                          refine r_iinc X 8 (v := nI (q + 1)) [(8, .int (nI (q + 1))), (6, .int (nI (looksM (oM ml) n (cutS p i p).1 j + ct (fun t => lk (oM ml j) (oM ml t) (cutS p i p).1) (q) + ((lk (oM ml j) (oM ml q) ((cutS p i p).1))).toNat))), (0, .ref (ads o (95))), (1, .int (nI (p))), (2, .int (nI (w))), (3, .int (nI ((fewS (fun h => looksM (oM ml) n (cutS p h p).1 n) (i)).2))), (4, .int (nI ((fewS (fun h => looksM (oM ml) n (cutS p h p).1 n) (i)).1))), (5, .int (nI (i))), (7, .int (nI (j)))] d_Mo_fewest_100 rfl (nI_add _ 1) (Nat.le_of_ble_eq_true rfl) rfl ?_
                          refine r_goto X (tgt := 57) d_Mo_fewest_103 (by decide) ?_
                          refine V.wk [2, 3, 4, 5, 6, 7, 1, 8, 0] (V.eq (ih_L57_8 (q + 1) (by omega) ) ?_ ?_ ?_ rfl) (rfl : lv_pick _ [2, 3, 4, 5, 6, 7, 1, 8, 0] = [(0, .ref (ads o (95))), (1, .int (nI (p))), (2, .int (nI (w))), (3, .int (nI ((fewS (fun h => looksM (oM ml) n (cutS p h p).1 n) (i)).2))), (4, .int (nI ((fewS (fun h => looksM (oM ml) n (cutS p h p).1 n) (i)).1))), (5, .int (nI (i))), (6, .int (nI (looksM (oM ml) n (cutS p i p).1 j + ct (fun t => lk (oM ml j) (oM ml t) (cutS p i p).1) (q) + ((lk (oM ml j) (oM ml q) ((cutS p i p).1))).toNat))), (7, .int (nI (j))), (8, .int (nI (q + 1)))])
                          · rfl
                          · rfl
                          · simp only [ct, Nat.add_assoc]
                        refine r_ifeqB X (tgt := 96) (b := lk (oM ml j) (oM ml q) ((cutS p i p).1)) d_Mo_fewest_89 (by decide) (fun c_89 => ?_) (fun c_89 => ?_)
                        · -- taken
                          refine r_iconst X (v := nI (0)) d_Mo_fewest_96 (by decide) ?_
                          exact V.eq hJ_10 rfl rfl rfl (by rw [show ((lk (oM ml j) (oM ml q) ((cutS p i p).1))) = false from by first | (simp only [c_89, decide_true, decide_false, Bool.not_true, Bool.not_false, Bool.true_and, Bool.false_and, Bool.and_true, Bool.and_false, Bool.true_or, Bool.false_or, Bool.or_true, Bool.or_false, if_true, if_false, ite_true, ite_false, cond_true, cond_false, Bool.false_eq_true, reduceIte]; done) | (simp [c_89]; done) | (simp_all; done)]; rfl)
                        · -- not taken
                          refine r_iconst X (v := nI (1)) d_Mo_fewest_92 (by decide) ?_
                          refine r_goto X (tgt := 97) d_Mo_fewest_93 (by decide) ?_
                          exact V.eq hJ_10 rfl rfl rfl (by rw [show ((lk (oM ml j) (oM ml q) ((cutS p i p).1))) = true from by first | (simp only [c_89, decide_true, decide_false, Bool.not_true, Bool.not_false, Bool.true_and, Bool.false_and, Bool.and_true, Bool.and_false, Bool.true_or, Bool.false_or, Bool.or_true, Bool.or_false, if_true, if_false, ite_true, ite_false, cond_true, cond_false, Bool.false_eq_true, reduceIte]; done) | (simp [c_89]; done) | (simp_all; done)]; rfl)
                  refine V.wk [1, 2, 3, 4, 5, 6, 7, 8, 0] (V.eq (L57_8 (n - 0) 0 (by omega) ) ?_ ?_ ?_ rfl) (rfl : lv_pick _ [1, 2, 3, 4, 5, 6, 7, 8, 0] = [(0, .ref (ads o (95))), (1, .int (nI (p))), (2, .int (nI (w))), (3, .int (nI ((fewS (fun h => looksM (oM ml) n (cutS p h p).1 n) (i)).2))), (4, .int (nI ((fewS (fun h => looksM (oM ml) n (cutS p h p).1 n) (i)).1))), (5, .int (nI (i))), (6, .int (nI (looksM (oM ml) n (cutS p i p).1 (j)))), (7, .int (nI (j))), (8, .int (nI (0)))])
                  · rfl
                  · rfl
                  · rfl
            refine V.wk [2, 3, 4, 5, 6, 7, 1, 0] (V.eq (L45_4 (n - 0) 0 (by omega) ) ?_ ?_ ?_ rfl) (rfl : lv_pick _ [2, 3, 4, 5, 6, 7, 1, 0] = [(0, .ref (ads o (95))), (1, .int (nI (p))), (2, .int (nI (w))), (3, .int (nI ((fewS (fun h => looksM (oM ml) n (cutS p h p).1 n) (i)).2))), (4, .int (nI ((fewS (fun h => looksM (oM ml) n (cutS p h p).1 n) (i)).1))), (5, .int (nI (i))), (6, .int (nI (0))), (7, .int (nI (0)))])
            · rfl
            · rfl
            · rfl
      refine V.wk [3, 4, 5, 2, 1, 0] (V.eq (L33_1 (3 - 0) 0 (by omega) ) ?_ ?_ ?_ rfl) (rfl : lv_pick _ [3, 4, 5, 2, 1, 0] = [(0, .ref (ads o (95))), (1, .int (nI (p))), (2, .int (nI (w))), (3, .int (nI (0))), (4, .int (nI (0))), (5, .int (nI (0)))])
      · rfl
      · rfl
      · rfl
    · -- not taken
      exact False.elim (by have e := in_nat (a := 0) (j := w) (m := 1) (by omega) (by omega) (by decide); exact absurd (c_19.symm.trans e) (by decide))

set_option maxHeartbeats 4000000 in
set_option maxRecDepth 100000 in
theorem m_Mo_told (l : Launch) (o : OM) (mi : MI) (ml : ML) (w : Int32) (n : Nat) (s : Nat) (E : Nat) (B1 : Nat → Nat) (B2 : Nat → Nat) (c : Nat) (hn : ml 96 2 = lN n) (hn40 : n ≤ 40) (hs : mi 95 10 = nI s) (hs6 : s ≤ 6) (hE : mi 95 13 = nI E) (hE20 : E ≤ 20) (hc : mi 95 2 = nI c) (hc20 : c ≤ 20) (hB1 : ∀ e, e < E → mi 106 e = nI (B1 e) ∧ B1 e < 40) (hB2 : ∀ e, e < E → mi 107 e = nI (B2 e) ∧ B2 e < 40) : Con l y_Mo_told c_Mo_told 2 (some .int) 8 270 o [.ref (ads o (95)), .int (w)] mi ml (fun v a b => v = some (.int (oI (ix w 17) (-1000000002 : Int32) (toldM mi ml n s E B1 B2))) ∧ (∀ q, q ≠ 110 → a q = mi q) ∧ b = ml) := by
  refine Con.mk (by decide) (Nat.le_of_ble_eq_true rfl) (fun γ X => ?_)
  show V γ o 2 mi ml 0 [(0, .ref (ads o (95))), (1, .int (w))] []
  refine r_iload_n X 1 d_Mo_told_0 rfl rfl ?_
  rcases pk_ix w (n := 17) (by decide) with hs1 | hs1 | ⟨q1, hq1, rfl⟩
  · refine r_tswOut X (tgt := 197) d_Mo_told_1 (Or.inl (tsw_lo hs1)) (by decide) ?_
    refine r_ldc X (v := ((-1000000002 : Int32))) k_Mo_144 (by decide) d_Mo_told_197 ?_
    refine r_end_i X d_Mo_told_199 ?_
    refine ⟨?_, fun _ _ => rfl, rfl⟩; rw [ix_lo hs1]; rfl
  · refine r_tswOut X (tgt := 197) d_Mo_told_1 (Or.inr (tsw_hi (by decide) hs1)) (by decide) ?_
    refine r_ldc X (v := ((-1000000002 : Int32))) k_Mo_144 (by decide) d_Mo_told_197 ?_
    refine r_end_i X d_Mo_told_199 ?_
    refine ⟨?_, fun _ _ => rfl, rfl⟩; rw [ix_hi hs1]; rfl
  · match q1, hq1 with
    | 0, _ =>
      refine r_tswIn X (off := 83) (tgt := 84) d_Mo_told_1 (by decide) (by decide) (by decide) (by decide) ?_
      refine r_aload_n X 0 d_Mo_told_84 rfl rfl ?_
      refine r_callV X (m_Mo_marks l o mi ml n (hn) hn40) ok_Mo_marks w_Mo_59 rfl b_95 e_95 rfl ⟨Nat.le_of_ble_eq_true rfl, Nat.le_of_ble_eq_true rfl⟩ (rest := []) rfl (Nat.le_of_ble_eq_true rfl) d_Mo_told_85 ?_
      refine kD (st' := [.int (nI (n))]) rfl ?_
      refine r_end_i X d_Mo_told_88 ?_
      refine ⟨?_, fun _ _ => rfl, rfl⟩; rw [show ix (nI 0) 17 = some 0 from by decide]; rfl
    | 1, _ =>
      refine r_tswIn X (off := 88) (tgt := 89) d_Mo_told_1 (by decide) (by decide) (by decide) (by decide) ?_
      refine r_aload_n X 0 d_Mo_told_89 rfl rfl ?_
      refine r_callV X (m_Mo_parts l o mi ml ) ok_Mo_parts w_Mo_86 rfl b_95 e_95 rfl ⟨Nat.le_of_ble_eq_true rfl, Nat.le_of_ble_eq_true rfl⟩ (rest := []) rfl (Nat.le_of_ble_eq_true rfl) d_Mo_told_90 ?_
      refine kD (st' := [.int (nI (pop (ml 96 1)))]) rfl ?_
      refine r_end_i X d_Mo_told_93 ?_
      refine ⟨?_, fun _ _ => rfl, rfl⟩; rw [show ix (nI 1) 17 = some 1 from by decide]; rfl
    | 2, _ =>
      refine r_tswIn X (off := 93) (tgt := 94) d_Mo_told_1 (by decide) (by decide) (by decide) (by decide) ?_
      refine r_aload_n X 0 d_Mo_told_94 rfl rfl ?_
      refine r_get X f_Mo_7 b_95 e_95 (v := .ref (ads o (96))) rfl d_Mo_told_95 ?_
      refine r_iconst X (v := nI (0)) d_Mo_told_98 (by decide) ?_
      refine r_lald X (v := ml 96 0) b_96 e_96 (Nat.le_of_ble_eq_true rfl) (by omega) rfl d_Mo_told_99 ?_
      refine r_callS X (m_Mo_ones l o mi ml (ml 96 0)) ok_Mo_ones w_Mo_71 rfl ⟨Nat.le_of_ble_eq_true rfl, Nat.le_of_ble_eq_true rfl⟩ (rest := []) rfl (Nat.le_of_ble_eq_true rfl) d_Mo_told_100 ?_
      refine kD (st' := [.int (nI (pop (ml 96 0)))]) rfl ?_
      refine r_end_i X d_Mo_told_103 ?_
      refine ⟨?_, fun _ _ => rfl, rfl⟩; rw [show ix (nI 2) 17 = some 2 from by decide]; rfl
    | 3, _ =>
      refine r_tswIn X (off := 103) (tgt := 104) d_Mo_told_1 (by decide) (by decide) (by decide) (by decide) ?_
      refine r_aload_n X 0 d_Mo_told_104 rfl rfl ?_
      refine r_aload_n X 0 d_Mo_told_105 rfl rfl ?_
      refine r_get X f_Mo_7 b_95 e_95 (v := .ref (ads o (96))) rfl d_Mo_told_106 ?_
      refine r_iconst X (v := nI (0)) d_Mo_told_109 (by decide) ?_
      refine r_lald X (v := ml 96 0) b_96 e_96 (Nat.le_of_ble_eq_true rfl) (by omega) rfl d_Mo_told_110 ?_
      refine r_callV X (m_Mo_like l o mi ml (ml 96 0) n (hn) hn40) ok_Mo_like w_Mo_120 rfl b_95 e_95 rfl ⟨Nat.le_of_ble_eq_true rfl, Nat.le_of_ble_eq_true rfl⟩ (rest := []) rfl (Nat.le_of_ble_eq_true rfl) d_Mo_told_111 ?_
      refine kD (st' := [.int ((lastB (fun k => decide (oM ml k = (ml 96 0))) n))]) rfl ?_
      refine r_end_i X d_Mo_told_114 ?_
      refine ⟨?_, fun _ _ => rfl, rfl⟩; rw [show ix (nI 3) 17 = some 3 from by decide]; rfl
    | 4, _ =>
      refine r_tswIn X (off := 114) (tgt := 115) d_Mo_told_1 (by decide) (by decide) (by decide) (by decide) ?_
      refine r_aload_n X 0 d_Mo_told_115 rfl rfl ?_
      refine r_iload_n X 1 d_Mo_told_116 rfl rfl ?_
      refine r_iconst X (v := nI (5)) d_Mo_told_117 (by decide) ?_
      have hJ_1 : V γ o 2 mi ml 126 [(0, .ref (ads o (95))), (1, .int (nI (4)))] [.int (bI (decide (4 = 5))), .ref (ads o (95))] := by
        refine r_callV X (m_Mo_looked l o mi ml (decide (4 = 5)) n (hn) hn40) ok_Mo_looked w_Mo_123 rfl b_95 e_95 rfl ⟨Nat.le_of_ble_eq_true rfl, Nat.le_of_ble_eq_true rfl⟩ (rest := []) rfl (Nat.le_of_ble_eq_true rfl) d_Mo_told_126 ?_
        refine kD (st' := [.int (nI (ct (fun k => lk (oM ml k) (ml 96 0) (ml 96 1) && (!(decide (4 = 5)) || !decide (ds (oM ml k) (ml 96 0) < pop (ml 96 1)))) n))]) rfl ?_
        refine r_end_i X d_Mo_told_129 ?_
        refine ⟨?_, fun _ _ => rfl, rfl⟩; rw [show ix (nI 4) 17 = some 4 from by decide]; rfl
      refine r_icneP X (tgt := 125) (c := 4 = 5) d_Mo_told_118 (by decide) (nI_eq (Nat.le_of_ble_eq_true rfl) (Nat.le_of_ble_eq_true rfl)) (fun c_118 => ?_) (fun c_118 => ?_)
      · -- taken
        refine r_iconst X (v := nI (0)) d_Mo_told_125 (by decide) ?_
        exact V.eq hJ_1 rfl rfl rfl (by rw [show (decide (4 = 5)) = false from by first | (simp only [eq_false c_118, decide_true, decide_false, Bool.not_true, Bool.not_false, Bool.true_and, Bool.false_and, Bool.and_true, Bool.and_false, Bool.true_or, Bool.false_or, Bool.or_true, Bool.or_false, if_true, if_false, ite_true, ite_false, cond_true, cond_false, Bool.false_eq_true, reduceIte]; done) | (simp [c_118]; done) | (simp_all; done)]; rfl)
      · -- not taken
        refine r_iconst X (v := nI (1)) d_Mo_told_121 (by decide) ?_
        refine r_goto X (tgt := 126) d_Mo_told_122 (by decide) ?_
        exact V.eq hJ_1 rfl rfl rfl (by rw [show (decide (4 = 5)) = true from by first | (simp only [eq_true c_118, decide_true, decide_false, Bool.not_true, Bool.not_false, Bool.true_and, Bool.false_and, Bool.and_true, Bool.and_false, Bool.true_or, Bool.false_or, Bool.or_true, Bool.or_false, if_true, if_false, ite_true, ite_false, cond_true, cond_false, Bool.false_eq_true, reduceIte]; done) | (simp [c_118]; done) | (simp_all; done)]; rfl)
    | 5, _ =>
      refine r_tswIn X (off := 114) (tgt := 115) d_Mo_told_1 (by decide) (by decide) (by decide) (by decide) ?_
      refine r_aload_n X 0 d_Mo_told_115 rfl rfl ?_
      refine r_iload_n X 1 d_Mo_told_116 rfl rfl ?_
      refine r_iconst X (v := nI (5)) d_Mo_told_117 (by decide) ?_
      have hJ_2 : V γ o 2 mi ml 126 [(0, .ref (ads o (95))), (1, .int (nI (5)))] [.int (bI (decide (5 = 5))), .ref (ads o (95))] := by
        refine r_callV X (m_Mo_looked l o mi ml (decide (5 = 5)) n (hn) hn40) ok_Mo_looked w_Mo_123 rfl b_95 e_95 rfl ⟨Nat.le_of_ble_eq_true rfl, Nat.le_of_ble_eq_true rfl⟩ (rest := []) rfl (Nat.le_of_ble_eq_true rfl) d_Mo_told_126 ?_
        refine kD (st' := [.int (nI (ct (fun k => lk (oM ml k) (ml 96 0) (ml 96 1) && (!(decide (5 = 5)) || !decide (ds (oM ml k) (ml 96 0) < pop (ml 96 1)))) n))]) rfl ?_
        refine r_end_i X d_Mo_told_129 ?_
        refine ⟨?_, fun _ _ => rfl, rfl⟩; rw [show ix (nI 5) 17 = some 5 from by decide]; rfl
      refine r_icneP X (tgt := 125) (c := 5 = 5) d_Mo_told_118 (by decide) (nI_eq (Nat.le_of_ble_eq_true rfl) (Nat.le_of_ble_eq_true rfl)) (fun c_118_3 => ?_) (fun c_118_3 => ?_)
      · -- taken
        refine r_iconst X (v := nI (0)) d_Mo_told_125 (by decide) ?_
        exact V.eq hJ_2 rfl rfl rfl (by rw [show (decide (5 = 5)) = false from by first | (simp only [eq_false c_118_3, decide_true, decide_false, Bool.not_true, Bool.not_false, Bool.true_and, Bool.false_and, Bool.and_true, Bool.and_false, Bool.true_or, Bool.false_or, Bool.or_true, Bool.or_false, if_true, if_false, ite_true, ite_false, cond_true, cond_false, Bool.false_eq_true, reduceIte]; done) | (simp [c_118_3]; done) | (simp_all; done)]; rfl)
      · -- not taken
        refine r_iconst X (v := nI (1)) d_Mo_told_121 (by decide) ?_
        refine r_goto X (tgt := 126) d_Mo_told_122 (by decide) ?_
        exact V.eq hJ_2 rfl rfl rfl (by rw [show (decide (5 = 5)) = true from by first | (simp only [eq_true c_118_3, decide_true, decide_false, Bool.not_true, Bool.not_false, Bool.true_and, Bool.false_and, Bool.and_true, Bool.and_false, Bool.true_or, Bool.false_or, Bool.or_true, Bool.or_false, if_true, if_false, ite_true, ite_false, cond_true, cond_false, Bool.false_eq_true, reduceIte]; done) | (simp [c_118_3]; done) | (simp_all; done)]; rfl)
    | 6, _ =>
      refine r_tswIn X (off := 129) (tgt := 130) d_Mo_told_1 (by decide) (by decide) (by decide) (by decide) ?_
      refine r_aload_n X 0 d_Mo_told_130 rfl rfl ?_
      refine r_iload_n X 1 d_Mo_told_131 rfl rfl ?_
      refine r_bipush X (v := nI (7)) d_Mo_told_132 (by decide) ?_
      have hJ_4 : V γ o 2 mi ml 142 [(0, .ref (ads o (95))), (1, .int (nI (6)))] [.int (bI (decide (6 = 7))), .ref (ads o (95))] := by
        refine r_callV X (m_Mo_first l o mi ml (decide (6 = 7)) n (hn) hn40) ok_Mo_first w_Mo_126 rfl b_95 e_95 rfl ⟨Nat.le_of_ble_eq_true rfl, Nat.le_of_ble_eq_true rfl⟩ (rest := []) rfl (Nat.le_of_ble_eq_true rfl) d_Mo_told_142 ?_
        refine kD (st' := [.int ((if (decide (6 = 7)) then (if lastB (fun k => decide (nI (ahd (fun q => ds (oM ml q) (ml 96 0)) n k) = nI 0)) n = -1 then -1 else nI (ds (oM ml (lastB (fun k => decide (nI (ahd (fun q => ds (oM ml q) (ml 96 0)) n k) = nI 0)) n).toNatClampNeg) (ml 96 0))) else lastB (fun k => decide (nI (ahd (fun q => ds (oM ml q) (ml 96 0)) n k) = nI 0)) n))]) rfl ?_
        refine r_end_i X d_Mo_told_145 ?_
        refine ⟨?_, fun _ _ => rfl, rfl⟩; rw [show ix (nI 6) 17 = some 6 from by decide]; rfl
      refine r_icneP X (tgt := 141) (c := 6 = 7) d_Mo_told_134 (by decide) (nI_eq (Nat.le_of_ble_eq_true rfl) (Nat.le_of_ble_eq_true rfl)) (fun c_134 => ?_) (fun c_134 => ?_)
      · -- taken
        refine r_iconst X (v := nI (0)) d_Mo_told_141 (by decide) ?_
        exact V.eq hJ_4 rfl rfl rfl (by rw [show (decide (6 = 7)) = false from by first | (simp only [eq_false c_134, decide_true, decide_false, Bool.not_true, Bool.not_false, Bool.true_and, Bool.false_and, Bool.and_true, Bool.and_false, Bool.true_or, Bool.false_or, Bool.or_true, Bool.or_false, if_true, if_false, ite_true, ite_false, cond_true, cond_false, Bool.false_eq_true, reduceIte]; done) | (simp [c_134]; done) | (simp_all; done)]; rfl)
      · -- not taken
        refine r_iconst X (v := nI (1)) d_Mo_told_137 (by decide) ?_
        refine r_goto X (tgt := 142) d_Mo_told_138 (by decide) ?_
        exact V.eq hJ_4 rfl rfl rfl (by rw [show (decide (6 = 7)) = true from by first | (simp only [eq_true c_134, decide_true, decide_false, Bool.not_true, Bool.not_false, Bool.true_and, Bool.false_and, Bool.and_true, Bool.and_false, Bool.true_or, Bool.false_or, Bool.or_true, Bool.or_false, if_true, if_false, ite_true, ite_false, cond_true, cond_false, Bool.false_eq_true, reduceIte]; done) | (simp [c_134]; done) | (simp_all; done)]; rfl)
    | 7, _ =>
      refine r_tswIn X (off := 129) (tgt := 130) d_Mo_told_1 (by decide) (by decide) (by decide) (by decide) ?_
      refine r_aload_n X 0 d_Mo_told_130 rfl rfl ?_
      refine r_iload_n X 1 d_Mo_told_131 rfl rfl ?_
      refine r_bipush X (v := nI (7)) d_Mo_told_132 (by decide) ?_
      have hJ_5 : V γ o 2 mi ml 142 [(0, .ref (ads o (95))), (1, .int (nI (7)))] [.int (bI (decide (7 = 7))), .ref (ads o (95))] := by
        refine r_callV X (m_Mo_first l o mi ml (decide (7 = 7)) n (hn) hn40) ok_Mo_first w_Mo_126 rfl b_95 e_95 rfl ⟨Nat.le_of_ble_eq_true rfl, Nat.le_of_ble_eq_true rfl⟩ (rest := []) rfl (Nat.le_of_ble_eq_true rfl) d_Mo_told_142 ?_
        refine kD (st' := [.int ((if (decide (7 = 7)) then (if lastB (fun k => decide (nI (ahd (fun q => ds (oM ml q) (ml 96 0)) n k) = nI 0)) n = -1 then -1 else nI (ds (oM ml (lastB (fun k => decide (nI (ahd (fun q => ds (oM ml q) (ml 96 0)) n k) = nI 0)) n).toNatClampNeg) (ml 96 0))) else lastB (fun k => decide (nI (ahd (fun q => ds (oM ml q) (ml 96 0)) n k) = nI 0)) n))]) rfl ?_
        refine r_end_i X d_Mo_told_145 ?_
        refine ⟨?_, fun _ _ => rfl, rfl⟩; rw [show ix (nI 7) 17 = some 7 from by decide]; rfl
      refine r_icneP X (tgt := 141) (c := 7 = 7) d_Mo_told_134 (by decide) (nI_eq (Nat.le_of_ble_eq_true rfl) (Nat.le_of_ble_eq_true rfl)) (fun c_134_6 => ?_) (fun c_134_6 => ?_)
      · -- taken
        refine r_iconst X (v := nI (0)) d_Mo_told_141 (by decide) ?_
        exact V.eq hJ_5 rfl rfl rfl (by rw [show (decide (7 = 7)) = false from by first | (simp only [eq_false c_134_6, decide_true, decide_false, Bool.not_true, Bool.not_false, Bool.true_and, Bool.false_and, Bool.and_true, Bool.and_false, Bool.true_or, Bool.false_or, Bool.or_true, Bool.or_false, if_true, if_false, ite_true, ite_false, cond_true, cond_false, Bool.false_eq_true, reduceIte]; done) | (simp [c_134_6]; done) | (simp_all; done)]; rfl)
      · -- not taken
        refine r_iconst X (v := nI (1)) d_Mo_told_137 (by decide) ?_
        refine r_goto X (tgt := 142) d_Mo_told_138 (by decide) ?_
        exact V.eq hJ_5 rfl rfl rfl (by rw [show (decide (7 = 7)) = true from by first | (simp only [eq_true c_134_6, decide_true, decide_false, Bool.not_true, Bool.not_false, Bool.true_and, Bool.false_and, Bool.and_true, Bool.and_false, Bool.true_or, Bool.false_or, Bool.or_true, Bool.or_false, if_true, if_false, ite_true, ite_false, cond_true, cond_false, Bool.false_eq_true, reduceIte]; done) | (simp [c_134_6]; done) | (simp_all; done)]; rfl)
    | 8, _ =>
      refine r_tswIn X (off := 145) (tgt := 146) d_Mo_told_1 (by decide) (by decide) (by decide) (by decide) ?_
      refine r_aload_n X 0 d_Mo_told_146 rfl rfl ?_
      refine r_callV X (m_Mo_dead l o mi ml n (hn) hn40) ok_Mo_dead w_Mo_129 rfl b_95 e_95 rfl ⟨Nat.le_of_ble_eq_true rfl, Nat.le_of_ble_eq_true rfl⟩ (rest := []) rfl (Nat.le_of_ble_eq_true rfl) d_Mo_told_147 ?_
      refine kD (st' := [.int (nI (ct (fun b => deadM (oM ml) n b) (64)))]) rfl ?_
      refine r_end_i X d_Mo_told_150 ?_
      refine ⟨?_, fun _ _ => rfl, rfl⟩; rw [show ix (nI 8) 17 = some 8 from by decide]; rfl
    | 9, _ =>
      refine r_tswIn X (off := 150) (tgt := 151) d_Mo_told_1 (by decide) (by decide) (by decide) (by decide) ?_
      refine r_aload_n X 0 d_Mo_told_151 rfl rfl ?_
      refine r_callV X (m_Mo_together l o mi ml n (hn) hn40) ok_Mo_together w_Mo_132 rfl b_95 e_95 rfl ⟨Nat.le_of_ble_eq_true rfl, Nat.le_of_ble_eq_true rfl⟩ (rest := []) rfl (Nat.le_of_ble_eq_true rfl) d_Mo_told_152 ?_
      refine kD (st' := [.int ((togR (pairM (oM ml) n) 64 0))]) rfl ?_
      refine r_end_i X d_Mo_told_155 ?_
      refine ⟨?_, fun _ _ => rfl, rfl⟩; rw [show ix (nI 9) 17 = some 9 from by decide]; rfl
    | 10, _ =>
      refine r_tswIn X (off := 155) (tgt := 156) d_Mo_told_1 (by decide) (by decide) (by decide) (by decide) ?_
      refine r_aload_n X 0 d_Mo_told_156 rfl rfl ?_
      refine r_get X f_Mo_100 b_95 e_95 (v := .int (nI (s))) (congrArg (fun z => some (Value.int z)) (hs)) d_Mo_told_157 ?_
      refine r_end_i X d_Mo_told_160 ?_
      refine ⟨?_, fun _ _ => rfl, rfl⟩; rw [show ix (nI 10) 17 = some 10 from by decide]; rfl
    | 11, _ =>
      refine r_tswIn X (off := 160) (tgt := 161) d_Mo_told_1 (by decide) (by decide) (by decide) (by decide) ?_
      refine r_aload_n X 0 d_Mo_told_161 rfl rfl ?_
      refine r_iload_n X 1 d_Mo_told_162 rfl rfl ?_
      refine r_bipush X (v := nI (12)) d_Mo_told_163 (by decide) ?_
      have hJ_7 : V γ o 2 mi ml 173 [(0, .ref (ads o (95))), (1, .int (nI (11)))] [.int (bI (decide (11 = 12))), .ref (ads o (95))] := by
        refine r_callV X (m_Mo_could l o mi ml (decide (11 = 12)) n s (hn) hn40 (hs) hs6) ok_Mo_could w_Mo_107 rfl b_95 e_95 rfl ⟨Nat.le_of_ble_eq_true rfl, Nat.le_of_ble_eq_true rfl⟩ (rest := []) rfl (Nat.le_of_ble_eq_true rfl) d_Mo_told_173 ?_
        refine kD (st' := [.int ((if (decide (11 = 12)) then lastD (fun k => cb (oM ml k) (ml 104) (mi 105) s) n n else nI (ctD (fun k => cb (oM ml k) (ml 104) (mi 105) s) n n)))]) rfl ?_
        refine r_end_i X d_Mo_told_176 ?_
        refine ⟨?_, fun _ _ => rfl, rfl⟩; rw [show ix (nI 11) 17 = some 11 from by decide]; rfl
      refine r_icneP X (tgt := 172) (c := 11 = 12) d_Mo_told_165 (by decide) (nI_eq (Nat.le_of_ble_eq_true rfl) (Nat.le_of_ble_eq_true rfl)) (fun c_165 => ?_) (fun c_165 => ?_)
      · -- taken
        refine r_iconst X (v := nI (0)) d_Mo_told_172 (by decide) ?_
        exact V.eq hJ_7 rfl rfl rfl (by rw [show (decide (11 = 12)) = false from by first | (simp only [eq_false c_165, decide_true, decide_false, Bool.not_true, Bool.not_false, Bool.true_and, Bool.false_and, Bool.and_true, Bool.and_false, Bool.true_or, Bool.false_or, Bool.or_true, Bool.or_false, if_true, if_false, ite_true, ite_false, cond_true, cond_false, Bool.false_eq_true, reduceIte]; done) | (simp [c_165]; done) | (simp_all; done)]; rfl)
      · -- not taken
        refine r_iconst X (v := nI (1)) d_Mo_told_168 (by decide) ?_
        refine r_goto X (tgt := 173) d_Mo_told_169 (by decide) ?_
        exact V.eq hJ_7 rfl rfl rfl (by rw [show (decide (11 = 12)) = true from by first | (simp only [eq_true c_165, decide_true, decide_false, Bool.not_true, Bool.not_false, Bool.true_and, Bool.false_and, Bool.and_true, Bool.and_false, Bool.true_or, Bool.false_or, Bool.or_true, Bool.or_false, if_true, if_false, ite_true, ite_false, cond_true, cond_false, Bool.false_eq_true, reduceIte]; done) | (simp [c_165]; done) | (simp_all; done)]; rfl)
    | 12, _ =>
      refine r_tswIn X (off := 160) (tgt := 161) d_Mo_told_1 (by decide) (by decide) (by decide) (by decide) ?_
      refine r_aload_n X 0 d_Mo_told_161 rfl rfl ?_
      refine r_iload_n X 1 d_Mo_told_162 rfl rfl ?_
      refine r_bipush X (v := nI (12)) d_Mo_told_163 (by decide) ?_
      have hJ_8 : V γ o 2 mi ml 173 [(0, .ref (ads o (95))), (1, .int (nI (12)))] [.int (bI (decide (12 = 12))), .ref (ads o (95))] := by
        refine r_callV X (m_Mo_could l o mi ml (decide (12 = 12)) n s (hn) hn40 (hs) hs6) ok_Mo_could w_Mo_107 rfl b_95 e_95 rfl ⟨Nat.le_of_ble_eq_true rfl, Nat.le_of_ble_eq_true rfl⟩ (rest := []) rfl (Nat.le_of_ble_eq_true rfl) d_Mo_told_173 ?_
        refine kD (st' := [.int ((if (decide (12 = 12)) then lastD (fun k => cb (oM ml k) (ml 104) (mi 105) s) n n else nI (ctD (fun k => cb (oM ml k) (ml 104) (mi 105) s) n n)))]) rfl ?_
        refine r_end_i X d_Mo_told_176 ?_
        refine ⟨?_, fun _ _ => rfl, rfl⟩; rw [show ix (nI 12) 17 = some 12 from by decide]; rfl
      refine r_icneP X (tgt := 172) (c := 12 = 12) d_Mo_told_165 (by decide) (nI_eq (Nat.le_of_ble_eq_true rfl) (Nat.le_of_ble_eq_true rfl)) (fun c_165_9 => ?_) (fun c_165_9 => ?_)
      · -- taken
        refine r_iconst X (v := nI (0)) d_Mo_told_172 (by decide) ?_
        exact V.eq hJ_8 rfl rfl rfl (by rw [show (decide (12 = 12)) = false from by first | (simp only [eq_false c_165_9, decide_true, decide_false, Bool.not_true, Bool.not_false, Bool.true_and, Bool.false_and, Bool.and_true, Bool.and_false, Bool.true_or, Bool.false_or, Bool.or_true, Bool.or_false, if_true, if_false, ite_true, ite_false, cond_true, cond_false, Bool.false_eq_true, reduceIte]; done) | (simp [c_165_9]; done) | (simp_all; done)]; rfl)
      · -- not taken
        refine r_iconst X (v := nI (1)) d_Mo_told_168 (by decide) ?_
        refine r_goto X (tgt := 173) d_Mo_told_169 (by decide) ?_
        exact V.eq hJ_8 rfl rfl rfl (by rw [show (decide (12 = 12)) = true from by first | (simp only [eq_true c_165_9, decide_true, decide_false, Bool.not_true, Bool.not_false, Bool.true_and, Bool.false_and, Bool.and_true, Bool.and_false, Bool.true_or, Bool.false_or, Bool.or_true, Bool.or_false, if_true, if_false, ite_true, ite_false, cond_true, cond_false, Bool.false_eq_true, reduceIte]; done) | (simp [c_165_9]; done) | (simp_all; done)]; rfl)
    | 13, _ =>
      refine r_tswIn X (off := 176) (tgt := 177) d_Mo_told_1 (by decide) (by decide) (by decide) (by decide) ?_
      refine r_aload_n X 0 d_Mo_told_177 rfl rfl ?_
      refine r_callV X (m_Mo_asked l o mi ml n s (hn) hn40 (hs) hs6) ok_Mo_asked w_Mo_135 rfl b_95 e_95 rfl ⟨Nat.le_of_ble_eq_true rfl, Nat.le_of_ble_eq_true rfl⟩ (rest := []) rfl (Nat.le_of_ble_eq_true rfl) d_Mo_told_178 ?_
      rintro _ mi_a zz ⟨rfl, hfr, hz9⟩
      have hz9 := hz9.symm
      subst hz9
      show V γ o 2 mi_a ml 181 [(0, .ref (ads o (95))), (1, .int (nI (13)))] [.int (((askS (fun z => mst (fun q => ds (oM ml q) (oM ml z)) (cbM mi ml s) n) (ctD (cbM mi ml s) n n) n).2))]
      refine r_end_i X d_Mo_told_181 ?_
      refine ⟨?_, hfr, rfl⟩; rw [show ix (nI 13) 17 = some 13 from by decide]; rfl
    | 14, _ =>
      refine r_tswIn X (off := 181) (tgt := 182) d_Mo_told_1 (by decide) (by decide) (by decide) (by decide) ?_
      refine r_aload_n X 0 d_Mo_told_182 rfl rfl ?_
      refine r_get X f_Mo_111 b_95 e_95 (v := .int (nI (E))) (congrArg (fun z => some (Value.int z)) (hE)) d_Mo_told_183 ?_
      refine r_end_i X d_Mo_told_186 ?_
      refine ⟨?_, fun _ _ => rfl, rfl⟩; rw [show ix (nI 14) 17 = some 14 from by decide]; rfl
    | 15, _ =>
      refine r_tswIn X (off := 186) (tgt := 187) d_Mo_told_1 (by decide) (by decide) (by decide) (by decide) ?_
      refine r_aload_n X 0 d_Mo_told_187 rfl rfl ?_
      refine r_callV X (m_Mo_wrong l o mi ml n E B1 B2 (hn) hn40 (hE) hE20 hB1 hB2) ok_Mo_wrong w_Mo_138 rfl b_95 e_95 rfl ⟨Nat.le_of_ble_eq_true rfl, Nat.le_of_ble_eq_true rfl⟩ (rest := []) rfl (Nat.le_of_ble_eq_true rfl) d_Mo_told_188 ?_
      refine kD (st' := [.int ((fromB (fun e => !(isMk n (nI (B1 e)) && isMk n (nI (B2 e))) || !decide (nI (ds (oM ml (B1 e)) (oM ml (B2 e))) = mi 108 e)) E 0))]) rfl ?_
      refine r_end_i X d_Mo_told_191 ?_
      refine ⟨?_, fun _ _ => rfl, rfl⟩; rw [show ix (nI 15) 17 = some 15 from by decide]; rfl
    | 16, _ =>
      refine r_tswIn X (off := 191) (tgt := 192) d_Mo_told_1 (by decide) (by decide) (by decide) (by decide) ?_
      refine r_aload_n X 0 d_Mo_told_192 rfl rfl ?_
      refine r_get X f_Mo_141 b_95 e_95 (v := .int (nI (c))) (congrArg (fun z => some (Value.int z)) (hc)) d_Mo_told_193 ?_
      refine r_end_i X d_Mo_told_196 ?_
      refine ⟨?_, fun _ _ => rfl, rfl⟩; rw [show ix (nI 16) 17 = some 16 from by decide]; exact congrArg (fun z => some (Value.int z)) hc.symm
    | q1 + 17, hq => exact absurd hq (by omega)
