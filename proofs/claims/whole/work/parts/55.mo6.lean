set_option maxHeartbeats 4000000 in
set_option maxRecDepth 100000 in
theorem m_Mo_near_i (l : Launch) (o : OM) (mi : MI) (ml : ML) (q : Nat) (n : Nat) (hn : ml 96 2 = lN n) (hn40 : n ≤ 40) (hc1 : 1 ≤ pop (ml 96 1)) (hq : q ≤ 64) : ConD l y_Mo_near c_Mo_near 7 (some .long) 8 270 o [.ref (ads o (95)), .int (nI (q))] mi ml (some (.long (stB (fun k => nearP (mi 97 (k)) (ds (oM ml (k)) (ml 96 0)) q (pop (ml 96 1))) n))) mi ml := by
  refine Con.mk (by decide) (Nat.le_of_ble_eq_true rfl) (fun γ X => ?_)
  have hpl := pop_le (ml 96 1)
  show V γ o 7 mi ml 0 [(0, .ref (ads o (95))), (1, .int (nI (q)))] []
  refine r_lconst X (v := 0) d_Mo_near_0 (by decide) ?_
  refine r_lstore_n X [(2, .long (0)), (0, .ref (ads o (95))), (1, .int (nI (q)))] d_Mo_near_1 rfl (Nat.le_of_ble_eq_true rfl) rfl ?_
  refine r_iconst X (v := nI (0)) d_Mo_near_2 (by decide) ?_
  refine r_istore X [(4, .int (nI (0))), (2, .long (0)), (0, .ref (ads o (95))), (1, .int (nI (q)))] d_Mo_near_3 (Nat.le_of_ble_eq_true rfl) rfl ?_
  have L5_1 : ∀ (d_i i : Nat), i + d_i = n → V γ o 7 mi ml 5 [(0, .ref (ads o (95))), (1, .int (nI (q))), (2, .long (stB (fun k => nearP (mi 97 (k)) (ds (oM ml (k)) (ml 96 0)) q (pop (ml 96 1))) (i))), (4, .int (nI (i)))] [] := by
    intro d_i
    induction d_i with
    | zero =>
      intro i hi_L5_1 
      have he_L5_1 : n = i := by omega
      subst he_L5_1
      refine r_iload X 3 d_Mo_near_5 rfl ?_
      refine r_aload_n X 0 d_Mo_near_7 rfl rfl ?_
      refine r_callV X (m_Mo_marks l o mi ml n (hn) hn40) ok_Mo_marks w_Mo_59 rfl b_95 e_95 rfl ⟨Nat.le_of_ble_eq_true rfl, Nat.le_of_ble_eq_true rfl⟩ (rest := [.int (nI (n))]) rfl (Nat.le_of_ble_eq_true rfl) d_Mo_near_8 ?_
      refine kD (st' := [.int (nI (n)), .int (nI (n))]) rfl ?_
      refine r_icge X (tgt := 121) (c := n ≤ n) d_Mo_near_11 (by decide) (nI_leI (by omega) (by omega)) (fun c_11 => ?_) (fun c_11 => ?_)
      · -- taken
        refine r_lload_n X 2 d_Mo_near_121 rfl rfl ?_
        refine r_end_l X d_Mo_near_122 ?_
        first | exact ⟨rfl, rfl, rfl⟩ | (refine ⟨?_, rfl, rfl⟩; simp_all)
      · -- not taken
        exact False.elim (by omega)
    | succ d_i ih_L5_1 =>
      intro i hi_L5_1 
      have hlt_L5_1 : i < n := by omega
      refine r_iload X 3 d_Mo_near_5 rfl ?_
      refine r_aload_n X 0 d_Mo_near_7 rfl rfl ?_
      refine r_callV X (m_Mo_marks l o mi ml n (hn) hn40) ok_Mo_marks w_Mo_59 rfl b_95 e_95 rfl ⟨Nat.le_of_ble_eq_true rfl, Nat.le_of_ble_eq_true rfl⟩ (rest := [.int (nI (i))]) rfl (Nat.le_of_ble_eq_true rfl) d_Mo_near_8 ?_
      refine kD (st' := [.int (nI (n)), .int (nI (i))]) rfl ?_
      refine r_icge X (tgt := 121) (c := n ≤ i) d_Mo_near_11 (by decide) (nI_leI (by omega) (by omega)) (fun c_11_2 => ?_) (fun c_11_2 => ?_)
      · -- taken
        exact False.elim (by omega)
      · -- not taken
        refine r_iload_n X 1 d_Mo_near_14 rfl rfl ?_
        refine r_i2l X (v := lN q) d_Mo_near_15 (nI_l (by omega)) ?_
        refine r_lconst X (v := 0) d_Mo_near_16 (by decide) ?_
        refine r_ldc2 X (v := (64 : Int64)) k_Mo_202 d_Mo_near_17 ?_
        refine r_callS X (m_Mo_in l o mi ml (lN q) 0 (64 : Int64)) ok_Mo_in w_Mo_63 rfl ⟨Nat.le_of_ble_eq_true rfl, Nat.le_of_ble_eq_true rfl⟩ (rest := []) rfl (Nat.le_of_ble_eq_true rfl) d_Mo_near_20 ?_
        refine kD (st' := [.int (bI (!decide ((lN q) < 0) && !decide ((64 : Int64) < (lN q))))]) rfl ?_
        refine r_ifeqB X (tgt := 121) (b := !decide ((lN q) < 0) && !decide ((64 : Int64) < (lN q))) d_Mo_near_23 (by decide) (fun c_23 => ?_) (fun c_23 => ?_)
        · -- taken
          exact False.elim (by have e := in_nat (a := 0) (j := q) (m := 64) (by omega) (by omega) (by decide); exact absurd (c_23.symm.trans e) (by decide))
        · -- not taken
          refine r_iload_n X 1 d_Mo_near_26 rfl rfl ?_
          refine r_aload_n X 0 d_Mo_near_27 rfl rfl ?_
          refine r_callV X (m_Mo_parts l o mi ml ) ok_Mo_parts w_Mo_86 rfl b_95 e_95 rfl ⟨Nat.le_of_ble_eq_true rfl, Nat.le_of_ble_eq_true rfl⟩ (rest := [.int (nI (q))]) rfl (Nat.le_of_ble_eq_true rfl) d_Mo_near_28 ?_
          refine kD (st' := [.int (nI (pop (ml 96 1))), .int (nI (q))]) rfl ?_
          refine r_iconst X (v := nI (1)) d_Mo_near_31 (by decide) ?_
          refine r_isub X (v := nI (pop (ml 96 1) - 1)) d_Mo_near_32 (pk_sub (by omega)) ?_
          have hJ_3 : V γ o 7 mi ml 53 [(0, .ref (ads o (95))), (1, .int (nI (q))), (2, .long (stB (fun k => nearP (mi 97 (k)) (ds (oM ml (k)) (ml 96 0)) q (pop (ml 96 1))) (i))), (4, .int (nI (i)))] [.int (bI ((decide ((pop (ml 96 1) - 1) ≤ q) || !decide (((q) / (2)) < (ds (oM ml i) (ml 96 0))))))] := by
            refine r_istore X [(5, .int (bI ((decide ((pop (ml 96 1) - 1) ≤ q) || !decide (((q) / (2)) < (ds (oM ml i) (ml 96 0))))))), (0, .ref (ads o (95))), (1, .int (nI (q))), (2, .long (stB (fun k => nearP (mi 97 (k)) (ds (oM ml (k)) (ml 96 0)) q (pop (ml 96 1))) (i))), (4, .int (nI (i)))] d_Mo_near_53 (Nat.le_of_ble_eq_true rfl) rfl ?_
            refine r_aload_n X 1 d_Mo_near_55 rfl rfl ?_
            refine r_iload X 4 d_Mo_near_56 rfl ?_
            refine r_callV X (m_Mo_off l o mi ml i (by omega)) ok_Mo_off w_Mo_82 rfl b_95 e_95 rfl ⟨Nat.le_of_ble_eq_true rfl, Nat.le_of_ble_eq_true rfl⟩ (rest := []) rfl (Nat.le_of_ble_eq_true rfl) d_Mo_near_58 ?_
            refine kD (st' := [.int (nI (ds (oM ml i) (ml 96 0)))]) rfl ?_
            refine r_iload_n X 2 d_Mo_near_61 rfl rfl ?_
            have hJ_4 : V γ o 7 mi ml 97 [(5, .int (bI ((decide ((pop (ml 96 1) - 1) ≤ q) || !decide (((q) / (2)) < (ds (oM ml i) (ml 96 0))))))), (0, .ref (ads o (95))), (1, .int (nI (q))), (2, .long (stB (fun k => nearP (mi 97 (k)) (ds (oM ml (k)) (ml 96 0)) q (pop (ml 96 1))) (i))), (4, .int (nI (i)))] [.int (bI ((!decide (q < (ds (oM ml i) (ml 96 0))) && (!decide ((mi 97 i) = (nI (1))) && (!decide ((mi 97 i) = (nI (2))) || (decide ((pop (ml 96 1) - 1) ≤ q) || !decide (((q) / (2)) < (ds (oM ml i) (ml 96 0)))))))))] := by
              refine r_istore X [(6, .int (bI ((!decide (q < (ds (oM ml i) (ml 96 0))) && (!decide ((mi 97 i) = (nI (1))) && (!decide ((mi 97 i) = (nI (2))) || (decide ((pop (ml 96 1) - 1) ≤ q) || !decide (((q) / (2)) < (ds (oM ml i) (ml 96 0)))))))))), (5, .int (bI ((decide ((pop (ml 96 1) - 1) ≤ q) || !decide (((q) / (2)) < (ds (oM ml i) (ml 96 0))))))), (0, .ref (ads o (95))), (1, .int (nI (q))), (2, .long (stB (fun k => nearP (mi 97 (k)) (ds (oM ml (k)) (ml 96 0)) q (pop (ml 96 1))) (i))), (4, .int (nI (i)))] d_Mo_near_97 (Nat.le_of_ble_eq_true rfl) rfl ?_
              refine r_lload_n X 4 d_Mo_near_99 rfl rfl ?_
              refine r_iload X 0 d_Mo_near_100 rfl ?_
              have hJ_5 : V γ o 7 mi ml 113 [(6, .int (bI ((!decide (q < (ds (oM ml i) (ml 96 0))) && (!decide ((mi 97 i) = (nI (1))) && (!decide ((mi 97 i) = (nI (2))) || (decide ((pop (ml 96 1) - 1) ≤ q) || !decide (((q) / (2)) < (ds (oM ml i) (ml 96 0)))))))))), (5, .int (bI ((decide ((pop (ml 96 1) - 1) ≤ q) || !decide (((q) / (2)) < (ds (oM ml i) (ml 96 0))))))), (0, .ref (ads o (95))), (1, .int (nI (q))), (2, .long (stB (fun k => nearP (mi 97 (k)) (ds (oM ml (k)) (ml 96 0)) q (pop (ml 96 1))) (i))), (4, .int (nI (i)))] [.long (if (!decide (q < (ds (oM ml i) (ml 96 0))) && (!decide ((mi 97 i) = (nI (1))) && (!decide ((mi 97 i) = (nI (2))) || (decide ((pop (ml 96 1) - 1) ≤ q) || !decide (((q) / (2)) < (ds (oM ml i) (ml 96 0))))))) then shl (1) (i) else 0), .long (stB (fun k => nearP (mi 97 (k)) (ds (oM ml (k)) (ml 96 0)) q (pop (ml 96 1))) (i))] := by
                refine r_lor X (v := (stB (fun k => nearP (mi 97 (k)) (ds (oM ml (k)) (ml 96 0)) q (pop (ml 96 1))) (i)) ||| (if (!decide (q < (ds (oM ml i) (ml 96 0))) && (!decide ((mi 97 i) = (nI (1))) && (!decide ((mi 97 i) = (nI (2))) || (decide ((pop (ml 96 1) - 1) ≤ q) || !decide (((q) / (2)) < (ds (oM ml i) (ml 96 0))))))) then shl (1) (i) else 0)) d_Mo_near_113 (rfl) ?_
                refine r_lstore_n X [(2, .long ((stB (fun k => nearP (mi 97 (k)) (ds (oM ml (k)) (ml 96 0)) q (pop (ml 96 1))) (i)) ||| (if (!decide (q < (ds (oM ml i) (ml 96 0))) && (!decide ((mi 97 i) = (nI (1))) && (!decide ((mi 97 i) = (nI (2))) || (decide ((pop (ml 96 1) - 1) ≤ q) || !decide (((q) / (2)) < (ds (oM ml i) (ml 96 0))))))) then shl (1) (i) else 0))), (6, .int (bI ((!decide (q < (ds (oM ml i) (ml 96 0))) && (!decide ((mi 97 i) = (nI (1))) && (!decide ((mi 97 i) = (nI (2))) || (decide ((pop (ml 96 1) - 1) ≤ q) || !decide (((q) / (2)) < (ds (oM ml i) (ml 96 0)))))))))), (5, .int (bI ((decide ((pop (ml 96 1) - 1) ≤ q) || !decide (((q) / (2)) < (ds (oM ml i) (ml 96 0))))))), (0, .ref (ads o (95))), (1, .int (nI (q))), (4, .int (nI (i)))] d_Mo_near_114 rfl (Nat.le_of_ble_eq_true rfl) rfl ?_
                refine r_iinc X 5 (v := nI (i + 1)) [(4, .int (nI (i + 1))), (2, .long ((stB (fun k => nearP (mi 97 (k)) (ds (oM ml (k)) (ml 96 0)) q (pop (ml 96 1))) (i)) ||| (if (!decide (q < (ds (oM ml i) (ml 96 0))) && (!decide ((mi 97 i) = (nI (1))) && (!decide ((mi 97 i) = (nI (2))) || (decide ((pop (ml 96 1) - 1) ≤ q) || !decide (((q) / (2)) < (ds (oM ml i) (ml 96 0))))))) then shl (1) (i) else 0))), (6, .int (bI ((!decide (q < (ds (oM ml i) (ml 96 0))) && (!decide ((mi 97 i) = (nI (1))) && (!decide ((mi 97 i) = (nI (2))) || (decide ((pop (ml 96 1) - 1) ≤ q) || !decide (((q) / (2)) < (ds (oM ml i) (ml 96 0)))))))))), (5, .int (bI ((decide ((pop (ml 96 1) - 1) ≤ q) || !decide (((q) / (2)) < (ds (oM ml i) (ml 96 0))))))), (0, .ref (ads o (95))), (1, .int (nI (q)))] d_Mo_near_115 rfl (nI_add _ 1) (Nat.le_of_ble_eq_true rfl) rfl ?_
                refine r_goto X (tgt := 5) d_Mo_near_118 (by decide) ?_
                refine V.wk [4, 5, 1, 0] (V.eq (ih_L5_1 (i + 1) (by omega) ) ?_ ?_ ?_ rfl) (rfl : lv_pick _ [4, 5, 1, 0] = [(0, .ref (ads o (95))), (1, .int (nI (q))), (2, .long ((stB (fun k => nearP (mi 97 (k)) (ds (oM ml (k)) (ml 96 0)) q (pop (ml 96 1))) (i)) ||| (if (!decide (q < (ds (oM ml i) (ml 96 0))) && (!decide ((mi 97 i) = (nI (1))) && (!decide ((mi 97 i) = (nI (2))) || (decide ((pop (ml 96 1) - 1) ≤ q) || !decide (((q) / (2)) < (ds (oM ml i) (ml 96 0))))))) then shl (1) (i) else 0))), (4, .int (nI (i + 1)))])
                · rfl
                · rfl
                · first | rfl | (simp_all [ct, lastB, alB, fromB]; done)
              refine r_ifeqB X (tgt := 112) (b := (!decide (q < (ds (oM ml i) (ml 96 0))) && (!decide ((mi 97 i) = (nI (1))) && (!decide ((mi 97 i) = (nI (2))) || (decide ((pop (ml 96 1) - 1) ≤ q) || !decide (((q) / (2)) < (ds (oM ml i) (ml 96 0)))))))) d_Mo_near_102 (by decide) (fun c_102 => ?_) (fun c_102 => ?_)
              · -- taken
                refine r_lconst X (v := 0) d_Mo_near_112 (by decide) ?_
                exact V.eq hJ_5 rfl rfl rfl (by rw [show (if (!decide (q < (ds (oM ml i) (ml 96 0))) && (!decide ((mi 97 i) = (nI (1))) && (!decide ((mi 97 i) = (nI (2))) || (decide ((pop (ml 96 1) - 1) ≤ q) || !decide (((q) / (2)) < (ds (oM ml i) (ml 96 0))))))) then shl (1) (i) else 0) = (0) from by first | (simp only [c_102, decide_true, decide_false, Bool.not_true, Bool.not_false, Bool.true_and, Bool.false_and, Bool.and_true, Bool.and_false, Bool.true_or, Bool.false_or, Bool.or_true, Bool.or_false, if_true, if_false, ite_true, ite_false, cond_true, cond_false, Bool.false_eq_true, reduceIte]; done) | (simp [c_102]; done) | (simp_all; done)])
              · -- not taken
                refine r_lconst X (v := 1) d_Mo_near_105 (by decide) ?_
                refine r_iload X 5 d_Mo_near_106 rfl ?_
                refine r_lshl X (v := shl (1) (i)) d_Mo_near_108 (rfl) ?_
                refine r_goto X (tgt := 113) d_Mo_near_109 (by decide) ?_
                exact V.eq hJ_5 rfl rfl rfl (by rw [show (if (!decide (q < (ds (oM ml i) (ml 96 0))) && (!decide ((mi 97 i) = (nI (1))) && (!decide ((mi 97 i) = (nI (2))) || (decide ((pop (ml 96 1) - 1) ≤ q) || !decide (((q) / (2)) < (ds (oM ml i) (ml 96 0))))))) then shl (1) (i) else 0) = (shl (1) (i)) from by first | (simp only [c_102, decide_true, decide_false, Bool.not_true, Bool.not_false, Bool.true_and, Bool.false_and, Bool.and_true, Bool.and_false, Bool.true_or, Bool.false_or, Bool.or_true, Bool.or_false, if_true, if_false, ite_true, ite_false, cond_true, cond_false, Bool.false_eq_true, reduceIte]; done) | (simp [c_102]; done) | (simp_all; done)])
            refine r_icgt X (tgt := 96) (c := q < (ds (oM ml i) (ml 96 0))) d_Mo_near_62 (by decide) (nI_ltI (by omega) (ds_lt _ _)) (fun c_62 => ?_) (fun c_62 => ?_)
            · -- taken
              refine r_iconst X (v := nI (0)) d_Mo_near_96 (by decide) ?_
              exact V.eq hJ_4 rfl rfl rfl (by rw [show ((!decide (q < (ds (oM ml i) (ml 96 0))) && (!decide ((mi 97 i) = (nI (1))) && (!decide ((mi 97 i) = (nI (2))) || (decide ((pop (ml 96 1) - 1) ≤ q) || !decide (((q) / (2)) < (ds (oM ml i) (ml 96 0)))))))) = false from by first | (simp only [eq_true c_62, decide_true, decide_false, Bool.not_true, Bool.not_false, Bool.true_and, Bool.false_and, Bool.and_true, Bool.and_false, Bool.true_or, Bool.false_or, Bool.or_true, Bool.or_false, if_true, if_false, ite_true, ite_false, cond_true, cond_false, Bool.false_eq_true, reduceIte]; done) | (simp [c_62]; done) | (simp_all; done)]; rfl)
            · -- not taken
              refine r_aload_n X 1 d_Mo_near_65 rfl rfl ?_
              refine r_get X f_Mo_13 b_95 e_95 (v := .ref (ads o (97))) rfl d_Mo_near_66 ?_
              refine r_iload X 4 d_Mo_near_69 rfl ?_
              refine r_iald X (v := (mi 97 i)) b_97 e_97 (Nat.le_of_ble_eq_true rfl) (by omega) rfl d_Mo_near_71 ?_
              refine r_iconst X (v := nI (1)) d_Mo_near_72 (by decide) ?_
              refine r_iceq X (tgt := 96) (c := (mi 97 i) = (nI (1))) d_Mo_near_73 (by decide) (Iff.rfl) (fun c_73 => ?_) (fun c_73 => ?_)
              · -- taken
                refine r_iconst X (v := nI (0)) d_Mo_near_96 (by decide) ?_
                exact V.eq hJ_4 rfl rfl rfl (by rw [show ((!decide (q < (ds (oM ml i) (ml 96 0))) && (!decide ((mi 97 i) = (nI (1))) && (!decide ((mi 97 i) = (nI (2))) || (decide ((pop (ml 96 1) - 1) ≤ q) || !decide (((q) / (2)) < (ds (oM ml i) (ml 96 0)))))))) = false from by first | (simp only [eq_false c_62, eq_true c_73, decide_true, decide_false, Bool.not_true, Bool.not_false, Bool.true_and, Bool.false_and, Bool.and_true, Bool.and_false, Bool.true_or, Bool.false_or, Bool.or_true, Bool.or_false, if_true, if_false, ite_true, ite_false, cond_true, cond_false, Bool.false_eq_true, reduceIte]; done) | (simp [c_62, c_73]; done) | (simp_all; done)]; rfl)
              · -- not taken
                refine r_aload_n X 1 d_Mo_near_76 rfl rfl ?_
                refine r_get X f_Mo_13 b_95 e_95 (v := .ref (ads o (97))) rfl d_Mo_near_77 ?_
                refine r_iload X 4 d_Mo_near_80 rfl ?_
                refine r_iald X (v := (mi 97 i)) b_97 e_97 (Nat.le_of_ble_eq_true rfl) (by omega) rfl d_Mo_near_82 ?_
                refine r_iconst X (v := nI (2)) d_Mo_near_83 (by decide) ?_
                refine r_icneP X (tgt := 92) (c := (mi 97 i) = (nI (2))) d_Mo_near_84 (by decide) (Iff.rfl) (fun c_84 => ?_) (fun c_84 => ?_)
                · -- taken
                  refine r_iconst X (v := nI (1)) d_Mo_near_92 (by decide) ?_
                  refine r_goto X (tgt := 97) d_Mo_near_93 (by decide) ?_
                  exact V.eq hJ_4 rfl rfl rfl (by rw [show ((!decide (q < (ds (oM ml i) (ml 96 0))) && (!decide ((mi 97 i) = (nI (1))) && (!decide ((mi 97 i) = (nI (2))) || (decide ((pop (ml 96 1) - 1) ≤ q) || !decide (((q) / (2)) < (ds (oM ml i) (ml 96 0)))))))) = true from by first | (simp only [eq_false c_62, eq_false c_73, eq_false c_84, decide_true, decide_false, Bool.not_true, Bool.not_false, Bool.true_and, Bool.false_and, Bool.and_true, Bool.and_false, Bool.true_or, Bool.false_or, Bool.or_true, Bool.or_false, if_true, if_false, ite_true, ite_false, cond_true, cond_false, Bool.false_eq_true, reduceIte]; done) | (simp [c_62, c_73, c_84]; done) | (simp_all; done)]; rfl)
                · -- not taken
                  refine r_iload X 0 d_Mo_near_87 rfl ?_
                  refine r_ifeqB X (tgt := 96) (b := (decide ((pop (ml 96 1) - 1) ≤ q) || !decide (((q) / (2)) < (ds (oM ml i) (ml 96 0))))) d_Mo_near_89 (by decide) (fun c_89 => ?_) (fun c_89 => ?_)
                  · -- taken
                    refine r_iconst X (v := nI (0)) d_Mo_near_96 (by decide) ?_
                    exact V.eq hJ_4 rfl rfl rfl (by rw [show ((!decide (q < (ds (oM ml i) (ml 96 0))) && (!decide ((mi 97 i) = (nI (1))) && (!decide ((mi 97 i) = (nI (2))) || (decide ((pop (ml 96 1) - 1) ≤ q) || !decide (((q) / (2)) < (ds (oM ml i) (ml 96 0)))))))) = false from by first | (simp only [eq_false c_62, eq_false c_73, eq_true c_84, c_89, decide_true, decide_false, Bool.not_true, Bool.not_false, Bool.true_and, Bool.false_and, Bool.and_true, Bool.and_false, Bool.true_or, Bool.false_or, Bool.or_true, Bool.or_false, if_true, if_false, ite_true, ite_false, cond_true, cond_false, Bool.false_eq_true, reduceIte]; done) | (simp [c_62, c_73, c_84, c_89]; done) | (simp_all; done)]; rfl)
                  · -- not taken
                    refine r_iconst X (v := nI (1)) d_Mo_near_92 (by decide) ?_
                    refine r_goto X (tgt := 97) d_Mo_near_93 (by decide) ?_
                    exact V.eq hJ_4 rfl rfl rfl (by rw [show ((!decide (q < (ds (oM ml i) (ml 96 0))) && (!decide ((mi 97 i) = (nI (1))) && (!decide ((mi 97 i) = (nI (2))) || (decide ((pop (ml 96 1) - 1) ≤ q) || !decide (((q) / (2)) < (ds (oM ml i) (ml 96 0)))))))) = true from by first | (simp only [eq_false c_62, eq_false c_73, eq_true c_84, c_89, decide_true, decide_false, Bool.not_true, Bool.not_false, Bool.true_and, Bool.false_and, Bool.and_true, Bool.and_false, Bool.true_or, Bool.false_or, Bool.or_true, Bool.or_false, if_true, if_false, ite_true, ite_false, cond_true, cond_false, Bool.false_eq_true, reduceIte]; done) | (simp [c_62, c_73, c_84, c_89]; done) | (simp_all; done)]; rfl)
          refine r_icge X (tgt := 48) (c := (pop (ml 96 1) - 1) ≤ q) d_Mo_near_33 (by decide) (nI_leI (by omega) (by omega)) (fun c_33 => ?_) (fun c_33 => ?_)
          · -- taken
            refine r_iconst X (v := nI (1)) d_Mo_near_48 (by decide) ?_
            refine r_goto X (tgt := 53) d_Mo_near_49 (by decide) ?_
            exact V.eq hJ_3 rfl rfl rfl (by rw [show ((decide ((pop (ml 96 1) - 1) ≤ q) || !decide (((q) / (2)) < (ds (oM ml i) (ml 96 0))))) = true from by first | (simp only [eq_true c_33, decide_true, decide_false, Bool.not_true, Bool.not_false, Bool.true_and, Bool.false_and, Bool.and_true, Bool.and_false, Bool.true_or, Bool.false_or, Bool.or_true, Bool.or_false, if_true, if_false, ite_true, ite_false, cond_true, cond_false, Bool.false_eq_true, reduceIte]; done) | (simp [c_33]; done) | (simp_all; done)]; rfl)
          · -- not taken
            refine r_aload_n X 0 d_Mo_near_36 rfl rfl ?_
            refine r_iload X 3 d_Mo_near_37 rfl ?_
            refine r_callV X (m_Mo_off l o mi ml i (by omega)) ok_Mo_off w_Mo_82 rfl b_95 e_95 rfl ⟨Nat.le_of_ble_eq_true rfl, Nat.le_of_ble_eq_true rfl⟩ (rest := []) rfl (Nat.le_of_ble_eq_true rfl) d_Mo_near_39 ?_
            refine kD (st' := [.int (nI (ds (oM ml i) (ml 96 0)))]) rfl ?_
            refine r_iload_n X 1 d_Mo_near_42 rfl rfl ?_
            refine r_iconst X (v := nI (2)) d_Mo_near_43 (by decide) ?_
            refine r_idiv X (v := nI ((q) / (2))) d_Mo_near_44 (nI_ne0 (by omega) (Nat.le_of_ble_eq_true rfl)) (pk_div (by omega) (by omega) (Nat.le_of_ble_eq_true rfl)) ?_
            refine r_icgt X (tgt := 52) (c := ((q) / (2)) < (ds (oM ml i) (ml 96 0))) d_Mo_near_45 (by decide) (nI_ltI (by omega) (ds_lt _ _)) (fun c_45 => ?_) (fun c_45 => ?_)
            · -- taken
              refine r_iconst X (v := nI (0)) d_Mo_near_52 (by decide) ?_
              exact V.eq hJ_3 rfl rfl rfl (by rw [show ((decide ((pop (ml 96 1) - 1) ≤ q) || !decide (((q) / (2)) < (ds (oM ml i) (ml 96 0))))) = false from by first | (simp only [eq_false c_33, eq_true c_45, decide_true, decide_false, Bool.not_true, Bool.not_false, Bool.true_and, Bool.false_and, Bool.and_true, Bool.and_false, Bool.true_or, Bool.false_or, Bool.or_true, Bool.or_false, if_true, if_false, ite_true, ite_false, cond_true, cond_false, Bool.false_eq_true, reduceIte]; done) | (simp [c_33, c_45]; done) | (simp_all; done)]; rfl)
            · -- not taken
              refine r_iconst X (v := nI (1)) d_Mo_near_48 (by decide) ?_
              refine r_goto X (tgt := 53) d_Mo_near_49 (by decide) ?_
              exact V.eq hJ_3 rfl rfl rfl (by rw [show ((decide ((pop (ml 96 1) - 1) ≤ q) || !decide (((q) / (2)) < (ds (oM ml i) (ml 96 0))))) = true from by first | (simp only [eq_false c_33, eq_false c_45, decide_true, decide_false, Bool.not_true, Bool.not_false, Bool.true_and, Bool.false_and, Bool.and_true, Bool.and_false, Bool.true_or, Bool.false_or, Bool.or_true, Bool.or_false, if_true, if_false, ite_true, ite_false, cond_true, cond_false, Bool.false_eq_true, reduceIte]; done) | (simp [c_33, c_45]; done) | (simp_all; done)]; rfl)
  refine V.wk [2, 3, 1, 0] (V.eq (L5_1 (n - 0) 0 (by omega) ) ?_ ?_ ?_ rfl) (rfl : lv_pick _ [2, 3, 1, 0] = [(0, .ref (ads o (95))), (1, .int (nI (q))), (2, .long (0)), (4, .int (nI (0)))])
  · rfl
  · rfl
  · rfl

set_option maxHeartbeats 4000000 in
set_option maxRecDepth 100000 in
theorem m_Mo_near_o (l : Launch) (o : OM) (mi : MI) (ml : ML) (b : Int32) (n : Nat) (hn : ml 96 2 = lN n) (hn40 : n ≤ 40) (hb : b < nI 0 ∨ nI 64 < b) : ConD l y_Mo_near c_Mo_near 7 (some .long) 8 270 o [.ref (ads o (95)), .int (b)] mi ml (some (.long (0))) mi ml := by
  refine Con.mk (by decide) (Nat.le_of_ble_eq_true rfl) (fun γ X => ?_)
  show V γ o 7 mi ml 0 [(0, .ref (ads o (95))), (1, .int (b))] []
  refine r_lconst X (v := 0) d_Mo_near_0 (by decide) ?_
  refine r_lstore_n X [(2, .long (0)), (0, .ref (ads o (95))), (1, .int (b))] d_Mo_near_1 rfl (Nat.le_of_ble_eq_true rfl) rfl ?_
  refine r_iconst X (v := nI (0)) d_Mo_near_2 (by decide) ?_
  refine r_istore X [(4, .int (nI (0))), (2, .long (0)), (0, .ref (ads o (95))), (1, .int (b))] d_Mo_near_3 (Nat.le_of_ble_eq_true rfl) rfl ?_
  refine r_iload X 0 d_Mo_near_5 rfl ?_
  refine r_aload_n X 2 d_Mo_near_7 rfl rfl ?_
  refine r_callV X (m_Mo_marks l o mi ml n (hn) hn40) ok_Mo_marks w_Mo_59 rfl b_95 e_95 rfl ⟨Nat.le_of_ble_eq_true rfl, Nat.le_of_ble_eq_true rfl⟩ (rest := [.int (nI (0))]) rfl (Nat.le_of_ble_eq_true rfl) d_Mo_near_8 ?_
  refine kD (st' := [.int (nI (n)), .int (nI (0))]) rfl ?_
  refine r_icge X (tgt := 121) (c := n ≤ 0) d_Mo_near_11 (by decide) (nI_leI (by omega) (Nat.le_of_ble_eq_true rfl)) (fun c_11 => ?_) (fun c_11 => ?_)
  · -- taken
    refine r_lload_n X 1 d_Mo_near_121 rfl rfl ?_
    refine r_end_l X d_Mo_near_122 ?_
    first | exact ⟨rfl, rfl, rfl⟩ | (refine ⟨?_, rfl, rfl⟩; simp_all)
  · -- not taken
    refine r_iload_n X 3 d_Mo_near_14 rfl rfl ?_
    refine r_i2l X (v := (b).toInt64) d_Mo_near_15 (rfl) ?_
    refine r_lconst X (v := 0) d_Mo_near_16 (by decide) ?_
    refine r_ldc2 X (v := (64 : Int64)) k_Mo_202 d_Mo_near_17 ?_
    refine r_callS X (m_Mo_in l o mi ml ((b).toInt64) 0 (64 : Int64)) ok_Mo_in w_Mo_63 rfl ⟨Nat.le_of_ble_eq_true rfl, Nat.le_of_ble_eq_true rfl⟩ (rest := []) rfl (Nat.le_of_ble_eq_true rfl) d_Mo_near_20 ?_
    refine kD (st' := [.int (bI (!decide (((b).toInt64) < 0) && !decide ((64 : Int64) < ((b).toInt64))))]) rfl ?_
    refine r_ifeqB X (tgt := 121) (b := !decide (((b).toInt64) < 0) && !decide ((64 : Int64) < ((b).toInt64))) d_Mo_near_23 (by decide) (fun c_23 => ?_) (fun c_23 => ?_)
    · -- taken
      refine r_lload_n X 1 d_Mo_near_121 rfl rfl ?_
      refine r_end_l X d_Mo_near_122 ?_
      first | exact ⟨rfl, rfl, rfl⟩ | (refine ⟨?_, rfl, rfl⟩; simp_all)
    · -- not taken
      exact False.elim (by have e := in_out (a := 0) (m := 64) (by decide) (by decide) hb; exact absurd (c_23.symm.trans e) (by decide))

set_option maxHeartbeats 4000000 in
set_option maxRecDepth 100000 in
theorem m_Mo_nearest (l : Launch) (o : OM) (mi : MI) (ml : ML) (w : Int32) (n : Nat) (hn : ml 96 2 = lN n) (hn40 : n ≤ 40) : ConD l y_Mo_nearest c_Mo_nearest 2 (some .int) 8 270 o [.ref (ads o (95)), .int (w)] mi ml (some (.int ((if 0 ≤ w then lastB (fun k => decide (nI (ahd (fun q => ds (oM ml q) (ml 96 0)) n k) = w)) n else -1)))) mi ml := by
  refine Con.mk (by decide) (Nat.le_of_ble_eq_true rfl) (fun γ X => ?_)
  show V γ o 2 mi ml 0 [(0, .ref (ads o (95))), (1, .int (w))] []
  refine r_iload_n X 1 d_Mo_nearest_0 rfl rfl ?_
  have hJ_1 : V γ o 2 mi ml 13 [(0, .ref (ads o (95))), (1, .int (w))] [.int ((if decide (0 ≤ w) then (lastB (fun k => decide (nI (ahd (fun q => ds (oM ml q) (ml 96 0)) n k) = w)) n) else ((-1 : Int32))))] := by
    refine r_end_i X d_Mo_nearest_13 ?_
    refine ⟨?_, rfl, rfl⟩; simp_all
  refine r_ifge X (tgt := 8) (c := 0 ≤ w) d_Mo_nearest_1 (by decide) (Iff.rfl) (fun c_1 => ?_) (fun c_1 => ?_)
  · -- taken
    refine r_aload_n X 0 d_Mo_nearest_8 rfl rfl ?_
    refine r_iload_n X 1 d_Mo_nearest_9 rfl rfl ?_
    refine r_callV X (m_Mo_nearestOf l o mi ml w n (hn) hn40) ok_Mo_nearestOf w_Mo_117 rfl b_95 e_95 rfl ⟨Nat.le_of_ble_eq_true rfl, Nat.le_of_ble_eq_true rfl⟩ (rest := []) rfl (Nat.le_of_ble_eq_true rfl) d_Mo_nearest_10 ?_
    refine kD (st' := [.int ((lastB (fun k => decide (nI (ahd (fun q => ds (oM ml q) (ml 96 0)) n k) = w)) n))]) rfl ?_
    exact V.eq hJ_1 rfl rfl rfl (by rw [show ((if decide (0 ≤ w) then (lastB (fun k => decide (nI (ahd (fun q => ds (oM ml q) (ml 96 0)) n k) = w)) n) else ((-1 : Int32)))) = ((lastB (fun k => decide (nI (ahd (fun q => ds (oM ml q) (ml 96 0)) n k) = w)) n)) from by first | (simp only [eq_true c_1, decide_true, decide_false, Bool.not_true, Bool.not_false, Bool.true_and, Bool.false_and, Bool.and_true, Bool.and_false, Bool.true_or, Bool.false_or, Bool.or_true, Bool.or_false, if_true, if_false, ite_true, ite_false, cond_true, cond_false, Bool.false_eq_true, reduceIte]; done) | (simp [c_1]; done) | (simp_all; done)])
  · -- not taken
    refine r_iconst X (v := ((-1 : Int32))) d_Mo_nearest_4 (by decide) ?_
    refine r_goto X (tgt := 13) d_Mo_nearest_5 (by decide) ?_
    exact V.eq hJ_1 rfl rfl rfl (by rw [show ((if decide (0 ≤ w) then (lastB (fun k => decide (nI (ahd (fun q => ds (oM ml q) (ml 96 0)) n k) = w)) n) else ((-1 : Int32)))) = (((-1 : Int32))) from by first | (simp only [eq_false c_1, decide_true, decide_false, Bool.not_true, Bool.not_false, Bool.true_and, Bool.false_and, Bool.and_true, Bool.and_false, Bool.true_or, Bool.false_or, Bool.or_true, Bool.or_false, if_true, if_false, ite_true, ite_false, cond_true, cond_false, Bool.false_eq_true, reduceIte]; done) | (simp [c_1]; done) | (simp_all; done)])

set_option maxHeartbeats 4000000 in
set_option maxRecDepth 100000 in
theorem m_Mo_apart_i (l : Launch) (o : OM) (mi : MI) (ml : ML) (a : Nat) (b : Nat) (n : Nat) (hn : ml 96 2 = lN n) (hn40 : n ≤ 40) (ha : a < n) (hb : b < n) (hab : a ≠ b) : ConD l y_Mo_apart c_Mo_apart 3 (some .int) 8 270 o [.ref (ads o (95)), .int (nI (a)), .int (nI (b))] mi ml (some (.int (nI (ds (oM ml a) (oM ml b))))) mi ml := by
  refine Con.mk (by decide) (Nat.le_of_ble_eq_true rfl) (fun γ X => ?_)
  show V γ o 3 mi ml 0 [(0, .ref (ads o (95))), (1, .int (nI (a))), (2, .int (nI (b)))] []
  refine r_aload_n X 0 d_Mo_apart_0 rfl rfl ?_
  refine r_iload_n X 1 d_Mo_apart_1 rfl rfl ?_
  refine r_callV X (m_Mo_isMark l o mi ml (nI (a)) n (hn) hn40) ok_Mo_isMark w_Mo_114 rfl b_95 e_95 rfl ⟨Nat.le_of_ble_eq_true rfl, Nat.le_of_ble_eq_true rfl⟩ (rest := []) rfl (Nat.le_of_ble_eq_true rfl) d_Mo_apart_2 ?_
  refine kD (st' := [.int (bI (isMk n (nI (a))))]) rfl ?_
  have hJ_1 : V γ o 3 mi ml 40 [(0, .ref (ads o (95))), (1, .int (nI (a))), (2, .int (nI (b)))] [.int (nI (pop ((oM ml a) ^^^ (oM ml b))))] := by
    refine r_end_i X d_Mo_apart_40 ?_
    first | exact ⟨rfl, rfl, rfl⟩ | (refine ⟨?_, rfl, rfl⟩; simp_all)
  refine r_ifeqB X (tgt := 38) (b := isMk n (nI (a))) d_Mo_apart_5 (by decide) (fun c_5 => ?_) (fun c_5 => ?_)
  · -- taken
    exact False.elim (by rw [isMk_nI (by omega) (by omega)] at c_5; simp at c_5; omega)
  · -- not taken
    refine r_aload_n X 0 d_Mo_apart_8 rfl rfl ?_
    refine r_iload_n X 2 d_Mo_apart_9 rfl rfl ?_
    refine r_callV X (m_Mo_isMark l o mi ml (nI (b)) n (hn) hn40) ok_Mo_isMark w_Mo_114 rfl b_95 e_95 rfl ⟨Nat.le_of_ble_eq_true rfl, Nat.le_of_ble_eq_true rfl⟩ (rest := []) rfl (Nat.le_of_ble_eq_true rfl) d_Mo_apart_10 ?_
    refine kD (st' := [.int (bI (isMk n (nI (b))))]) rfl ?_
    refine r_ifeqB X (tgt := 38) (b := isMk n (nI (b))) d_Mo_apart_13 (by decide) (fun c_13 => ?_) (fun c_13 => ?_)
    · -- taken
      exact False.elim (by rw [isMk_nI (by omega) (by omega)] at c_13; simp at c_13; omega)
    · -- not taken
      refine r_iload_n X 1 d_Mo_apart_16 rfl rfl ?_
      refine r_iload_n X 2 d_Mo_apart_17 rfl rfl ?_
      refine r_iceq X (tgt := 38) (c := a = b) d_Mo_apart_18 (by decide) (nI_eq (by omega) (by omega)) (fun c_18 => ?_) (fun c_18 => ?_)
      · -- taken
        exact False.elim (by omega)
      · -- not taken
        refine r_aload_n X 0 d_Mo_apart_21 rfl rfl ?_
        refine r_iload_n X 1 d_Mo_apart_22 rfl rfl ?_
        refine r_callV X (m_Mo_own l o mi ml a (by omega)) ok_Mo_own w_Mo_67 rfl b_95 e_95 rfl ⟨Nat.le_of_ble_eq_true rfl, Nat.le_of_ble_eq_true rfl⟩ (rest := []) rfl (Nat.le_of_ble_eq_true rfl) d_Mo_apart_23 ?_
        refine kD (st' := [.long (oM ml a)]) rfl ?_
        refine r_aload_n X 0 d_Mo_apart_26 rfl rfl ?_
        refine r_iload_n X 2 d_Mo_apart_27 rfl rfl ?_
        refine r_callV X (m_Mo_own l o mi ml b (by omega)) ok_Mo_own w_Mo_67 rfl b_95 e_95 rfl ⟨Nat.le_of_ble_eq_true rfl, Nat.le_of_ble_eq_true rfl⟩ (rest := [.long (oM ml a)]) rfl (Nat.le_of_ble_eq_true rfl) d_Mo_apart_28 ?_
        refine kD (st' := [.long (oM ml b), .long (oM ml a)]) rfl ?_
        refine r_lxor X (v := (oM ml a) ^^^ (oM ml b)) d_Mo_apart_31 (rfl) ?_
        refine r_callS X (m_Mo_ones l o mi ml ((oM ml a) ^^^ (oM ml b))) ok_Mo_ones w_Mo_71 rfl ⟨Nat.le_of_ble_eq_true rfl, Nat.le_of_ble_eq_true rfl⟩ (rest := []) rfl (Nat.le_of_ble_eq_true rfl) d_Mo_apart_32 ?_
        refine kD (st' := [.int (nI (pop ((oM ml a) ^^^ (oM ml b))))]) rfl ?_
        refine r_goto X (tgt := 40) d_Mo_apart_35 (by decide) ?_
        exact hJ_1

set_option maxHeartbeats 4000000 in
set_option maxRecDepth 100000 in
theorem m_Mo_apart_u (l : Launch) (o : OM) (mi : MI) (ml : ML) (j : Int32) (k : Int32) (n : Nat) (hn : ml 96 2 = lN n) (hn40 : n ≤ 40) (hu : (isMk n j && (isMk n k && !decide (j = k))) = false) : ConD l y_Mo_apart c_Mo_apart 3 (some .int) 8 270 o [.ref (ads o (95)), .int (j), .int (k)] mi ml (some (.int (((-1000000001 : Int32))))) mi ml := by
  refine Con.mk (by decide) (Nat.le_of_ble_eq_true rfl) (fun γ X => ?_)
  show V γ o 3 mi ml 0 [(0, .ref (ads o (95))), (1, .int (j)), (2, .int (k))] []
  refine r_aload_n X 0 d_Mo_apart_0 rfl rfl ?_
  refine r_iload_n X 1 d_Mo_apart_1 rfl rfl ?_
  refine r_callV X (m_Mo_isMark l o mi ml j n (hn) hn40) ok_Mo_isMark w_Mo_114 rfl b_95 e_95 rfl ⟨Nat.le_of_ble_eq_true rfl, Nat.le_of_ble_eq_true rfl⟩ (rest := []) rfl (Nat.le_of_ble_eq_true rfl) d_Mo_apart_2 ?_
  refine kD (st' := [.int (bI (isMk n j))]) rfl ?_
  have hJ_1 : V γ o 3 mi ml 40 [(0, .ref (ads o (95))), (1, .int (j)), (2, .int (k))] [.int (((-1000000001 : Int32)))] := by
    refine r_end_i X d_Mo_apart_40 ?_
    first | exact ⟨rfl, rfl, rfl⟩ | (refine ⟨?_, rfl, rfl⟩; simp_all)
  refine r_ifeqB X (tgt := 38) (b := isMk n j) d_Mo_apart_5 (by decide) (fun c_5 => ?_) (fun c_5 => ?_)
  · -- taken
    refine r_ldc X (v := ((-1000000001 : Int32))) k_Mo_145 (by decide) d_Mo_apart_38 ?_
    exact hJ_1
  · -- not taken
    refine r_aload_n X 0 d_Mo_apart_8 rfl rfl ?_
    refine r_iload_n X 2 d_Mo_apart_9 rfl rfl ?_
    refine r_callV X (m_Mo_isMark l o mi ml k n (hn) hn40) ok_Mo_isMark w_Mo_114 rfl b_95 e_95 rfl ⟨Nat.le_of_ble_eq_true rfl, Nat.le_of_ble_eq_true rfl⟩ (rest := []) rfl (Nat.le_of_ble_eq_true rfl) d_Mo_apart_10 ?_
    refine kD (st' := [.int (bI (isMk n k))]) rfl ?_
    refine r_ifeqB X (tgt := 38) (b := isMk n k) d_Mo_apart_13 (by decide) (fun c_13 => ?_) (fun c_13 => ?_)
    · -- taken
      refine r_ldc X (v := ((-1000000001 : Int32))) k_Mo_145 (by decide) d_Mo_apart_38 ?_
      exact hJ_1
    · -- not taken
      refine r_iload_n X 1 d_Mo_apart_16 rfl rfl ?_
      refine r_iload_n X 2 d_Mo_apart_17 rfl rfl ?_
      refine r_iceq X (tgt := 38) (c := j = k) d_Mo_apart_18 (by decide) (Iff.rfl) (fun c_18 => ?_) (fun c_18 => ?_)
      · -- taken
        refine r_ldc X (v := ((-1000000001 : Int32))) k_Mo_145 (by decide) d_Mo_apart_38 ?_
        exact hJ_1
      · -- not taken
        exact False.elim (by simp_all)
