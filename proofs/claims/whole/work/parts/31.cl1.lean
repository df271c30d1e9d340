set_option maxHeartbeats 4000000 in
set_option maxRecDepth 100000 in
theorem m_Nm_hasBit (l : Launch) (o : OM) (mi : MI) (ml : ML) (x : Int64) (k : Nat) (hk : k < 64) : ConD l y_Nm_hasBit c_Nm_hasBit 3 (some .boolean) 0 0 o [.long (x), .int (nI (k))] mi ml (some (.int (bI (bt x k)))) mi ml := by
  refine Con.mk (by decide) (Nat.le_of_ble_eq_true rfl) (fun γ X => ?_)
  show V γ o 3 mi ml 0 [(0, .long (x)), (2, .int (nI (k)))] []
  refine r_lload_n X 0 d_Nm_hasBit_0 rfl rfl ?_
  refine r_iload_n X 1 d_Nm_hasBit_1 rfl rfl ?_
  refine r_lushr X (v := ushr (x) (k)) d_Nm_hasBit_2 (rfl) ?_
  refine r_lconst X (v := 1) d_Nm_hasBit_3 (by decide) ?_
  refine r_land X (v := (ushr (x) (k)) &&& (1)) d_Nm_hasBit_4 (rfl) ?_
  refine r_lconst X (v := 0) d_Nm_hasBit_5 (by decide) ?_
  refine r_lcmp X d_Nm_hasBit_6 ?_
  have hJ_1 : V γ o 3 mi ml 15 [(0, .long (x)), (2, .int (nI (k)))] [.int (bI (!(!bt x k)))] := by
    refine r_end_z X (bI_nar _) d_Nm_hasBit_15 ?_
    first | exact ⟨rfl, rfl, rfl⟩ | (refine ⟨?_, rfl, rfl⟩; simp_all)
  refine r_ifeqQ X (tgt := 14) (b := !bt x k) d_Nm_hasBit_7 (by decide) ((lg_cmp_eq _ _).trans ((has_ushr x hk).trans (by simp))) (fun c_7 => ?_) (fun c_7 => ?_)
  · -- taken
    refine r_iconst X (v := nI (0)) d_Nm_hasBit_14 (by decide) ?_
    exact V.eq hJ_1 rfl rfl rfl (by rw [show (!(!bt x k)) = false from by first | (simp only [c_7, decide_true, decide_false, Bool.not_true, Bool.not_false, Bool.true_and, Bool.false_and, Bool.and_true, Bool.and_false, Bool.true_or, Bool.false_or, Bool.or_true, Bool.or_false, if_true, if_false, ite_true, ite_false, cond_true, cond_false, Bool.false_eq_true, reduceIte]; done) | (simp [c_7]; done) | (simp_all; done)]; rfl)
  · -- not taken
    refine r_iconst X (v := nI (1)) d_Nm_hasBit_10 (by decide) ?_
    refine r_goto X (tgt := 15) d_Nm_hasBit_11 (by decide) ?_
    exact V.eq hJ_1 rfl rfl rfl (by rw [show (!(!bt x k)) = true from by first | (simp only [c_7, decide_true, decide_false, Bool.not_true, Bool.not_false, Bool.true_and, Bool.false_and, Bool.and_true, Bool.and_false, Bool.true_or, Bool.false_or, Bool.or_true, Bool.or_false, if_true, if_false, ite_true, ite_false, cond_true, cond_false, Bool.false_eq_true, reduceIte]; done) | (simp [c_7]; done) | (simp_all; done)]; rfl)

set_option maxHeartbeats 4000000 in
set_option maxRecDepth 100000 in
theorem m_Nm_distanceOf (l : Launch) (o : OM) (mi : MI) (ml : ML) (x : Int64) (y : Int64)  : ConD l y_Nm_distanceOf c_Nm_distanceOf 4 (some .int) 1 21 o [.long (x), .long (y)] mi ml (some (.int (nI (ds x y)))) mi ml := by
  refine Con.mk (by decide) (Nat.le_of_ble_eq_true rfl) (fun γ X => ?_)
  show V γ o 4 mi ml 0 [(0, .long (x)), (2, .long (y))] []
  refine r_lload_n X 0 d_Nm_distanceOf_0 rfl rfl ?_
  refine r_lload_n X 1 d_Nm_distanceOf_1 rfl rfl ?_
  refine r_lxor X (v := (x) ^^^ (y)) d_Nm_distanceOf_2 (rfl) ?_
  refine r_callS X (m_Lg_bitCount l o mi ml ((x) ^^^ (y))) ok_Lg_bitCount w_Nm_91 rfl ⟨Nat.le_of_ble_eq_true rfl, Nat.le_of_ble_eq_true rfl⟩ (rest := []) rfl (Nat.le_of_ble_eq_true rfl) d_Nm_distanceOf_3 ?_
  refine kD (st' := [.int (nI (pop ((x) ^^^ (y))))]) rfl ?_
  refine r_end_i X d_Nm_distanceOf_6 ?_
  first | exact ⟨rfl, rfl, rfl⟩ | (refine ⟨?_, rfl, rfl⟩; simp_all)

set_option maxHeartbeats 4000000 in
set_option maxRecDepth 100000 in
theorem m_Nm_leastOf (l : Launch) (o : OM) (mi : MI) (ml : ML) (x : Int64)  : ConD l y_Nm_leastOf c_Nm_leastOf 3 (some .int) 1 22 o [.long (x)] mi ml (some (.int ((fromB (bt x) 64 0)))) mi ml := by
  refine Con.mk (by decide) (Nat.le_of_ble_eq_true rfl) (fun γ X => ?_)
  show V γ o 3 mi ml 0 [(0, .long (x))] []
  refine r_iconst X (v := nI (0)) d_Nm_leastOf_0 (by decide) ?_
  refine r_istore_n X [(2, .int (nI (0))), (0, .long (x))] d_Nm_leastOf_1 rfl (Nat.le_of_ble_eq_true rfl) rfl ?_
  have L2_1 : ∀ (d_i i : Nat), i + d_i = 64 → (fromB (bt x) 64 0 = fromB (bt x) d_i (i)) → V γ o 3 mi ml 2 [(0, .long (x)), (2, .int (nI (i)))] [] := by
    intro d_i
    induction d_i with
    | zero =>
      intro i hi_L2_1 hr
      have he_L2_1 : 64 = i := by omega
      subst he_L2_1
      refine r_iload_n X 1 d_Nm_leastOf_2 rfl rfl ?_
      refine r_bipush X (v := nI (64)) d_Nm_leastOf_3 (by decide) ?_
      refine r_icge X (tgt := 24) (c := 64 ≤ 64) d_Nm_leastOf_5 (by decide) (nI_leI (Nat.le_of_ble_eq_true rfl) (by omega)) (fun c_5 => ?_) (fun c_5 => ?_)
      · -- taken
        refine r_iconst X (v := ((-1 : Int32))) d_Nm_leastOf_24 (by decide) ?_
        refine r_end_i X d_Nm_leastOf_25 ?_
        refine ⟨?_, rfl, rfl⟩; rw [hr]; rfl
      · -- not taken
        exact False.elim (by omega)
    | succ d_i ih_L2_1 =>
      intro i hi_L2_1 hr
      have hlt_L2_1 : i < 64 := by omega
      refine r_iload_n X 1 d_Nm_leastOf_2 rfl rfl ?_
      refine r_bipush X (v := nI (64)) d_Nm_leastOf_3 (by decide) ?_
      refine r_icge X (tgt := 24) (c := 64 ≤ i) d_Nm_leastOf_5 (by decide) (nI_leI (Nat.le_of_ble_eq_true rfl) (by omega)) (fun c_5_2 => ?_) (fun c_5_2 => ?_)
      · -- taken
        exact False.elim (by omega)
      · -- not taken
        refine r_lload_n X 0 d_Nm_leastOf_8 rfl rfl ?_
        refine r_iload_n X 1 d_Nm_leastOf_9 rfl rfl ?_
        refine r_callS X (m_Nm_hasBit l o mi ml x i (by omega)) ok_Nm_hasBit w_Nm_260 rfl ⟨Nat.le_of_ble_eq_true rfl, Nat.le_of_ble_eq_true rfl⟩ (rest := []) rfl (Nat.le_of_ble_eq_true rfl) d_Nm_leastOf_10 ?_
        refine kD (st' := [.int (bI (bt x i))]) rfl ?_
        refine r_ifeqB X (tgt := 18) (b := bt x i) d_Nm_leastOf_13 (by decide) (fun c_13 => ?_) (fun c_13 => ?_)
        · -- taken
          refine r_iinc X 1 (v := nI (i + 1)) [(2, .int (nI (i + 1))), (0, .long (x))] d_Nm_leastOf_18 rfl (nI_add _ 1) (Nat.le_of_ble_eq_true rfl) rfl ?_
          refine r_goto X (tgt := 2) d_Nm_leastOf_21 (by decide) ?_
          refine V.wk [1, 0] (V.eq (ih_L2_1 (i + 1) (by omega) (hr.trans (fromB_miss (by simp_all)))) ?_ ?_ ?_ rfl) (rfl : lv_pick _ [1, 0] = [(0, .long (x)), (2, .int (nI (i + 1)))])
          · rfl
          · rfl
          · first | rfl | (simp_all [ct, lastB, alB, fromB]; done)
        · -- not taken
          refine r_iload_n X 1 d_Nm_leastOf_16 rfl rfl ?_
          refine r_end_i X d_Nm_leastOf_17 ?_
          refine ⟨?_, rfl, rfl⟩; exact congrArg (fun z => some (Value.int z)) (hr.trans (fromB_hit (by simp_all))).symm
  refine V.wk [1, 0] (V.eq (L2_1 (64 - 0) 0 (by omega) (rfl)) ?_ ?_ ?_ rfl) (rfl : lv_pick _ [1, 0] = [(0, .long (x)), (2, .int (nI (0)))])
  · rfl
  · rfl
  · rfl

set_option maxHeartbeats 4000000 in
set_option maxRecDepth 100000 in
theorem m_Nm_isKind (l : Launch) (o : OM) (mi : MI) (ml : ML) (k : Int32)  : ConD l y_Nm_isKind c_Nm_isKind 1 (some .boolean) 0 0 o [.int (k)] mi ml (some (.int (bI (!decide (k < 0) && !decide (nI 2 < k))))) mi ml := by
  refine Con.mk (by decide) (Nat.le_of_ble_eq_true rfl) (fun γ X => ?_)
  show V γ o 1 mi ml 0 [(0, .int (k))] []
  refine r_iload_n X 0 d_Nm_isKind_0 rfl rfl ?_
  have hJ_1 : V γ o 1 mi ml 14 [(0, .int (k))] [.int (bI ((!decide (k < 0) && !decide ((nI (2)) < k))))] := by
    refine r_end_z X (bI_nar _) d_Nm_isKind_14 ?_
    first | exact ⟨rfl, rfl, rfl⟩ | (refine ⟨?_, rfl, rfl⟩; simp_all)
  refine r_iflt X (tgt := 13) (c := k < 0) d_Nm_isKind_1 (by decide) (Iff.rfl) (fun c_1 => ?_) (fun c_1 => ?_)
  · -- taken
    refine r_iconst X (v := nI (0)) d_Nm_isKind_13 (by decide) ?_
    exact V.eq hJ_1 rfl rfl rfl (by rw [show ((!decide (k < 0) && !decide ((nI (2)) < k))) = false from by first | (simp only [eq_true c_1, decide_true, decide_false, Bool.not_true, Bool.not_false, Bool.true_and, Bool.false_and, Bool.and_true, Bool.and_false, Bool.true_or, Bool.false_or, Bool.or_true, Bool.or_false, if_true, if_false, ite_true, ite_false, cond_true, cond_false, Bool.false_eq_true, reduceIte]; done) | (simp [c_1]; done) | (simp_all; done)]; rfl)
  · -- not taken
    refine r_iload_n X 0 d_Nm_isKind_4 rfl rfl ?_
    refine r_iconst X (v := nI (2)) d_Nm_isKind_5 (by decide) ?_
    refine r_icgt X (tgt := 13) (c := (nI (2)) < k) d_Nm_isKind_6 (by decide) (Iff.rfl) (fun c_6 => ?_) (fun c_6 => ?_)
    · -- taken
      refine r_iconst X (v := nI (0)) d_Nm_isKind_13 (by decide) ?_
      exact V.eq hJ_1 rfl rfl rfl (by rw [show ((!decide (k < 0) && !decide ((nI (2)) < k))) = false from by first | (simp only [eq_false c_1, eq_true c_6, decide_true, decide_false, Bool.not_true, Bool.not_false, Bool.true_and, Bool.false_and, Bool.and_true, Bool.and_false, Bool.true_or, Bool.false_or, Bool.or_true, Bool.or_false, if_true, if_false, ite_true, ite_false, cond_true, cond_false, Bool.false_eq_true, reduceIte]; done) | (simp [c_1, c_6]; done) | (simp_all; done)]; rfl)
    · -- not taken
      refine r_iconst X (v := nI (1)) d_Nm_isKind_9 (by decide) ?_
      refine r_goto X (tgt := 14) d_Nm_isKind_10 (by decide) ?_
      exact V.eq hJ_1 rfl rfl rfl (by rw [show ((!decide (k < 0) && !decide ((nI (2)) < k))) = true from by first | (simp only [eq_false c_1, eq_false c_6, decide_true, decide_false, Bool.not_true, Bool.not_false, Bool.true_and, Bool.false_and, Bool.and_true, Bool.and_false, Bool.true_or, Bool.false_or, Bool.or_true, Bool.or_false, if_true, if_false, ite_true, ite_false, cond_true, cond_false, Bool.false_eq_true, reduceIte]; done) | (simp [c_1, c_6]; done) | (simp_all; done)]; rfl)

set_option maxHeartbeats 4000000 in
set_option maxRecDepth 100000 in
theorem m_Nm_isDistance (l : Launch) (o : OM) (mi : MI) (ml : ML) (k : Int32)  : ConD l y_Nm_isDistance c_Nm_isDistance 1 (some .boolean) 0 0 o [.int (k)] mi ml (some (.int (bI (!decide (k < 0) && !decide (nI 64 < k))))) mi ml := by
  refine Con.mk (by decide) (Nat.le_of_ble_eq_true rfl) (fun γ X => ?_)
  show V γ o 1 mi ml 0 [(0, .int (k))] []
  refine r_iload_n X 0 d_Nm_isDistance_0 rfl rfl ?_
  have hJ_1 : V γ o 1 mi ml 15 [(0, .int (k))] [.int (bI ((!decide (k < 0) && !decide ((nI (64)) < k))))] := by
    refine r_end_z X (bI_nar _) d_Nm_isDistance_15 ?_
    first | exact ⟨rfl, rfl, rfl⟩ | (refine ⟨?_, rfl, rfl⟩; simp_all)
  refine r_iflt X (tgt := 14) (c := k < 0) d_Nm_isDistance_1 (by decide) (Iff.rfl) (fun c_1 => ?_) (fun c_1 => ?_)
  · -- taken
    refine r_iconst X (v := nI (0)) d_Nm_isDistance_14 (by decide) ?_
    exact V.eq hJ_1 rfl rfl rfl (by rw [show ((!decide (k < 0) && !decide ((nI (64)) < k))) = false from by first | (simp only [eq_true c_1, decide_true, decide_false, Bool.not_true, Bool.not_false, Bool.true_and, Bool.false_and, Bool.and_true, Bool.and_false, Bool.true_or, Bool.false_or, Bool.or_true, Bool.or_false, if_true, if_false, ite_true, ite_false, cond_true, cond_false, Bool.false_eq_true, reduceIte]; done) | (simp [c_1]; done) | (simp_all; done)]; rfl)
  · -- not taken
    refine r_iload_n X 0 d_Nm_isDistance_4 rfl rfl ?_
    refine r_bipush X (v := nI (64)) d_Nm_isDistance_5 (by decide) ?_
    refine r_icgt X (tgt := 14) (c := (nI (64)) < k) d_Nm_isDistance_7 (by decide) (Iff.rfl) (fun c_7 => ?_) (fun c_7 => ?_)
    · -- taken
      refine r_iconst X (v := nI (0)) d_Nm_isDistance_14 (by decide) ?_
      exact V.eq hJ_1 rfl rfl rfl (by rw [show ((!decide (k < 0) && !decide ((nI (64)) < k))) = false from by first | (simp only [eq_false c_1, eq_true c_7, decide_true, decide_false, Bool.not_true, Bool.not_false, Bool.true_and, Bool.false_and, Bool.and_true, Bool.and_false, Bool.true_or, Bool.false_or, Bool.or_true, Bool.or_false, if_true, if_false, ite_true, ite_false, cond_true, cond_false, Bool.false_eq_true, reduceIte]; done) | (simp [c_1, c_7]; done) | (simp_all; done)]; rfl)
    · -- not taken
      refine r_iconst X (v := nI (1)) d_Nm_isDistance_10 (by decide) ?_
      refine r_goto X (tgt := 15) d_Nm_isDistance_11 (by decide) ?_
      exact V.eq hJ_1 rfl rfl rfl (by rw [show ((!decide (k < 0) && !decide ((nI (64)) < k))) = true from by first | (simp only [eq_false c_1, eq_false c_7, decide_true, decide_false, Bool.not_true, Bool.not_false, Bool.true_and, Bool.false_and, Bool.and_true, Bool.and_false, Bool.true_or, Bool.false_or, Bool.or_true, Bool.or_false, if_true, if_false, ite_true, ite_false, cond_true, cond_false, Bool.false_eq_true, reduceIte]; done) | (simp [c_1, c_7]; done) | (simp_all; done)]; rfl)

set_option maxHeartbeats 4000000 in
set_option maxRecDepth 100000 in
theorem m_St_has (l : Launch) (o : OM) (mi : MI) (ml : ML) (a : Nat) (k : Int32) (n : Nat) (hS : isSt a) (hn : mi a 2 = nI n) (hn40 : n ≤ 40) : ConD l y_St_has c_St_has 2 (some .boolean) 0 0 o [.ref (ads o (a)), .int (k)] mi ml (some (.int (bI (isMk n k)))) mi ml := by
  refine Con.mk (by decide) (Nat.le_of_ble_eq_true rfl) (fun γ X => ?_)
  show V γ o 2 mi ml 0 [(0, .ref (ads o (a))), (1, .int (k))] []
  refine r_iload_n X 1 d_St_has_0 rfl rfl ?_
  have hJ_1 : V γ o 2 mi ml 17 [(0, .ref (ads o (a))), (1, .int (k))] [.int (bI ((!decide (k < 0) && !decide ((nI (n)) ≤ k))))] := by
    refine r_end_z X (bI_nar _) d_St_has_17 ?_
    refine ⟨?_, rfl, rfl⟩; rw [isMk_cl]
  refine r_iflt X (tgt := 16) (c := k < 0) d_St_has_1 (by decide) (Iff.rfl) (fun c_1 => ?_) (fun c_1 => ?_)
  · -- taken
    refine r_iconst X (v := nI (0)) d_St_has_16 (by decide) ?_
    exact V.eq hJ_1 rfl rfl rfl (by rw [show ((!decide (k < 0) && !decide ((nI (n)) ≤ k))) = false from by first | (simp only [eq_true c_1, decide_true, decide_false, Bool.not_true, Bool.not_false, Bool.true_and, Bool.false_and, Bool.and_true, Bool.and_false, Bool.true_or, Bool.false_or, Bool.or_true, Bool.or_false, if_true, if_false, ite_true, ite_false, cond_true, cond_false, Bool.false_eq_true, reduceIte]; done) | (simp [c_1]; done) | (simp_all; done)]; rfl)
  · -- not taken
    refine r_iload_n X 1 d_St_has_4 rfl rfl ?_
    refine r_aload_n X 0 d_St_has_5 rfl rfl ?_
    refine r_get X f_St_28 hS.b0 hS.e0 (v := .int (nI (n))) (congrArg (fun z => some (Value.int z)) (hn)) d_St_has_6 ?_
    refine r_icge X (tgt := 16) (c := (nI (n)) ≤ k) d_St_has_9 (by decide) (Iff.rfl) (fun c_9 => ?_) (fun c_9 => ?_)
    · -- taken
      refine r_iconst X (v := nI (0)) d_St_has_16 (by decide) ?_
      exact V.eq hJ_1 rfl rfl rfl (by rw [show ((!decide (k < 0) && !decide ((nI (n)) ≤ k))) = false from by first | (simp only [eq_false c_1, eq_true c_9, decide_true, decide_false, Bool.not_true, Bool.not_false, Bool.true_and, Bool.false_and, Bool.and_true, Bool.and_false, Bool.true_or, Bool.false_or, Bool.or_true, Bool.or_false, if_true, if_false, ite_true, ite_false, cond_true, cond_false, Bool.false_eq_true, reduceIte]; done) | (simp [c_1, c_9]; done) | (simp_all; done)]; rfl)
    · -- not taken
      refine r_iconst X (v := nI (1)) d_St_has_12 (by decide) ?_
      refine r_goto X (tgt := 17) d_St_has_13 (by decide) ?_
      exact V.eq hJ_1 rfl rfl rfl (by rw [show ((!decide (k < 0) && !decide ((nI (n)) ≤ k))) = true from by first | (simp only [eq_false c_1, eq_false c_9, decide_true, decide_false, Bool.not_true, Bool.not_false, Bool.true_and, Bool.false_and, Bool.and_true, Bool.and_false, Bool.true_or, Bool.false_or, Bool.or_true, Bool.or_false, if_true, if_false, ite_true, ite_false, cond_true, cond_false, Bool.false_eq_true, reduceIte]; done) | (simp [c_1, c_9]; done) | (simp_all; done)]; rfl)

set_option maxHeartbeats 4000000 in
set_option maxRecDepth 100000 in
theorem m_St_hasBoth (l : Launch) (o : OM) (mi : MI) (ml : ML) (a : Nat) (j : Int32) (k : Int32) (n : Nat) (hS : isSt a) (hn : mi a 2 = nI n) (hn40 : n ≤ 40) : ConD l y_St_hasBoth c_St_hasBoth 3 (some .boolean) 1 21 o [.ref (ads o (a)), .int (j), .int (k)] mi ml (some (.int (bI ((isMk n j && (isMk n k && !decide (j = k))))))) mi ml := by
  refine Con.mk (by decide) (Nat.le_of_ble_eq_true rfl) (fun γ X => ?_)
  show V γ o 3 mi ml 0 [(0, .ref (ads o (a))), (1, .int (j)), (2, .int (k))] []
  refine r_aload_n X 0 d_St_hasBoth_0 rfl rfl ?_
  refine r_iload_n X 1 d_St_hasBoth_1 rfl rfl ?_
  refine r_callV X (m_St_has l o mi ml a j n hS (hn) hn40) ok_St_has w_St_32 rfl hS.b0 hS.e0 rfl ⟨Nat.le_of_ble_eq_true rfl, Nat.le_of_ble_eq_true rfl⟩ (rest := []) rfl (Nat.le_of_ble_eq_true rfl) d_St_hasBoth_2 ?_
  refine kD (st' := [.int (bI (isMk n j))]) rfl ?_
  have hJ_1 : V γ o 3 mi ml 26 [(0, .ref (ads o (a))), (1, .int (j)), (2, .int (k))] [.int (bI (((isMk n j) && ((isMk n k) && !decide (j = k)))))] := by
    refine r_end_z X (bI_nar _) d_St_hasBoth_26 ?_
    first | exact ⟨rfl, rfl, rfl⟩ | (refine ⟨?_, rfl, rfl⟩; simp_all)
  refine r_ifeqB X (tgt := 25) (b := isMk n j) d_St_hasBoth_5 (by decide) (fun c_5 => ?_) (fun c_5 => ?_)
  · -- taken
    refine r_iconst X (v := nI (0)) d_St_hasBoth_25 (by decide) ?_
    exact V.eq hJ_1 rfl rfl rfl (by rw [show (((isMk n j) && ((isMk n k) && !decide (j = k)))) = false from by first | (simp only [c_5, decide_true, decide_false, Bool.not_true, Bool.not_false, Bool.true_and, Bool.false_and, Bool.and_true, Bool.and_false, Bool.true_or, Bool.false_or, Bool.or_true, Bool.or_false, if_true, if_false, ite_true, ite_false, cond_true, cond_false, Bool.false_eq_true, reduceIte]; done) | (simp [c_5]; done) | (simp_all; done)]; rfl)
  · -- not taken
    refine r_aload_n X 0 d_St_hasBoth_8 rfl rfl ?_
    refine r_iload_n X 2 d_St_hasBoth_9 rfl rfl ?_
    refine r_callV X (m_St_has l o mi ml a k n hS (hn) hn40) ok_St_has w_St_32 rfl hS.b0 hS.e0 rfl ⟨Nat.le_of_ble_eq_true rfl, Nat.le_of_ble_eq_true rfl⟩ (rest := []) rfl (Nat.le_of_ble_eq_true rfl) d_St_hasBoth_10 ?_
    refine kD (st' := [.int (bI (isMk n k))]) rfl ?_
    refine r_ifeqB X (tgt := 25) (b := isMk n k) d_St_hasBoth_13 (by decide) (fun c_13 => ?_) (fun c_13 => ?_)
    · -- taken
      refine r_iconst X (v := nI (0)) d_St_hasBoth_25 (by decide) ?_
      exact V.eq hJ_1 rfl rfl rfl (by rw [show (((isMk n j) && ((isMk n k) && !decide (j = k)))) = false from by first | (simp only [c_5, c_13, decide_true, decide_false, Bool.not_true, Bool.not_false, Bool.true_and, Bool.false_and, Bool.and_true, Bool.and_false, Bool.true_or, Bool.false_or, Bool.or_true, Bool.or_false, if_true, if_false, ite_true, ite_false, cond_true, cond_false, Bool.false_eq_true, reduceIte]; done) | (simp [c_5, c_13]; done) | (simp_all; done)]; rfl)
    · -- not taken
      refine r_iload_n X 1 d_St_hasBoth_16 rfl rfl ?_
      refine r_iload_n X 2 d_St_hasBoth_17 rfl rfl ?_
      refine r_iceq X (tgt := 25) (c := j = k) d_St_hasBoth_18 (by decide) (Iff.rfl) (fun c_18 => ?_) (fun c_18 => ?_)
      · -- taken
        refine r_iconst X (v := nI (0)) d_St_hasBoth_25 (by decide) ?_
        exact V.eq hJ_1 rfl rfl rfl (by rw [show (((isMk n j) && ((isMk n k) && !decide (j = k)))) = false from by first | (simp only [c_5, c_13, eq_true c_18, decide_true, decide_false, Bool.not_true, Bool.not_false, Bool.true_and, Bool.false_and, Bool.and_true, Bool.and_false, Bool.true_or, Bool.false_or, Bool.or_true, Bool.or_false, if_true, if_false, ite_true, ite_false, cond_true, cond_false, Bool.false_eq_true, reduceIte]; done) | (simp [c_5, c_13, c_18]; done) | (simp_all; done)]; rfl)
      · -- not taken
        refine r_iconst X (v := nI (1)) d_St_hasBoth_21 (by decide) ?_
        refine r_goto X (tgt := 26) d_St_hasBoth_22 (by decide) ?_
        exact V.eq hJ_1 rfl rfl rfl (by rw [show (((isMk n j) && ((isMk n k) && !decide (j = k)))) = true from by first | (simp only [c_5, c_13, eq_false c_18, decide_true, decide_false, Bool.not_true, Bool.not_false, Bool.true_and, Bool.false_and, Bool.and_true, Bool.and_false, Bool.true_or, Bool.false_or, Bool.or_true, Bool.or_false, if_true, if_false, ite_true, ite_false, cond_true, cond_false, Bool.false_eq_true, reduceIte]; done) | (simp [c_5, c_13, c_18]; done) | (simp_all; done)]; rfl)

set_option maxHeartbeats 4000000 in
set_option maxRecDepth 100000 in
theorem m_St_numberOf (l : Launch) (o : OM) (mi : MI) (ml : ML) (a : Nat) (x : Int64) (n : Nat) (hS : isSt a) (hn : mi a 2 = nI n) (hn40 : n ≤ 40) : ConD l y_St_numberOf c_St_numberOf 4 (some .int) 0 0 o [.ref (ads o (a)), .long (x)] mi ml (some (.int ((fromB (fun k => decide (ml (a + 1) k = x)) n 0)))) mi ml := by
  refine Con.mk (by decide) (Nat.le_of_ble_eq_true rfl) (fun γ X => ?_)
  show V γ o 4 mi ml 0 [(0, .ref (ads o (a))), (1, .long (x))] []
  refine r_iconst X (v := nI (0)) d_St_numberOf_0 (by decide) ?_
  refine r_istore_n X [(3, .int (nI (0))), (0, .ref (ads o (a))), (1, .long (x))] d_St_numberOf_1 rfl (Nat.le_of_ble_eq_true rfl) rfl ?_
  have L2_1 : ∀ (d_i i : Nat), i + d_i = n → (fromB (fun k => decide (ml (a + 1) k = x)) n 0 = fromB (fun k => decide (ml (a + 1) k = x)) d_i (i)) → V γ o 4 mi ml 2 [(0, .ref (ads o (a))), (1, .long (x)), (3, .int (nI (i)))] [] := by
    intro d_i
    induction d_i with
    | zero =>
      intro i hi_L2_1 hr
      have he_L2_1 : n = i := by omega
      subst he_L2_1
      refine r_iload_n X 2 d_St_numberOf_2 rfl rfl ?_
      refine r_aload_n X 0 d_St_numberOf_3 rfl rfl ?_
      refine r_get X f_St_28 hS.b0 hS.e0 (v := .int (nI (n))) (congrArg (fun z => some (Value.int z)) (hn)) d_St_numberOf_4 ?_
      refine r_icge X (tgt := 29) (c := n ≤ n) d_St_numberOf_7 (by decide) (nI_leI (by omega) (by omega)) (fun c_7 => ?_) (fun c_7 => ?_)
      · -- taken
        refine r_iconst X (v := ((-1 : Int32))) d_St_numberOf_29 (by decide) ?_
        refine r_end_i X d_St_numberOf_30 ?_
        refine ⟨?_, rfl, rfl⟩; rw [hr]; rfl
      · -- not taken
        exact False.elim (by omega)
    | succ d_i ih_L2_1 =>
      intro i hi_L2_1 hr
      have hlt_L2_1 : i < n := by omega
      refine r_iload_n X 2 d_St_numberOf_2 rfl rfl ?_
      refine r_aload_n X 0 d_St_numberOf_3 rfl rfl ?_
      refine r_get X f_St_28 hS.b0 hS.e0 (v := .int (nI (n))) (congrArg (fun z => some (Value.int z)) (hn)) d_St_numberOf_4 ?_
      refine r_icge X (tgt := 29) (c := n ≤ i) d_St_numberOf_7 (by decide) (nI_leI (by omega) (by omega)) (fun c_7_2 => ?_) (fun c_7_2 => ?_)
      · -- taken
        exact False.elim (by omega)
      · -- not taken
        refine r_aload_n X 0 d_St_numberOf_10 rfl rfl ?_
        refine r_get X f_St_17 hS.b0 hS.e0 (v := .ref (ads o (a + 1))) rfl d_St_numberOf_11 ?_
        refine r_iload_n X 2 d_St_numberOf_14 rfl rfl ?_
        refine r_lald X (v := ml (a + 1) i) hS.b1 hS.e1 (Nat.le_of_ble_eq_true rfl) (by omega) rfl d_St_numberOf_15 ?_
        refine r_lload_n X 1 d_St_numberOf_16 rfl rfl ?_
        refine r_lcmp X d_St_numberOf_17 ?_
        refine r_ifneP X (tgt := 23) (c := (ml (a + 1) i) = x) d_St_numberOf_18 (by decide) (lg_cmp_eq _ _) (fun c_18 => ?_) (fun c_18 => ?_)
        · -- taken
          refine r_iinc X 2 (v := nI (i + 1)) [(3, .int (nI (i + 1))), (0, .ref (ads o (a))), (1, .long (x))] d_St_numberOf_23 rfl (nI_add _ 1) (Nat.le_of_ble_eq_true rfl) rfl ?_
          refine r_goto X (tgt := 2) d_St_numberOf_26 (by decide) ?_
          refine V.wk [1, 2, 0] (V.eq (ih_L2_1 (i + 1) (by omega) (hr.trans (fromB_miss (by simp_all)))) ?_ ?_ ?_ rfl) (rfl : lv_pick _ [1, 2, 0] = [(0, .ref (ads o (a))), (1, .long (x)), (3, .int (nI (i + 1)))])
          · rfl
          · rfl
          · first | rfl | (simp_all [ct, lastB, alB, fromB]; done)
        · -- not taken
          refine r_iload_n X 2 d_St_numberOf_21 rfl rfl ?_
          refine r_end_i X d_St_numberOf_22 ?_
          refine ⟨?_, rfl, rfl⟩; exact congrArg (fun z => some (Value.int z)) (hr.trans (fromB_hit (by simp_all))).symm
  refine V.wk [1, 2, 0] (V.eq (L2_1 (n - 0) 0 (by omega) (rfl)) ?_ ?_ ?_ rfl) (rfl : lv_pick _ [1, 2, 0] = [(0, .ref (ads o (a))), (1, .long (x)), (3, .int (nI (0)))])
  · rfl
  · rfl
  · rfl

set_option maxHeartbeats 4000000 in
set_option maxRecDepth 100000 in
theorem m_St_addHand (l : Launch) (o : OM) (mi : MI) (ml : ML) (a : Nat) (q : Nat) (n : Nat) (h : Int64) (hS : isSt a) (hn : mi a 2 = nI n) (hn40 : n < 40) (hh : ml a 0 = h) : ConD l y_St_addHand c_St_addHand 2 none 0 0 o [.ref (ads o (a)), .int (nI (q))] mi ml none (u2 (u2 mi (a + 2) n (nI q)) a 2 (nI (n + 1))) (u2 ml (a + 1) n h) := by
  refine Con.mk (by decide) (Nat.le_of_ble_eq_true rfl) (fun γ X => ?_)
  show V γ o 2 mi ml 0 [(0, .ref (ads o (a))), (1, .int (nI (q)))] []
  refine r_aload_n X 0 d_St_addHand_0 rfl rfl ?_
  refine r_get X f_St_28 hS.b0 hS.e0 (v := .int (nI (n))) (congrArg (fun z => some (Value.int z)) (hn)) d_St_addHand_1 ?_
  refine r_bipush X (v := nI (40)) d_St_addHand_4 (by decide) ?_
  refine r_icge X (tgt := 42) (c := 40 ≤ n) d_St_addHand_6 (by decide) (nI_leI (Nat.le_of_ble_eq_true rfl) (by omega)) (fun c_6 => ?_) (fun c_6 => ?_)
  · -- taken
    exact False.elim (by omega)
  · -- not taken
    refine r_aload_n X 0 d_St_addHand_9 rfl rfl ?_
    refine r_get X f_St_17 hS.b0 hS.e0 (v := .ref (ads o (a + 1))) rfl d_St_addHand_10 ?_
    refine r_aload_n X 0 d_St_addHand_13 rfl rfl ?_
    refine r_get X f_St_28 hS.b0 hS.e0 (v := .int (nI (n))) (congrArg (fun z => some (Value.int z)) (hn)) d_St_addHand_14 ?_
    refine r_aload_n X 0 d_St_addHand_17 rfl rfl ?_
    refine r_get X f_St_25 hS.b0 hS.e0 (v := .long (h)) (congrArg (fun z => some (Value.long z)) (hh)) d_St_addHand_18 ?_
    refine r_last X hS.b1 hS.e1 (Nat.le_of_ble_eq_true rfl) (by omega) d_St_addHand_21 ?_
    refine r_aload_n X 0 d_St_addHand_22 rfl rfl ?_
    refine r_get X f_St_21 hS.b0 hS.e0 (v := .ref (ads o (a + 2))) rfl d_St_addHand_23 ?_
    refine r_aload_n X 0 d_St_addHand_26 rfl rfl ?_
    refine r_get X f_St_28 hS.b0 hS.e0 (v := .int (nI (n))) (congrArg (fun z => some (Value.int z)) (hn)) d_St_addHand_27 ?_
    refine r_iload_n X 1 d_St_addHand_30 rfl rfl ?_
    refine r_iast X hS.b2 hS.e2 (Nat.le_of_ble_eq_true rfl) (by omega) d_St_addHand_31 ?_
    refine r_aload_n X 0 d_St_addHand_32 rfl rfl ?_
    refine r_dup X d_St_addHand_33 rfl ?_
    refine r_get X f_St_28 hS.b0 hS.e0 (v := .int (nI (n))) (congrArg (fun z => some (Value.int z)) ((by rw [u2_n _ _ _ (by omega)] <;> exact hn))) d_St_addHand_34 ?_
    refine r_iconst X (v := nI (1)) d_St_addHand_37 (by decide) ?_
    refine r_iadd X (v := nI (n + 1)) d_St_addHand_38 (nI_add _ _) ?_
    refine r_putI X fw_St_28 hS.b0 hS.e0 (fun _ _ => rfl) (Nat.le_of_ble_eq_true rfl) d_St_addHand_39 ?_
    refine r_end_v X d_St_addHand_42 ?_
    exact ⟨rfl, rfl, rfl⟩

set_option maxHeartbeats 4000000 in
set_option maxRecDepth 100000 in
theorem m_St_remove (l : Launch) (o : OM) (mi : MI) (ml : ML) (a : Nat) (k : Nat) (n : Nat) (hS : isSt a) (hn : mi a 2 = nI n) (hn40 : n ≤ 40) (hk : k < n) : ConD l y_St_remove c_St_remove 3 none 0 0 o [.ref (ads o (a)), .int (nI (k))] mi ml none (u2 (shL mi (a + 2) k 1 (n - (k + 1))) a 2 (nI (n - 1))) (shL ml (a + 1) k 1 (n - (k + 1))) := by
  refine Con.mk (by decide) (Nat.le_of_ble_eq_true rfl) (fun γ X => ?_)
  show V γ o 3 mi ml 0 [(0, .ref (ads o (a))), (1, .int (nI (k)))] []
  refine r_iload_n X 1 d_St_remove_0 rfl rfl ?_
  refine r_iconst X (v := nI (1)) d_St_remove_1 (by decide) ?_
  refine r_iadd X (v := nI (k + 1)) d_St_remove_2 (nI_add _ _) ?_
  refine r_istore_n X [(2, .int (nI (k + 1))), (0, .ref (ads o (a))), (1, .int (nI (k)))] d_St_remove_3 rfl (Nat.le_of_ble_eq_true rfl) rfl ?_
  have L4_1 : ∀ (d_i i : Nat), i + d_i = n - (k + 1) → V γ o 3 (shL mi (a + 2) k 1 (i)) (shL ml (a + 1) k 1 (i)) 4 [(0, .ref (ads o (a))), (1, .int (nI (k))), (2, .int (nI (k + 1 + i)))] [] := by
    intro d_i
    induction d_i with
    | zero =>
      intro i hi_L4_1 
      have he_L4_1 : n - (k + 1) = i := by omega
      subst he_L4_1
      refine r_iload_n X 2 d_St_remove_4 rfl rfl ?_
      refine r_aload_n X 0 d_St_remove_5 rfl rfl ?_
      refine r_get X f_St_28 hS.b0 hS.e0 (v := .int (nI (n))) (congrArg (fun z => some (Value.int z)) ((by rw [shL_n _ (by omega)]; exact hn))) d_St_remove_6 ?_
      refine r_icge X (tgt := 46) (c := n ≤ (k + 1 + (n - (k + 1)))) d_St_remove_9 (by decide) (nI_leI (by omega) (by omega)) (fun c_9 => ?_) (fun c_9 => ?_)
      · -- taken
        refine r_aload_n X 0 d_St_remove_46 rfl rfl ?_
        refine r_dup X d_St_remove_47 rfl ?_
        refine r_get X f_St_28 hS.b0 hS.e0 (v := .int (nI (n))) (congrArg (fun z => some (Value.int z)) ((by rw [shL_n _ (by omega)]; exact hn))) d_St_remove_48 ?_
        refine r_iconst X (v := nI (1)) d_St_remove_51 (by decide) ?_
        refine r_isub X (v := nI (n - 1)) d_St_remove_52 (pk_sub (by omega)) ?_
        refine r_putI X fw_St_28 hS.b0 hS.e0 (fun _ _ => rfl) (Nat.le_of_ble_eq_true rfl) d_St_remove_53 ?_
        refine r_end_v X d_St_remove_56 ?_
        exact ⟨rfl, rfl, rfl⟩
      · -- not taken
        exact False.elim (by omega)
    | succ d_i ih_L4_1 =>
      intro i hi_L4_1 
      have hlt_L4_1 : i < n - (k + 1) := by omega
      refine r_iload_n X 2 d_St_remove_4 rfl rfl ?_
      refine r_aload_n X 0 d_St_remove_5 rfl rfl ?_
      refine r_get X f_St_28 hS.b0 hS.e0 (v := .int (nI (n))) (congrArg (fun z => some (Value.int z)) ((by rw [shL_n _ (by omega)]; exact hn))) d_St_remove_6 ?_
      refine r_icge X (tgt := 46) (c := n ≤ (k + 1 + i)) d_St_remove_9 (by decide) (nI_leI (by omega) (by omega)) (fun c_9_2 => ?_) (fun c_9_2 => ?_)
      · -- taken
        exact False.elim (by omega)
      · -- not taken
        refine r_aload_n X 0 d_St_remove_12 rfl rfl ?_
        refine r_get X f_St_17 hS.b0 hS.e0 (v := .ref (ads o (a + 1))) rfl d_St_remove_13 ?_
        refine r_iload_n X 2 d_St_remove_16 rfl rfl ?_
        refine r_iconst X (v := nI (1)) d_St_remove_17 (by decide) ?_
        refine r_isub X (v := nI (k + 1 + i - 1)) d_St_remove_18 (pk_sub (by omega)) ?_
        refine r_aload_n X 0 d_St_remove_19 rfl rfl ?_
        refine r_get X f_St_17 hS.b0 hS.e0 (v := .ref (ads o (a + 1))) rfl d_St_remove_20 ?_
        refine r_iload_n X 2 d_St_remove_23 rfl rfl ?_
        refine r_lald X (v := (shL ml (a + 1) k 1 (i)) (a + 1) (k + 1 + i)) hS.b1 hS.e1 (Nat.le_of_ble_eq_true rfl) (by omega) rfl d_St_remove_24 ?_
        refine r_last X hS.b1 hS.e1 (Nat.le_of_ble_eq_true rfl) (by omega) d_St_remove_25 ?_
        refine r_aload_n X 0 d_St_remove_26 rfl rfl ?_
        refine r_get X f_St_21 hS.b0 hS.e0 (v := .ref (ads o (a + 2))) rfl d_St_remove_27 ?_
        refine r_iload_n X 2 d_St_remove_30 rfl rfl ?_
        refine r_iconst X (v := nI (1)) d_St_remove_31 (by decide) ?_
        refine r_isub X (v := nI (k + 1 + i - 1)) d_St_remove_32 (pk_sub (by omega)) ?_
        refine r_aload_n X 0 d_St_remove_33 rfl rfl ?_
        refine r_get X f_St_21 hS.b0 hS.e0 (v := .ref (ads o (a + 2))) rfl d_St_remove_34 ?_
        refine r_iload_n X 2 d_St_remove_37 rfl rfl ?_
        refine r_iald X (v := ((shL mi (a + 2) k 1 (i)) (a + 2) (k + 1 + i))) hS.b2 hS.e2 (Nat.le_of_ble_eq_true rfl) (by omega) rfl d_St_remove_38 ?_
        refine r_iast X hS.b2 hS.e2 (Nat.le_of_ble_eq_true rfl) (by omega) d_St_remove_39 ?_
        refine r_iinc X 2 (v := nI (k + 1 + i + 1)) [(2, .int (nI (k + 1 + i + 1))), (0, .ref (ads o (a))), (1, .int (nI (k)))] d_St_remove_40 rfl (nI_add _ 1) (Nat.le_of_ble_eq_true rfl) rfl ?_
        refine r_goto X (tgt := 4) d_St_remove_43 (by decide) ?_
        refine V.wk [1, 2, 0] (V.eq (ih_L4_1 (i + 1) (by omega) ) ?_ ?_ ?_ rfl) (rfl : lv_pick _ [1, 2, 0] = [(0, .ref (ads o (a))), (1, .int (nI (k))), (2, .int (nI (k + 1 + i + 1)))])
        · exact shL_step _ (by decide) (by omega) (by omega)
        · exact shL_step _ (by decide) (by omega) (by omega)
        · rfl
  refine V.wk [1, 2, 0] (V.eq (L4_1 ((n - (k + 1)) - 0) 0 (by omega) ) ?_ ?_ ?_ rfl) (rfl : lv_pick _ [1, 2, 0] = [(0, .ref (ads o (a))), (1, .int (nI (k))), (2, .int (nI (k + 1)))])
  · exact shL_0 _ _ _ _
  · exact shL_0 _ _ _ _
  · rfl

set_option maxHeartbeats 4000000 in
set_option maxRecDepth 100000 in
theorem m_St_fromHand (l : Launch) (o : OM) (mi : MI) (ml : ML) (a : Nat) (k : Nat) (hS : isSt a) (hk : k < 40) : ConD l y_St_fromHand c_St_fromHand 2 (some .int) 2 44 o [.ref (ads o (a)), .int (nI (k))] mi ml (some (.int (nI (ds (ml (a + 1) k) (ml a 0))))) mi ml := by
  refine Con.mk (by decide) (Nat.le_of_ble_eq_true rfl) (fun γ X => ?_)
  show V γ o 2 mi ml 0 [(0, .ref (ads o (a))), (1, .int (nI (k)))] []
  refine r_aload_n X 0 d_St_fromHand_0 rfl rfl ?_
  refine r_get X f_St_17 hS.b0 hS.e0 (v := .ref (ads o (a + 1))) rfl d_St_fromHand_1 ?_
  refine r_iload_n X 1 d_St_fromHand_4 rfl rfl ?_
  refine r_lald X (v := ml (a + 1) k) hS.b1 hS.e1 (Nat.le_of_ble_eq_true rfl) (by omega) rfl d_St_fromHand_5 ?_
  refine r_aload_n X 0 d_St_fromHand_6 rfl rfl ?_
  refine r_get X f_St_25 hS.b0 hS.e0 (v := .long (ml a 0)) rfl d_St_fromHand_7 ?_
  refine r_callN X (m_Nm_distanceOf l o mi ml (ml (a + 1) k) (ml a 0)) ok_Nm_distanceOf (host := "NearMarks") (by decide +kernel) rfl ⟨Nat.le_of_ble_eq_true rfl, Nat.le_of_ble_eq_true rfl⟩ (rest := []) rfl (Nat.le_of_ble_eq_true rfl) d_St_fromHand_10 ?_
  refine kD (st' := [.int (nI (ds (ml (a + 1) k) (ml a 0)))]) rfl ?_
  refine r_end_i X d_St_fromHand_13 ?_
  first | exact ⟨rfl, rfl, rfl⟩ | (refine ⟨?_, rfl, rfl⟩; simp_all)

set_option maxHeartbeats 4000000 in
set_option maxRecDepth 100000 in
theorem m_St_between (l : Launch) (o : OM) (mi : MI) (ml : ML) (a : Nat) (j : Nat) (k : Nat) (hS : isSt a) (hj : j < 40) (hk : k < 40) : ConD l y_St_between c_St_between 3 (some .int) 2 44 o [.ref (ads o (a)), .int (nI (j)), .int (nI (k))] mi ml (some (.int (nI (ds (ml (a + 1) j) (ml (a + 1) k))))) mi ml := by
  refine Con.mk (by decide) (Nat.le_of_ble_eq_true rfl) (fun γ X => ?_)
  show V γ o 3 mi ml 0 [(0, .ref (ads o (a))), (1, .int (nI (j))), (2, .int (nI (k)))] []
  refine r_aload_n X 0 d_St_between_0 rfl rfl ?_
  refine r_get X f_St_17 hS.b0 hS.e0 (v := .ref (ads o (a + 1))) rfl d_St_between_1 ?_
  refine r_iload_n X 1 d_St_between_4 rfl rfl ?_
  refine r_lald X (v := ml (a + 1) j) hS.b1 hS.e1 (Nat.le_of_ble_eq_true rfl) (by omega) rfl d_St_between_5 ?_
  refine r_aload_n X 0 d_St_between_6 rfl rfl ?_
  refine r_get X f_St_17 hS.b0 hS.e0 (v := .ref (ads o (a + 1))) rfl d_St_between_7 ?_
  refine r_iload_n X 2 d_St_between_10 rfl rfl ?_
  refine r_lald X (v := ml (a + 1) k) hS.b1 hS.e1 (Nat.le_of_ble_eq_true rfl) (by omega) rfl d_St_between_11 ?_
  refine r_callN X (m_Nm_distanceOf l o mi ml (ml (a + 1) j) (ml (a + 1) k)) ok_Nm_distanceOf (host := "NearMarks") (by decide +kernel) rfl ⟨Nat.le_of_ble_eq_true rfl, Nat.le_of_ble_eq_true rfl⟩ (rest := []) rfl (Nat.le_of_ble_eq_true rfl) d_St_between_12 ?_
  refine kD (st' := [.int (nI (ds (ml (a + 1) j) (ml (a + 1) k)))]) rfl ?_
  refine r_end_i X d_St_between_15 ?_
  first | exact ⟨rfl, rfl, rfl⟩ | (refine ⟨?_, rfl, rfl⟩; simp_all)

set_option maxHeartbeats 4000000 in
set_option maxRecDepth 100000 in
theorem m_St_countNearerThan (l : Launch) (o : OM) (mi : MI) (ml : ML) (a : Nat) (k : Nat) (n : Nat) (hS : isSt a) (hn : mi a 2 = nI n) (hn40 : n ≤ 40) (hk : k < n) : ConD l y_St_countNearerThan c_St_countNearerThan 6 (some .int) 3 65 o [.ref (ads o (a)), .int (nI (k))] mi ml (some (.int (nI (ahd (fun q => ds (ml (a + 1) q) (ml a 0)) n k)))) mi ml := by
  refine Con.mk (by decide) (Nat.le_of_ble_eq_true rfl) (fun γ X => ?_)
  show V γ o 6 mi ml 0 [(0, .ref (ads o (a))), (1, .int (nI (k)))] []
  refine r_aload_n X 0 d_St_countNearerThan_0 rfl rfl ?_
  refine r_iload_n X 1 d_St_countNearerThan_1 rfl rfl ?_
  refine r_callV X (m_St_fromHand l o mi ml a k hS (by omega)) ok_St_fromHand w_St_44 rfl hS.b0 hS.e0 rfl ⟨Nat.le_of_ble_eq_true rfl, Nat.le_of_ble_eq_true rfl⟩ (rest := []) rfl (Nat.le_of_ble_eq_true rfl) d_St_countNearerThan_2 ?_
  refine kD (st' := [.int (nI (ds (ml (a + 1) k) (ml a 0)))]) rfl ?_
  refine r_istore_n X [(2, .int (nI (ds (ml (a + 1) k) (ml a 0)))), (0, .ref (ads o (a))), (1, .int (nI (k)))] d_St_countNearerThan_5 rfl (Nat.le_of_ble_eq_true rfl) rfl ?_
  refine r_iconst X (v := nI (0)) d_St_countNearerThan_6 (by decide) ?_
  refine r_istore_n X [(3, .int (nI (0))), (2, .int (nI (ds (ml (a + 1) k) (ml a 0)))), (0, .ref (ads o (a))), (1, .int (nI (k)))] d_St_countNearerThan_7 rfl (Nat.le_of_ble_eq_true rfl) rfl ?_
  refine r_iconst X (v := nI (0)) d_St_countNearerThan_8 (by decide) ?_
  refine r_istore X [(4, .int (nI (0))), (3, .int (nI (0))), (2, .int (nI (ds (ml (a + 1) k) (ml a 0)))), (0, .ref (ads o (a))), (1, .int (nI (k)))] d_St_countNearerThan_9 (Nat.le_of_ble_eq_true rfl) rfl ?_
  have L11_1 : ∀ (d_i i : Nat), i + d_i = n → V γ o 6 mi ml 11 [(0, .ref (ads o (a))), (1, .int (nI (k))), (2, .int (nI (ds (ml (a + 1) k) (ml a 0)))), (3, .int (nI (ct (fun j => decide (ds (ml (a + 1) j) (ml a 0) < ds (ml (a + 1) k) (ml a 0)) || (decide (ds (ml (a + 1) j) (ml a 0) = ds (ml (a + 1) k) (ml a 0)) && !decide (k ≤ j))) (i)))), (4, .int (nI (i)))] [] := by
    intro d_i
    induction d_i with
    | zero =>
      intro i hi_L11_1 
      have he_L11_1 : n = i := by omega
      subst he_L11_1
      refine r_iload X 4 d_St_countNearerThan_11 rfl ?_
      refine r_aload_n X 0 d_St_countNearerThan_13 rfl rfl ?_
      refine r_get X f_St_28 hS.b0 hS.e0 (v := .int (nI (n))) (congrArg (fun z => some (Value.int z)) (hn)) d_St_countNearerThan_14 ?_
      refine r_icge X (tgt := 55) (c := n ≤ n) d_St_countNearerThan_17 (by decide) (nI_leI (by omega) (by omega)) (fun c_17 => ?_) (fun c_17 => ?_)
      · -- taken
        refine r_iload_n X 3 d_St_countNearerThan_55 rfl rfl ?_
        refine r_end_i X d_St_countNearerThan_56 ?_
        first | exact ⟨rfl, rfl, rfl⟩ | (refine ⟨?_, rfl, rfl⟩; simp_all)
      · -- not taken
        exact False.elim (by omega)
    | succ d_i ih_L11_1 =>
      intro i hi_L11_1 
      have hlt_L11_1 : i < n := by omega
      refine r_iload X 4 d_St_countNearerThan_11 rfl ?_
      refine r_aload_n X 0 d_St_countNearerThan_13 rfl rfl ?_
      refine r_get X f_St_28 hS.b0 hS.e0 (v := .int (nI (n))) (congrArg (fun z => some (Value.int z)) (hn)) d_St_countNearerThan_14 ?_
      refine r_icge X (tgt := 55) (c := n ≤ i) d_St_countNearerThan_17 (by decide) (nI_leI (by omega) (by omega)) (fun c_17_2 => ?_) (fun c_17_2 => ?_)
      · -- taken
        exact False.elim (by omega)
      · -- not taken
        refine r_aload_n X 0 d_St_countNearerThan_20 rfl rfl ?_
        refine r_iload X 4 d_St_countNearerThan_21 rfl ?_
        refine r_callV X (m_St_fromHand l o mi ml a i hS (by omega)) ok_St_fromHand w_St_44 rfl hS.b0 hS.e0 rfl ⟨Nat.le_of_ble_eq_true rfl, Nat.le_of_ble_eq_true rfl⟩ (rest := []) rfl (Nat.le_of_ble_eq_true rfl) d_St_countNearerThan_23 ?_
        refine kD (st' := [.int (nI (ds (ml (a + 1) i) (ml a 0)))]) rfl ?_
        refine r_istore X [(5, .int (nI (ds (ml (a + 1) i) (ml a 0)))), (0, .ref (ads o (a))), (1, .int (nI (k))), (2, .int (nI (ds (ml (a + 1) k) (ml a 0)))), (3, .int (nI (ct (fun j => decide (ds (ml (a + 1) j) (ml a 0) < ds (ml (a + 1) k) (ml a 0)) || (decide (ds (ml (a + 1) j) (ml a 0) = ds (ml (a + 1) k) (ml a 0)) && !decide (k ≤ j))) (i)))), (4, .int (nI (i)))] d_St_countNearerThan_26 (Nat.le_of_ble_eq_true rfl) rfl ?_
        refine r_iload X 0 d_St_countNearerThan_28 rfl ?_
        refine r_iload_n X 3 d_St_countNearerThan_30 rfl rfl ?_
        refine r_iclt X (tgt := 46) (c := (ds (ml (a + 1) i) (ml a 0)) < (ds (ml (a + 1) k) (ml a 0))) d_St_countNearerThan_31 (by decide) (nI_ltI (ds_lt _ _) (ds_lt _ _)) (fun c_31 => ?_) (fun c_31 => ?_)
        · -- taken
          refine r_iinc X 4 (v := nI (ct (fun j => decide (ds (ml (a + 1) j) (ml a 0) < ds (ml (a + 1) k) (ml a 0)) || (decide (ds (ml (a + 1) j) (ml a 0) = ds (ml (a + 1) k) (ml a 0)) && !decide (k ≤ j))) (i) + 1)) [(3, .int (nI (ct (fun j => decide (ds (ml (a + 1) j) (ml a 0) < ds (ml (a + 1) k) (ml a 0)) || (decide (ds (ml (a + 1) j) (ml a 0) = ds (ml (a + 1) k) (ml a 0)) && !decide (k ≤ j))) (i) + 1))), (5, .int (nI (ds (ml (a + 1) i) (ml a 0)))), (0, .ref (ads o (a))), (1, .int (nI (k))), (2, .int (nI (ds (ml (a + 1) k) (ml a 0)))), (4, .int (nI (i)))] d_St_countNearerThan_46 rfl (nI_add _ 1) (Nat.le_of_ble_eq_true rfl) rfl ?_
          refine r_iinc X 5 (v := nI (i + 1)) [(4, .int (nI (i + 1))), (3, .int (nI (ct (fun j => decide (ds (ml (a + 1) j) (ml a 0) < ds (ml (a + 1) k) (ml a 0)) || (decide (ds (ml (a + 1) j) (ml a 0) = ds (ml (a + 1) k) (ml a 0)) && !decide (k ≤ j))) (i) + 1))), (5, .int (nI (ds (ml (a + 1) i) (ml a 0)))), (0, .ref (ads o (a))), (1, .int (nI (k))), (2, .int (nI (ds (ml (a + 1) k) (ml a 0))))] d_St_countNearerThan_49 rfl (nI_add _ 1) (Nat.le_of_ble_eq_true rfl) rfl ?_
          refine r_goto X (tgt := 11) d_St_countNearerThan_52 (by decide) ?_
          refine V.wk [3, 4, 5, 1, 0] (V.eq (ih_L11_1 (i + 1) (by omega) ) ?_ ?_ ?_ rfl) (rfl : lv_pick _ [3, 4, 5, 1, 0] = [(0, .ref (ads o (a))), (1, .int (nI (k))), (2, .int (nI (ds (ml (a + 1) k) (ml a 0)))), (3, .int (nI (ct (fun j => decide (ds (ml (a + 1) j) (ml a 0) < ds (ml (a + 1) k) (ml a 0)) || (decide (ds (ml (a + 1) j) (ml a 0) = ds (ml (a + 1) k) (ml a 0)) && !decide (k ≤ j))) (i) + 1))), (4, .int (nI (i + 1)))])
          · rfl
          · rfl
          · first | rfl | (rw [ct_t] <;> simp_all; done) | (rw [ct_f] <;> simp_all; done)
        · -- not taken
          refine r_iload X 0 d_St_countNearerThan_34 rfl ?_
          refine r_iload_n X 3 d_St_countNearerThan_36 rfl rfl ?_
          refine r_icneP X (tgt := 49) (c := (ds (ml (a + 1) i) (ml a 0)) = (ds (ml (a + 1) k) (ml a 0))) d_St_countNearerThan_37 (by decide) (nI_eq (ds_lt _ _) (ds_lt _ _)) (fun c_37 => ?_) (fun c_37 => ?_)
          · -- taken
            refine r_iinc X 5 (v := nI (i + 1)) [(4, .int (nI (i + 1))), (5, .int (nI (ds (ml (a + 1) i) (ml a 0)))), (0, .ref (ads o (a))), (1, .int (nI (k))), (2, .int (nI (ds (ml (a + 1) k) (ml a 0)))), (3, .int (nI (ct (fun j => decide (ds (ml (a + 1) j) (ml a 0) < ds (ml (a + 1) k) (ml a 0)) || (decide (ds (ml (a + 1) j) (ml a 0) = ds (ml (a + 1) k) (ml a 0)) && !decide (k ≤ j))) (i))))] d_St_countNearerThan_49 rfl (nI_add _ 1) (Nat.le_of_ble_eq_true rfl) rfl ?_
            refine r_goto X (tgt := 11) d_St_countNearerThan_52 (by decide) ?_
            refine V.wk [2, 3, 4, 5, 0] (V.eq (ih_L11_1 (i + 1) (by omega) ) ?_ ?_ ?_ rfl) (rfl : lv_pick _ [2, 3, 4, 5, 0] = [(0, .ref (ads o (a))), (1, .int (nI (k))), (2, .int (nI (ds (ml (a + 1) k) (ml a 0)))), (3, .int (nI (ct (fun j => decide (ds (ml (a + 1) j) (ml a 0) < ds (ml (a + 1) k) (ml a 0)) || (decide (ds (ml (a + 1) j) (ml a 0) = ds (ml (a + 1) k) (ml a 0)) && !decide (k ≤ j))) (i)))), (4, .int (nI (i + 1)))])
            · rfl
            · rfl
            · first | rfl | (rw [ct_t] <;> simp_all; done) | (rw [ct_f] <;> simp_all; done)
          · -- not taken
            refine r_iload X 5 d_St_countNearerThan_40 rfl ?_
            refine r_iload_n X 2 d_St_countNearerThan_42 rfl rfl ?_
            refine r_icge X (tgt := 49) (c := k ≤ i) d_St_countNearerThan_43 (by decide) (nI_leI (by omega) (by omega)) (fun c_43 => ?_) (fun c_43 => ?_)
            · -- taken
              refine r_iinc X 5 (v := nI (i + 1)) [(4, .int (nI (i + 1))), (5, .int (nI (ds (ml (a + 1) i) (ml a 0)))), (0, .ref (ads o (a))), (1, .int (nI (k))), (2, .int (nI (ds (ml (a + 1) k) (ml a 0)))), (3, .int (nI (ct (fun j => decide (ds (ml (a + 1) j) (ml a 0) < ds (ml (a + 1) k) (ml a 0)) || (decide (ds (ml (a + 1) j) (ml a 0) = ds (ml (a + 1) k) (ml a 0)) && !decide (k ≤ j))) (i))))] d_St_countNearerThan_49 rfl (nI_add _ 1) (Nat.le_of_ble_eq_true rfl) rfl ?_
              refine r_goto X (tgt := 11) d_St_countNearerThan_52 (by decide) ?_
              refine V.wk [2, 3, 4, 5, 0] (V.eq (ih_L11_1 (i + 1) (by omega) ) ?_ ?_ ?_ rfl) (rfl : lv_pick _ [2, 3, 4, 5, 0] = [(0, .ref (ads o (a))), (1, .int (nI (k))), (2, .int (nI (ds (ml (a + 1) k) (ml a 0)))), (3, .int (nI (ct (fun j => decide (ds (ml (a + 1) j) (ml a 0) < ds (ml (a + 1) k) (ml a 0)) || (decide (ds (ml (a + 1) j) (ml a 0) = ds (ml (a + 1) k) (ml a 0)) && !decide (k ≤ j))) (i)))), (4, .int (nI (i + 1)))])
              · rfl
              · rfl
              · first | rfl | (rw [ct_t] <;> simp_all; done) | (rw [ct_f] <;> simp_all; done)
            · -- not taken
              refine r_iinc X 4 (v := nI (ct (fun j => decide (ds (ml (a + 1) j) (ml a 0) < ds (ml (a + 1) k) (ml a 0)) || (decide (ds (ml (a + 1) j) (ml a 0) = ds (ml (a + 1) k) (ml a 0)) && !decide (k ≤ j))) (i) + 1)) [(3, .int (nI (ct (fun j => decide (ds (ml (a + 1) j) (ml a 0) < ds (ml (a + 1) k) (ml a 0)) || (decide (ds (ml (a + 1) j) (ml a 0) = ds (ml (a + 1) k) (ml a 0)) && !decide (k ≤ j))) (i) + 1))), (5, .int (nI (ds (ml (a + 1) i) (ml a 0)))), (0, .ref (ads o (a))), (1, .int (nI (k))), (2, .int (nI (ds (ml (a + 1) k) (ml a 0)))), (4, .int (nI (i)))] d_St_countNearerThan_46 rfl (nI_add _ 1) (Nat.le_of_ble_eq_true rfl) rfl ?_
              refine r_iinc X 5 (v := nI (i + 1)) [(4, .int (nI (i + 1))), (3, .int (nI (ct (fun j => decide (ds (ml (a + 1) j) (ml a 0) < ds (ml (a + 1) k) (ml a 0)) || (decide (ds (ml (a + 1) j) (ml a 0) = ds (ml (a + 1) k) (ml a 0)) && !decide (k ≤ j))) (i) + 1))), (5, .int (nI (ds (ml (a + 1) i) (ml a 0)))), (0, .ref (ads o (a))), (1, .int (nI (k))), (2, .int (nI (ds (ml (a + 1) k) (ml a 0))))] d_St_countNearerThan_49 rfl (nI_add _ 1) (Nat.le_of_ble_eq_true rfl) rfl ?_
              refine r_goto X (tgt := 11) d_St_countNearerThan_52 (by decide) ?_
              refine V.wk [3, 4, 5, 1, 0] (V.eq (ih_L11_1 (i + 1) (by omega) ) ?_ ?_ ?_ rfl) (rfl : lv_pick _ [3, 4, 5, 1, 0] = [(0, .ref (ads o (a))), (1, .int (nI (k))), (2, .int (nI (ds (ml (a + 1) k) (ml a 0)))), (3, .int (nI (ct (fun j => decide (ds (ml (a + 1) j) (ml a 0) < ds (ml (a + 1) k) (ml a 0)) || (decide (ds (ml (a + 1) j) (ml a 0) = ds (ml (a + 1) k) (ml a 0)) && !decide (k ≤ j))) (i) + 1))), (4, .int (nI (i + 1)))])
              · rfl
              · rfl
              · first | rfl | (rw [ct_t] <;> simp_all; done) | (rw [ct_f] <;> simp_all; done)
  refine V.wk [3, 4, 2, 1, 0] (V.eq (L11_1 (n - 0) 0 (by omega) ) ?_ ?_ ?_ rfl) (rfl : lv_pick _ [3, 4, 2, 1, 0] = [(0, .ref (ads o (a))), (1, .int (nI (k))), (2, .int (nI (ds (ml (a + 1) k) (ml a 0)))), (3, .int (nI (0))), (4, .int (nI (0)))])
  · rfl
  · rfl
  · rfl

set_option maxHeartbeats 4000000 in
set_option maxRecDepth 100000 in
theorem m_St_byDistance (l : Launch) (o : OM) (mi : MI) (ml : ML) (a : Nat) (w : Int32) (n : Nat) (hS : isSt a) (hn : mi a 2 = nI n) (hn40 : n ≤ 40) : ConD l y_St_byDistance c_St_byDistance 3 (some .int) 4 90 o [.ref (ads o (a)), .int (w)] mi ml (some (.int ((fromB (fun k => decide (nI (ahd (fun q => ds (ml (a + 1) q) (ml a 0)) n k) = w)) n 0)))) mi ml := by
  refine Con.mk (by decide) (Nat.le_of_ble_eq_true rfl) (fun γ X => ?_)
  show V γ o 3 mi ml 0 [(0, .ref (ads o (a))), (1, .int (w))] []
  refine r_iconst X (v := nI (0)) d_St_byDistance_0 (by decide) ?_
  refine r_istore_n X [(2, .int (nI (0))), (0, .ref (ads o (a))), (1, .int (w))] d_St_byDistance_1 rfl (Nat.le_of_ble_eq_true rfl) rfl ?_
  have L2_1 : ∀ (d_i i : Nat), i + d_i = n → (fromB (fun k => decide (nI (ahd (fun q => ds (ml (a + 1) q) (ml a 0)) n k) = w)) n 0 = fromB (fun k => decide (nI (ahd (fun q => ds (ml (a + 1) q) (ml a 0)) n k) = w)) d_i (i)) → V γ o 3 mi ml 2 [(0, .ref (ads o (a))), (1, .int (w)), (2, .int (nI (i)))] [] := by
    intro d_i
    induction d_i with
    | zero =>
      intro i hi_L2_1 hr
      have he_L2_1 : n = i := by omega
      subst he_L2_1
      refine r_iload_n X 2 d_St_byDistance_2 rfl rfl ?_
      refine r_aload_n X 0 d_St_byDistance_3 rfl rfl ?_
      refine r_get X f_St_28 hS.b0 hS.e0 (v := .int (nI (n))) (congrArg (fun z => some (Value.int z)) (hn)) d_St_byDistance_4 ?_
      refine r_icge X (tgt := 27) (c := n ≤ n) d_St_byDistance_7 (by decide) (nI_leI (by omega) (by omega)) (fun c_7 => ?_) (fun c_7 => ?_)
      · -- taken
        refine r_iconst X (v := ((-1 : Int32))) d_St_byDistance_27 (by decide) ?_
        refine r_end_i X d_St_byDistance_28 ?_
        refine ⟨?_, rfl, rfl⟩; rw [hr]; rfl
      · -- not taken
        exact False.elim (by omega)
    | succ d_i ih_L2_1 =>
      intro i hi_L2_1 hr
      have hlt_L2_1 : i < n := by omega
      refine r_iload_n X 2 d_St_byDistance_2 rfl rfl ?_
      refine r_aload_n X 0 d_St_byDistance_3 rfl rfl ?_
      refine r_get X f_St_28 hS.b0 hS.e0 (v := .int (nI (n))) (congrArg (fun z => some (Value.int z)) (hn)) d_St_byDistance_4 ?_
      refine r_icge X (tgt := 27) (c := n ≤ i) d_St_byDistance_7 (by decide) (nI_leI (by omega) (by omega)) (fun c_7_2 => ?_) (fun c_7_2 => ?_)
      · -- taken
        exact False.elim (by omega)
      · -- not taken
        refine r_aload_n X 0 d_St_byDistance_10 rfl rfl ?_
        refine r_iload_n X 2 d_St_byDistance_11 rfl rfl ?_
        refine r_callV X (m_St_countNearerThan l o mi ml a i n hS (hn) hn40 (by omega)) ok_St_countNearerThan w_St_40 rfl hS.b0 hS.e0 rfl ⟨Nat.le_of_ble_eq_true rfl, Nat.le_of_ble_eq_true rfl⟩ (rest := []) rfl (Nat.le_of_ble_eq_true rfl) d_St_byDistance_12 ?_
        refine kD (st' := [.int (nI (ahd (fun q => ds (ml (a + 1) q) (ml a 0)) n i))]) rfl ?_
        refine r_iload_n X 1 d_St_byDistance_15 rfl rfl ?_
        refine r_icneP X (tgt := 21) (c := (nI (ahd (fun q => ds (ml (a + 1) q) (ml a 0)) n i)) = w) d_St_byDistance_16 (by decide) (Iff.rfl) (fun c_16 => ?_) (fun c_16 => ?_)
        · -- taken
          refine r_iinc X 2 (v := nI (i + 1)) [(2, .int (nI (i + 1))), (0, .ref (ads o (a))), (1, .int (w))] d_St_byDistance_21 rfl (nI_add _ 1) (Nat.le_of_ble_eq_true rfl) rfl ?_
          refine r_goto X (tgt := 2) d_St_byDistance_24 (by decide) ?_
          refine V.wk [1, 2, 0] (V.eq (ih_L2_1 (i + 1) (by omega) (hr.trans (fromB_miss (by simp_all)))) ?_ ?_ ?_ rfl) (rfl : lv_pick _ [1, 2, 0] = [(0, .ref (ads o (a))), (1, .int (w)), (2, .int (nI (i + 1)))])
          · rfl
          · rfl
          · first | rfl | (simp_all [ct, lastB, alB, fromB]; done)
        · -- not taken
          refine r_iload_n X 2 d_St_byDistance_19 rfl rfl ?_
          refine r_end_i X d_St_byDistance_20 ?_
          refine ⟨?_, rfl, rfl⟩; exact congrArg (fun z => some (Value.int z)) (hr.trans (fromB_hit (by simp_all))).symm
  refine V.wk [1, 2, 0] (V.eq (L2_1 (n - 0) 0 (by omega) (rfl)) ?_ ?_ ?_ rfl) (rfl : lv_pick _ [1, 2, 0] = [(0, .ref (ads o (a))), (1, .int (w)), (2, .int (nI (0)))])
  · rfl
  · rfl
  · rfl

set_option maxHeartbeats 4000000 in
set_option maxRecDepth 100000 in
theorem m_St_widthOf (l : Launch) (o : OM) (mi : MI) (ml : ML) (a : Nat) (x : Int64) (n : Nat) (hS : isSt a) (hn : mi a 2 = nI n) (hn40 : n ≤ 40) : ConD l y_St_widthOf c_St_widthOf 6 (some .int) 3 66 o [.ref (ads o (a)), .long (x)] mi ml (some (.int (nI (wdO (bt x) (fun p q => ds (ml (a + 1) p) (ml (a + 1) q)) n n)))) mi ml := by
  refine Con.mk (by decide) (Nat.le_of_ble_eq_true rfl) (fun γ X => ?_)
  show V γ o 6 mi ml 0 [(0, .ref (ads o (a))), (1, .long (x))] []
  refine r_iconst X (v := nI (0)) d_St_widthOf_0 (by decide) ?_
  refine r_istore_n X [(3, .int (nI (0))), (0, .ref (ads o (a))), (1, .long (x))] d_St_widthOf_1 rfl (Nat.le_of_ble_eq_true rfl) rfl ?_
  refine r_iconst X (v := nI (0)) d_St_widthOf_2 (by decide) ?_
  refine r_istore X [(4, .int (nI (0))), (3, .int (nI (0))), (0, .ref (ads o (a))), (1, .long (x))] d_St_widthOf_3 (Nat.le_of_ble_eq_true rfl) rfl ?_
  have L5_1 : ∀ (d_i i : Nat), i + d_i = n → V γ o 6 mi ml 5 [(0, .ref (ads o (a))), (1, .long (x)), (3, .int (nI (wdO (bt x) (fun p q => ds (ml (a + 1) p) (ml (a + 1) q)) n (i)))), (4, .int (nI (i)))] [] := by
    intro d_i
    induction d_i with
    | zero =>
      intro i hi_L5_1 
      have he_L5_1 : n = i := by omega
      subst he_L5_1
      refine r_iload X 3 d_St_widthOf_5 rfl ?_
      refine r_aload_n X 0 d_St_widthOf_7 rfl rfl ?_
      refine r_get X f_St_28 hS.b0 hS.e0 (v := .int (nI (n))) (congrArg (fun z => some (Value.int z)) (hn)) d_St_widthOf_8 ?_
      refine r_icge X (tgt := 72) (c := n ≤ n) d_St_widthOf_11 (by decide) (nI_leI (by omega) (by omega)) (fun c_11 => ?_) (fun c_11 => ?_)
      · -- taken
        refine r_iload_n X 2 d_St_widthOf_72 rfl rfl ?_
        refine r_end_i X d_St_widthOf_73 ?_
        first | exact ⟨rfl, rfl, rfl⟩ | (refine ⟨?_, rfl, rfl⟩; simp_all)
      · -- not taken
        exact False.elim (by omega)
    | succ d_i ih_L5_1 =>
      intro i hi_L5_1 
      have hlt_L5_1 : i < n := by omega
      have hw : wdO (bt x) (fun p q => ds (ml (a + 1) p) (ml (a + 1) q)) n i ≤ 64 := wdO_le (fun _ _ => ds_le _ _) i
      refine r_iload X 3 d_St_widthOf_5 rfl ?_
      refine r_aload_n X 0 d_St_widthOf_7 rfl rfl ?_
      refine r_get X f_St_28 hS.b0 hS.e0 (v := .int (nI (n))) (congrArg (fun z => some (Value.int z)) (hn)) d_St_widthOf_8 ?_
      refine r_icge X (tgt := 72) (c := n ≤ i) d_St_widthOf_11 (by decide) (nI_leI (by omega) (by omega)) (fun c_11_2 => ?_) (fun c_11_2 => ?_)
      · -- taken
        exact False.elim (by omega)
      · -- not taken
        refine r_iload X 3 d_St_widthOf_14 rfl ?_
        refine r_iconst X (v := nI (1)) d_St_widthOf_16 (by decide) ?_
        refine r_iadd X (v := nI (i + 1)) d_St_widthOf_17 (nI_add _ _) ?_
        refine r_istore X [(5, .int (nI (i + 1))), (0, .ref (ads o (a))), (1, .long (x)), (3, .int (nI (wdO (bt x) (fun p q => ds (ml (a + 1) p) (ml (a + 1) q)) n (i)))), (4, .int (nI (i)))] d_St_widthOf_18 (Nat.le_of_ble_eq_true rfl) rfl ?_
        have L20_3 : ∀ (d_j j : Nat), j + d_j = n - (i + 1) → V γ o 6 mi ml 20 [(0, .ref (ads o (a))), (1, .long (x)), (3, .int (nI (wdI (bt x) (fun p q => ds (ml (a + 1) p) (ml (a + 1) q)) i (wdO (bt x) (fun p q => ds (ml (a + 1) p) (ml (a + 1) q)) n i) (j)))), (4, .int (nI (i))), (5, .int (nI (i + 1 + j)))] [] := by
          intro d_j
          induction d_j with
          | zero =>
            intro j hi_L20_3 
            have he_L20_3 : n - (i + 1) = j := by omega
            subst he_L20_3
            refine r_iload X 4 d_St_widthOf_20 rfl ?_
            refine r_aload_n X 0 d_St_widthOf_22 rfl rfl ?_
            refine r_get X f_St_28 hS.b0 hS.e0 (v := .int (nI (n))) (congrArg (fun z => some (Value.int z)) (hn)) d_St_widthOf_23 ?_
            refine r_icge X (tgt := 66) (c := n ≤ (i + 1 + (n - (i + 1)))) d_St_widthOf_26 (by decide) (nI_leI (by omega) (by omega)) (fun c_26 => ?_) (fun c_26 => ?_)
            · -- taken
              refine r_iinc X 3 (v := nI (i + 1)) [(4, .int (nI (i + 1))), (0, .ref (ads o (a))), (1, .long (x)), (3, .int (nI (wdI (bt x) (fun p q => ds (ml (a + 1) p) (ml (a + 1) q)) i (wdO (bt x) (fun p q => ds (ml (a + 1) p) (ml (a + 1) q)) n i) (n - (i + 1))))), (5, .int (nI (i + 1 + (n - (i + 1)))))] d_St_widthOf_66 rfl (nI_add _ 1) (Nat.le_of_ble_eq_true rfl) rfl ?_
              refine r_goto X (tgt := 5) d_St_widthOf_69 (by decide) ?_
              refine V.wk [1, 2, 3, 0] (V.eq (ih_L5_1 (i + 1) (by omega) ) ?_ ?_ ?_ rfl) (rfl : lv_pick _ [1, 2, 3, 0] = [(0, .ref (ads o (a))), (1, .long (x)), (3, .int (nI (wdI (bt x) (fun p q => ds (ml (a + 1) p) (ml (a + 1) q)) i (wdO (bt x) (fun p q => ds (ml (a + 1) p) (ml (a + 1) q)) n i) (n - (i + 1))))), (4, .int (nI (i + 1)))])
              · rfl
              · rfl
              · first | rfl | (simp_all [ct, lastB, alB, fromB]; done)
            · -- not taken
              exact False.elim (by omega)
          | succ d_j ih_L20_3 =>
            intro j hi_L20_3 
            have hlt_L20_3 : j < n - (i + 1) := by omega
            have hwi : wdI (bt x) (fun p q => ds (ml (a + 1) p) (ml (a + 1) q)) i (wdO (bt x) (fun p q => ds (ml (a + 1) p) (ml (a + 1) q)) n i) j ≤ 64 := wdI_le (fun _ _ => ds_le _ _) hw j
            have hds := ds_le (ml (a + 1) i) (ml (a + 1) (i + 1 + j))
            refine r_iload X 4 d_St_widthOf_20 rfl ?_
            refine r_aload_n X 0 d_St_widthOf_22 rfl rfl ?_
            refine r_get X f_St_28 hS.b0 hS.e0 (v := .int (nI (n))) (congrArg (fun z => some (Value.int z)) (hn)) d_St_widthOf_23 ?_
            refine r_icge X (tgt := 66) (c := n ≤ (i + 1 + j)) d_St_widthOf_26 (by decide) (nI_leI (by omega) (by omega)) (fun c_26_4 => ?_) (fun c_26_4 => ?_)
            · -- taken
              exact False.elim (by omega)
            · -- not taken
              refine r_lload_n X 1 d_St_widthOf_29 rfl rfl ?_
              refine r_iload X 3 d_St_widthOf_30 rfl ?_
              refine r_callN X (m_Nm_hasBit l o mi ml x i (by omega)) ok_Nm_hasBit (host := "NearMarks") (by decide +kernel) rfl ⟨Nat.le_of_ble_eq_true rfl, Nat.le_of_ble_eq_true rfl⟩ (rest := []) rfl (Nat.le_of_ble_eq_true rfl) d_St_widthOf_32 ?_
              refine kD (st' := [.int (bI (bt x i))]) rfl ?_
              refine r_ifeqB X (tgt := 60) (b := bt x i) d_St_widthOf_35 (by decide) (fun c_35 => ?_) (fun c_35 => ?_)
              · -- taken
                refine r_iinc X 4 (v := nI (i + 1 + j + 1)) [(5, .int (nI (i + 1 + j + 1))), (0, .ref (ads o (a))), (1, .long (x)), (3, .int (nI (wdI (bt x) (fun p q => ds (ml (a + 1) p) (ml (a + 1) q)) i (wdO (bt x) (fun p q => ds (ml (a + 1) p) (ml (a + 1) q)) n i) (j)))), (4, .int (nI (i)))] d_St_widthOf_60 rfl (nI_add _ 1) (Nat.le_of_ble_eq_true rfl) rfl ?_
                refine r_goto X (tgt := 20) d_St_widthOf_63 (by decide) ?_
                refine V.wk [1, 2, 3, 4, 0] (V.eq (ih_L20_3 (j + 1) (by omega) ) ?_ ?_ ?_ rfl) (rfl : lv_pick _ [1, 2, 3, 4, 0] = [(0, .ref (ads o (a))), (1, .long (x)), (3, .int (nI (wdI (bt x) (fun p q => ds (ml (a + 1) p) (ml (a + 1) q)) i (wdO (bt x) (fun p q => ds (ml (a + 1) p) (ml (a + 1) q)) n i) (j)))), (4, .int (nI (i))), (5, .int (nI (i + 1 + j + 1)))])
                · rfl
                · rfl
                · first | (rw [wdI_y (by assumption) (by assumption)]; first | done | rfl) | (rw [wdI_n1 (by assumption)]; first | done | rfl) | (rw [wdI_n2 (by assumption)]; first | done | rfl)
              · -- not taken
                refine r_lload_n X 1 d_St_widthOf_38 rfl rfl ?_
                refine r_iload X 4 d_St_widthOf_39 rfl ?_
                refine r_callN X (m_Nm_hasBit l o mi ml x (i + 1 + j) (by omega)) ok_Nm_hasBit (host := "NearMarks") (by decide +kernel) rfl ⟨Nat.le_of_ble_eq_true rfl, Nat.le_of_ble_eq_true rfl⟩ (rest := []) rfl (Nat.le_of_ble_eq_true rfl) d_St_widthOf_41 ?_
                refine kD (st' := [.int (bI (bt x (i + 1 + j)))]) rfl ?_
                refine r_ifeqB X (tgt := 60) (b := bt x (i + 1 + j)) d_St_widthOf_44 (by decide) (fun c_44 => ?_) (fun c_44 => ?_)
                · -- taken
                  refine r_iinc X 4 (v := nI (i + 1 + j + 1)) [(5, .int (nI (i + 1 + j + 1))), (0, .ref (ads o (a))), (1, .long (x)), (3, .int (nI (wdI (bt x) (fun p q => ds (ml (a + 1) p) (ml (a + 1) q)) i (wdO (bt x) (fun p q => ds (ml (a + 1) p) (ml (a + 1) q)) n i) (j)))), (4, .int (nI (i)))] d_St_widthOf_60 rfl (nI_add _ 1) (Nat.le_of_ble_eq_true rfl) rfl ?_
                  refine r_goto X (tgt := 20) d_St_widthOf_63 (by decide) ?_
                  refine V.wk [1, 2, 3, 4, 0] (V.eq (ih_L20_3 (j + 1) (by omega) ) ?_ ?_ ?_ rfl) (rfl : lv_pick _ [1, 2, 3, 4, 0] = [(0, .ref (ads o (a))), (1, .long (x)), (3, .int (nI (wdI (bt x) (fun p q => ds (ml (a + 1) p) (ml (a + 1) q)) i (wdO (bt x) (fun p q => ds (ml (a + 1) p) (ml (a + 1) q)) n i) (j)))), (4, .int (nI (i))), (5, .int (nI (i + 1 + j + 1)))])
                  · rfl
                  · rfl
                  · first | (rw [wdI_y (by assumption) (by assumption)]; first | done | rfl) | (rw [wdI_n1 (by assumption)]; first | done | rfl) | (rw [wdI_n2 (by assumption)]; first | done | rfl)
                · -- not taken
                  refine r_iload_n X 2 d_St_widthOf_47 rfl rfl ?_
                  refine r_aload_n X 0 d_St_widthOf_48 rfl rfl ?_
                  refine r_iload X 3 d_St_widthOf_49 rfl ?_
                  refine r_iload X 4 d_St_widthOf_51 rfl ?_
                  refine r_callV X (m_St_between l o mi ml a i (i + 1 + j) hS (by omega) (by omega)) ok_St_between w_St_51 rfl hS.b0 hS.e0 rfl ⟨Nat.le_of_ble_eq_true rfl, Nat.le_of_ble_eq_true rfl⟩ (rest := [.int (nI (wdI (bt x) (fun p q => ds (ml (a + 1) p) (ml (a + 1) q)) i (wdO (bt x) (fun p q => ds (ml (a + 1) p) (ml (a + 1) q)) n i) (j)))]) rfl (Nat.le_of_ble_eq_true rfl) d_St_widthOf_53 ?_
                  refine kD (st' := [.int (nI (ds (ml (a + 1) i) (ml (a + 1) (i + 1 + j)))), .int (nI (wdI (bt x) (fun p q => ds (ml (a + 1) p) (ml (a + 1) q)) i (wdO (bt x) (fun p q => ds (ml (a + 1) p) (ml (a + 1) q)) n i) (j)))]) rfl ?_
                  refine r_max X (by omega) (ds_lt _ _) w_St_55 (Nat.le_of_ble_eq_true rfl) (Nat.le_of_ble_eq_true rfl) d_St_widthOf_56 ?_
                  refine r_istore_n X [(3, .int (nI (if decide ((wdI (bt x) (fun p q => ds (ml (a + 1) p) (ml (a + 1) q)) i (wdO (bt x) (fun p q => ds (ml (a + 1) p) (ml (a + 1) q)) n i) (j)) < (ds (ml (a + 1) i) (ml (a + 1) (i + 1 + j)))) then ds (ml (a + 1) i) (ml (a + 1) (i + 1 + j)) else wdI (bt x) (fun p q => ds (ml (a + 1) p) (ml (a + 1) q)) i (wdO (bt x) (fun p q => ds (ml (a + 1) p) (ml (a + 1) q)) n i) (j)))), (0, .ref (ads o (a))), (1, .long (x)), (4, .int (nI (i))), (5, .int (nI (i + 1 + j)))] d_St_widthOf_59 rfl (Nat.le_of_ble_eq_true rfl) rfl ?_
                  refine r_iinc X 4 (v := nI (i + 1 + j + 1)) [(5, .int (nI (i + 1 + j + 1))), (3, .int (nI (if decide ((wdI (bt x) (fun p q => ds (ml (a + 1) p) (ml (a + 1) q)) i (wdO (bt x) (fun p q => ds (ml (a + 1) p) (ml (a + 1) q)) n i) (j)) < (ds (ml (a + 1) i) (ml (a + 1) (i + 1 + j)))) then ds (ml (a + 1) i) (ml (a + 1) (i + 1 + j)) else wdI (bt x) (fun p q => ds (ml (a + 1) p) (ml (a + 1) q)) i (wdO (bt x) (fun p q => ds (ml (a + 1) p) (ml (a + 1) q)) n i) (j)))), (0, .ref (ads o (a))), (1, .long (x)), (4, .int (nI (i)))] d_St_widthOf_60 rfl (nI_add _ 1) (Nat.le_of_ble_eq_true rfl) rfl ?_
                  refine r_goto X (tgt := 20) d_St_widthOf_63 (by decide) ?_
                  refine V.wk [2, 3, 1, 4, 0] (V.eq (ih_L20_3 (j + 1) (by omega) ) ?_ ?_ ?_ rfl) (rfl : lv_pick _ [2, 3, 1, 4, 0] = [(0, .ref (ads o (a))), (1, .long (x)), (3, .int (nI (if decide ((wdI (bt x) (fun p q => ds (ml (a + 1) p) (ml (a + 1) q)) i (wdO (bt x) (fun p q => ds (ml (a + 1) p) (ml (a + 1) q)) n i) (j)) < (ds (ml (a + 1) i) (ml (a + 1) (i + 1 + j)))) then ds (ml (a + 1) i) (ml (a + 1) (i + 1 + j)) else wdI (bt x) (fun p q => ds (ml (a + 1) p) (ml (a + 1) q)) i (wdO (bt x) (fun p q => ds (ml (a + 1) p) (ml (a + 1) q)) n i) (j)))), (4, .int (nI (i))), (5, .int (nI (i + 1 + j + 1)))])
                  · rfl
                  · rfl
                  · first | (rw [wdI_y (by assumption) (by assumption)]; first | done | rfl) | (rw [wdI_n1 (by assumption)]; first | done | rfl) | (rw [wdI_n2 (by assumption)]; first | done | rfl)
        refine V.wk [1, 2, 3, 4, 0] (V.eq (L20_3 ((n - (i + 1)) - 0) 0 (by omega) ) ?_ ?_ ?_ rfl) (rfl : lv_pick _ [1, 2, 3, 4, 0] = [(0, .ref (ads o (a))), (1, .long (x)), (3, .int (nI (wdO (bt x) (fun p q => ds (ml (a + 1) p) (ml (a + 1) q)) n (i)))), (4, .int (nI (i))), (5, .int (nI (i + 1)))])
        · rfl
        · rfl
        · rfl
  refine V.wk [2, 3, 1, 0] (V.eq (L5_1 (n - 0) 0 (by omega) ) ?_ ?_ ?_ rfl) (rfl : lv_pick _ [2, 3, 1, 0] = [(0, .ref (ads o (a))), (1, .long (x)), (3, .int (nI (0))), (4, .int (nI (0)))])
  · rfl
  · rfl
  · rfl

set_option maxHeartbeats 4000000 in
set_option maxRecDepth 100000 in
theorem m_St_become (l : Launch) (o : OM) (mi : MI) (ml : ML) (a : Nat) (b : Nat) (n : Nat) (hS : isSt a) (hT : isSt b) (hn : mi b 2 = nI n) (hn40 : n ≤ 40) (hab : a + 3 ≤ b ∨ b + 3 ≤ a) : ConD l y_St_become c_St_become 3 none 0 0 o [.ref (ads o (a)), .ref (ads o (b))] mi ml none (bcI mi a b n) (bcL ml a b n) := by
  refine Con.mk (by decide) (Nat.le_of_ble_eq_true rfl) (fun γ X => ?_)
  show V γ o 3 mi ml 0 [(0, .ref (ads o (a))), (1, .ref (ads o (b)))] []
  refine r_aload_n X 0 d_St_become_0 rfl rfl ?_
  refine r_aload_n X 1 d_St_become_1 rfl rfl ?_
  refine r_get X f_St_25 hT.b0 hT.e0 (v := .long (ml b 0)) (congrArg (fun z => some (Value.long z)) (rfl)) d_St_become_2 ?_
  refine r_putL X fw_St_25 hS.b0 hS.e0 (fun _ _ => rfl) (Nat.le_of_ble_eq_true rfl) d_St_become_5 ?_
  refine r_aload_n X 0 d_St_become_8 rfl rfl ?_
  refine r_aload_n X 1 d_St_become_9 rfl rfl ?_
  refine r_get X f_St_11 hT.b0 hT.e0 (v := .long (ml b 1)) (congrArg (fun z => some (Value.long z)) ((by rw [u2_n _ _ _ (by omega)] <;> exact rfl))) d_St_become_10 ?_
  refine r_putL X fw_St_11 hS.b0 hS.e0 (fun _ _ => rfl) (Nat.le_of_ble_eq_true rfl) d_St_become_13 ?_
  refine r_aload_n X 0 d_St_become_16 rfl rfl ?_
  refine r_aload_n X 1 d_St_become_17 rfl rfl ?_
  refine r_get X f_St_28 hT.b0 hT.e0 (v := .int (nI (n))) (congrArg (fun z => some (Value.int z)) (hn)) d_St_become_18 ?_
  refine r_putI X fw_St_28 hS.b0 hS.e0 (fun _ _ => rfl) (Nat.le_of_ble_eq_true rfl) d_St_become_21 ?_
  refine r_iconst X (v := nI (0)) d_St_become_24 (by decide) ?_
  refine r_istore_n X [(2, .int (nI (0))), (0, .ref (ads o (a))), (1, .ref (ads o (b)))] d_St_become_25 rfl (Nat.le_of_ble_eq_true rfl) rfl ?_
  have L26_1 : ∀ (d_i i : Nat), i + d_i = n → V γ o 3 (cpL (u2 mi a 2 (nI n)) (a + 2) 0 (b + 2) 0 (i)) (cpL (u2 (u2 ml a 0 (ml b 0)) a 1 (ml b 1)) (a + 1) 0 (b + 1) 0 (i)) 26 [(0, .ref (ads o (a))), (1, .ref (ads o (b))), (2, .int (nI (i)))] [] := by
    intro d_i
    induction d_i with
    | zero =>
      intro i hi_L26_1 
      have he_L26_1 : n = i := by omega
      subst he_L26_1
      refine r_iload_n X 2 d_St_become_26 rfl rfl ?_
      refine r_aload_n X 0 d_St_become_27 rfl rfl ?_
      refine r_get X f_St_28 hS.b0 hS.e0 (v := .int (nI (n))) (congrArg (fun z => some (Value.int z)) ((by rw [cpL_n _ (by omega), u2_s, uf_s]))) d_St_become_28 ?_
      refine r_icge X (tgt := 64) (c := n ≤ n) d_St_become_31 (by decide) (nI_leI (by omega) (by omega)) (fun c_31 => ?_) (fun c_31 => ?_)
      · -- taken
        refine r_end_v X d_St_become_64 ?_
        exact ⟨rfl, rfl, rfl⟩
      · -- not taken
        exact False.elim (by omega)
    | succ d_i ih_L26_1 =>
      intro i hi_L26_1 
      have hlt_L26_1 : i < n := by omega
      refine r_iload_n X 2 d_St_become_26 rfl rfl ?_
      refine r_aload_n X 0 d_St_become_27 rfl rfl ?_
      refine r_get X f_St_28 hS.b0 hS.e0 (v := .int (nI (n))) (congrArg (fun z => some (Value.int z)) ((by rw [cpL_n _ (by omega), u2_s, uf_s]))) d_St_become_28 ?_
      refine r_icge X (tgt := 64) (c := n ≤ i) d_St_become_31 (by decide) (nI_leI (by omega) (by omega)) (fun c_31_2 => ?_) (fun c_31_2 => ?_)
      · -- taken
        exact False.elim (by omega)
      · -- not taken
        refine r_aload_n X 0 d_St_become_34 rfl rfl ?_
        refine r_get X f_St_17 hS.b0 hS.e0 (v := .ref (ads o (a + 1))) rfl d_St_become_35 ?_
        refine r_iload_n X 2 d_St_become_38 rfl rfl ?_
        refine r_aload_n X 1 d_St_become_39 rfl rfl ?_
        refine r_get X f_St_17 hT.b0 hT.e0 (v := .ref (ads o (b + 1))) rfl d_St_become_40 ?_
        refine r_iload_n X 2 d_St_become_43 rfl rfl ?_
        refine r_lald X (v := (cpL (u2 (u2 ml a 0 (ml b 0)) a 1 (ml b 1)) (a + 1) 0 (b + 1) 0 (i)) (b + 1) i) hT.b1 hT.e1 (Nat.le_of_ble_eq_true rfl) (by omega) rfl d_St_become_44 ?_
        refine r_last X hS.b1 hS.e1 (Nat.le_of_ble_eq_true rfl) (by omega) d_St_become_45 ?_
        refine r_aload_n X 0 d_St_become_46 rfl rfl ?_
        refine r_get X f_St_21 hS.b0 hS.e0 (v := .ref (ads o (a + 2))) rfl d_St_become_47 ?_
        refine r_iload_n X 2 d_St_become_50 rfl rfl ?_
        refine r_aload_n X 1 d_St_become_51 rfl rfl ?_
        refine r_get X f_St_21 hT.b0 hT.e0 (v := .ref (ads o (b + 2))) rfl d_St_become_52 ?_
        refine r_iload_n X 2 d_St_become_55 rfl rfl ?_
        refine r_iald X (v := ((cpL (u2 mi a 2 (nI n)) (a + 2) 0 (b + 2) 0 (i)) (b + 2) i)) hT.b2 hT.e2 (Nat.le_of_ble_eq_true rfl) (by omega) rfl d_St_become_56 ?_
        refine r_iast X hS.b2 hS.e2 (Nat.le_of_ble_eq_true rfl) (by omega) d_St_become_57 ?_
        refine r_iinc X 2 (v := nI (i + 1)) [(2, .int (nI (i + 1))), (0, .ref (ads o (a))), (1, .ref (ads o (b)))] d_St_become_58 rfl (nI_add _ 1) (Nat.le_of_ble_eq_true rfl) rfl ?_
        refine r_goto X (tgt := 26) d_St_become_61 (by decide) ?_
        refine V.wk [1, 2, 0] (V.eq (ih_L26_1 (i + 1) (by omega) ) ?_ ?_ ?_ rfl) (rfl : lv_pick _ [1, 2, 0] = [(0, .ref (ads o (a))), (1, .ref (ads o (b))), (2, .int (nI (i + 1)))])
        · exact cpL_step _ (by omega) (Nat.zero_add _).symm (Nat.zero_add _).symm
        · exact cpL_step _ (by omega) (Nat.zero_add _).symm (Nat.zero_add _).symm
        · rfl
  refine V.wk [1, 2, 0] (V.eq (L26_1 (n - 0) 0 (by omega) ) ?_ ?_ ?_ rfl) (rfl : lv_pick _ [1, 2, 0] = [(0, .ref (ads o (a))), (1, .ref (ads o (b))), (2, .int (nI (0)))])
  · exact cpL_0 _ _ _ _ _
  · exact cpL_0 _ _ _ _ _
  · rfl
