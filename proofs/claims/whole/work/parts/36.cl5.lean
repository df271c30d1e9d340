set_option maxHeartbeats 4000000 in
set_option maxRecDepth 100000 in
theorem m_Nm_countLookedAt (l : Launch) (o : OM) (mi : MI) (ml : ML) (w : Int32) (n : Nat) (P : Nat) (hn : mi 1 2 = nI n) (hn40 : n ≤ 40) (hP : mi 75 2 = nI P) (hP8 : P ≤ 8) : ConD l y_Nm_countLookedAt c_Nm_countLookedAt 4 (some .int) 3 65 o [.ref (ads o (0)), .int (w)] mi ml (some (.int (nI (ct (lookC ml P w) n)))) mi ml := by
  refine Con.mk (by decide) (Nat.le_of_ble_eq_true rfl) (fun γ X => ?_)
  show V γ o 4 mi ml 0 [(0, .ref (ads o (0))), (1, .int (w))] []
  refine r_iconst X (v := nI (0)) d_Nm_countLookedAt_0 (by decide) ?_
  refine r_istore_n X [(2, .int (nI (0))), (0, .ref (ads o (0))), (1, .int (w))] d_Nm_countLookedAt_1 rfl (Nat.le_of_ble_eq_true rfl) rfl ?_
  refine r_iconst X (v := nI (0)) d_Nm_countLookedAt_2 (by decide) ?_
  refine r_istore_n X [(3, .int (nI (0))), (2, .int (nI (0))), (0, .ref (ads o (0))), (1, .int (w))] d_Nm_countLookedAt_3 rfl (Nat.le_of_ble_eq_true rfl) rfl ?_
  have L4_1 : ∀ (d_i i : Nat), i + d_i = n → V γ o 4 mi ml 4 [(0, .ref (ads o (0))), (1, .int (w)), (2, .int (nI (ct (fun k => !decide (nI (ds (ml 2 k) (ml 1 0)) ≤ w) && anyP (ml 2 k ^^^ ml 1 0) (ml 77) P) (i)))), (3, .int (nI (i)))] [] := by
    intro d_i
    induction d_i with
    | zero =>
      intro i hi_L4_1 
      have he_L4_1 : n = i := by omega
      subst he_L4_1
      refine r_iload_n X 3 d_Nm_countLookedAt_4 rfl rfl ?_
      refine r_aload_n X 0 d_Nm_countLookedAt_5 rfl rfl ?_
      refine r_get X f_Nm_10 b_0 e_0 (v := .ref (ads o (1))) rfl d_Nm_countLookedAt_6 ?_
      refine r_get X f_Nm_83 b_1 e_1 (v := .int (nI (n))) (congrArg (fun z => some (Value.int z)) (hn)) d_Nm_countLookedAt_9 ?_
      refine r_icge X (tgt := 63) (c := n ≤ n) d_Nm_countLookedAt_12 (by decide) (nI_leI (by omega) (by omega)) (fun c_12 => ?_) (fun c_12 => ?_)
      · -- taken
        refine r_iload_n X 2 d_Nm_countLookedAt_63 rfl rfl ?_
        refine r_end_i X d_Nm_countLookedAt_64 ?_
        first | exact ⟨rfl, rfl, rfl⟩ | (refine ⟨?_, rfl, rfl⟩; simp_all)
      · -- not taken
        exact False.elim (by omega)
    | succ d_i ih_L4_1 =>
      intro i hi_L4_1 
      have hlt_L4_1 : i < n := by omega
      refine r_iload_n X 3 d_Nm_countLookedAt_4 rfl rfl ?_
      refine r_aload_n X 0 d_Nm_countLookedAt_5 rfl rfl ?_
      refine r_get X f_Nm_10 b_0 e_0 (v := .ref (ads o (1))) rfl d_Nm_countLookedAt_6 ?_
      refine r_get X f_Nm_83 b_1 e_1 (v := .int (nI (n))) (congrArg (fun z => some (Value.int z)) (hn)) d_Nm_countLookedAt_9 ?_
      refine r_icge X (tgt := 63) (c := n ≤ i) d_Nm_countLookedAt_12 (by decide) (nI_leI (by omega) (by omega)) (fun c_12_2 => ?_) (fun c_12_2 => ?_)
      · -- taken
        exact False.elim (by omega)
      · -- not taken
        refine r_aload_n X 0 d_Nm_countLookedAt_15 rfl rfl ?_
        refine r_get X f_Nm_10 b_0 e_0 (v := .ref (ads o (1))) rfl d_Nm_countLookedAt_16 ?_
        refine r_iload_n X 3 d_Nm_countLookedAt_19 rfl rfl ?_
        refine r_callV X (m_St_fromHand l o mi ml 1 i isSt.now (by omega)) ok_St_fromHand w_Nm_151 rfl b_1 e_1 rfl ⟨Nat.le_of_ble_eq_true rfl, Nat.le_of_ble_eq_true rfl⟩ (rest := []) rfl (Nat.le_of_ble_eq_true rfl) d_Nm_countLookedAt_20 ?_
        refine kD (st' := [.int (nI (ds (ml 2 i) (ml 1 0)))]) rfl ?_
        refine r_iload_n X 1 d_Nm_countLookedAt_23 rfl rfl ?_
        refine r_icle X (tgt := 57) (c := (nI (ds (ml 2 i) (ml 1 0))) ≤ w) d_Nm_countLookedAt_24 (by decide) (Iff.rfl) (fun c_24 => ?_) (fun c_24 => ?_)
        · -- taken
          refine r_iinc X 3 (v := nI (i + 1)) [(3, .int (nI (i + 1))), (0, .ref (ads o (0))), (1, .int (w)), (2, .int (nI (ct (fun k => !decide (nI (ds (ml 2 k) (ml 1 0)) ≤ w) && anyP (ml 2 k ^^^ ml 1 0) (ml 77) P) (i))))] d_Nm_countLookedAt_57 rfl (nI_add _ 1) (Nat.le_of_ble_eq_true rfl) rfl ?_
          refine r_goto X (tgt := 4) d_Nm_countLookedAt_60 (by decide) ?_
          refine V.wk [1, 2, 3, 0] (V.eq (ih_L4_1 (i + 1) (by omega) ) ?_ ?_ ?_ rfl) (rfl : lv_pick _ [1, 2, 3, 0] = [(0, .ref (ads o (0))), (1, .int (w)), (2, .int (nI (ct (fun k => !decide (nI (ds (ml 2 k) (ml 1 0)) ≤ w) && anyP (ml 2 k ^^^ ml 1 0) (ml 77) P) (i)))), (3, .int (nI (i + 1)))])
          · rfl
          · rfl
          · first | rfl | (rw [ct_t] <;> simp_all; done) | (rw [ct_f] <;> simp_all; done)
        · -- not taken
          refine r_aload_n X 0 d_Nm_countLookedAt_27 rfl rfl ?_
          refine r_get X f_Nm_33 b_0 e_0 (v := .ref (ads o (75))) rfl d_Nm_countLookedAt_28 ?_
          refine r_aload_n X 0 d_Nm_countLookedAt_31 rfl rfl ?_
          refine r_get X f_Nm_10 b_0 e_0 (v := .ref (ads o (1))) rfl d_Nm_countLookedAt_32 ?_
          refine r_get X f_Nm_142 b_1 e_1 (v := .ref (ads o (2))) rfl d_Nm_countLookedAt_35 ?_
          refine r_iload_n X 3 d_Nm_countLookedAt_38 rfl rfl ?_
          refine r_lald X (v := ml 2 i) b_2 e_2 (Nat.le_of_ble_eq_true rfl) (by omega) rfl d_Nm_countLookedAt_39 ?_
          refine r_aload_n X 0 d_Nm_countLookedAt_40 rfl rfl ?_
          refine r_get X f_Nm_10 b_0 e_0 (v := .ref (ads o (1))) rfl d_Nm_countLookedAt_41 ?_
          refine r_get X f_Nm_88 b_1 e_1 (v := .long (ml 1 0)) rfl d_Nm_countLookedAt_44 ?_
          refine r_lxor X (v := (ml 2 i) ^^^ (ml 1 0)) d_Nm_countLookedAt_47 (rfl) ?_
          refine r_callV X (m_Pt_anyAlike l o mi ml 75 ((ml 2 i) ^^^ (ml 1 0)) P (Or.inl rfl) (hP) (by omega)) ok_Pt_anyAlike w_Nm_158 rfl b_75 e_75 rfl ⟨Nat.le_of_ble_eq_true rfl, Nat.le_of_ble_eq_true rfl⟩ (rest := []) rfl (Nat.le_of_ble_eq_true rfl) d_Nm_countLookedAt_48 ?_
          refine kD (st' := [.int (bI (anyP ((ml 2 i) ^^^ (ml 1 0)) (ml 77) P))]) rfl ?_
          refine r_ifeqB X (tgt := 57) (b := anyP ((ml 2 i) ^^^ (ml 1 0)) (ml 77) P) d_Nm_countLookedAt_51 (by decide) (fun c_51 => ?_) (fun c_51 => ?_)
          · -- taken
            refine r_iinc X 3 (v := nI (i + 1)) [(3, .int (nI (i + 1))), (0, .ref (ads o (0))), (1, .int (w)), (2, .int (nI (ct (fun k => !decide (nI (ds (ml 2 k) (ml 1 0)) ≤ w) && anyP (ml 2 k ^^^ ml 1 0) (ml 77) P) (i))))] d_Nm_countLookedAt_57 rfl (nI_add _ 1) (Nat.le_of_ble_eq_true rfl) rfl ?_
            refine r_goto X (tgt := 4) d_Nm_countLookedAt_60 (by decide) ?_
            refine V.wk [1, 2, 3, 0] (V.eq (ih_L4_1 (i + 1) (by omega) ) ?_ ?_ ?_ rfl) (rfl : lv_pick _ [1, 2, 3, 0] = [(0, .ref (ads o (0))), (1, .int (w)), (2, .int (nI (ct (fun k => !decide (nI (ds (ml 2 k) (ml 1 0)) ≤ w) && anyP (ml 2 k ^^^ ml 1 0) (ml 77) P) (i)))), (3, .int (nI (i + 1)))])
            · rfl
            · rfl
            · first | rfl | (rw [ct_t] <;> simp_all; done) | (rw [ct_f] <;> simp_all; done)
          · -- not taken
            refine r_iinc X 2 (v := nI (ct (fun k => !decide (nI (ds (ml 2 k) (ml 1 0)) ≤ w) && anyP (ml 2 k ^^^ ml 1 0) (ml 77) P) (i) + 1)) [(2, .int (nI (ct (fun k => !decide (nI (ds (ml 2 k) (ml 1 0)) ≤ w) && anyP (ml 2 k ^^^ ml 1 0) (ml 77) P) (i) + 1))), (0, .ref (ads o (0))), (1, .int (w)), (3, .int (nI (i)))] d_Nm_countLookedAt_54 rfl (nI_add _ 1) (Nat.le_of_ble_eq_true rfl) rfl ?_
            refine r_iinc X 3 (v := nI (i + 1)) [(3, .int (nI (i + 1))), (2, .int (nI (ct (fun k => !decide (nI (ds (ml 2 k) (ml 1 0)) ≤ w) && anyP (ml 2 k ^^^ ml 1 0) (ml 77) P) (i) + 1))), (0, .ref (ads o (0))), (1, .int (w))] d_Nm_countLookedAt_57 rfl (nI_add _ 1) (Nat.le_of_ble_eq_true rfl) rfl ?_
            refine r_goto X (tgt := 4) d_Nm_countLookedAt_60 (by decide) ?_
            refine V.wk [2, 3, 1, 0] (V.eq (ih_L4_1 (i + 1) (by omega) ) ?_ ?_ ?_ rfl) (rfl : lv_pick _ [2, 3, 1, 0] = [(0, .ref (ads o (0))), (1, .int (w)), (2, .int (nI (ct (fun k => !decide (nI (ds (ml 2 k) (ml 1 0)) ≤ w) && anyP (ml 2 k ^^^ ml 1 0) (ml 77) P) (i) + 1))), (3, .int (nI (i + 1)))])
            · rfl
            · rfl
            · first | rfl | (rw [ct_t] <;> simp_all; done) | (rw [ct_f] <;> simp_all; done)
  refine V.wk [2, 3, 1, 0] (V.eq (L4_1 (n - 0) 0 (by omega) ) ?_ ?_ ?_ rfl) (rfl : lv_pick _ [2, 3, 1, 0] = [(0, .ref (ads o (0))), (1, .int (w)), (2, .int (nI (0))), (3, .int (nI (0)))])
  · rfl
  · rfl
  · rfl

set_option maxHeartbeats 4000000 in
set_option maxRecDepth 100000 in
theorem m_Nm_leastDistance (l : Launch) (o : OM) (mi : MI) (ml : ML) (n : Nat) (hn : mi 1 2 = nI n) (hn40 : n ≤ 40) : ConD l y_Nm_leastDistance c_Nm_leastDistance 2 (some .int) 5 112 o [.ref (ads o (0))] mi ml (some (.int ((if isMk n (nrsC ml n (nI 0)) then nI (ds (ml 2 (nrsC ml n (nI 0)).toNatClampNeg) (ml 1 0)) else -1)))) mi ml := by
  refine Con.mk (by decide) (Nat.le_of_ble_eq_true rfl) (fun γ X => ?_)
  show V γ o 2 mi ml 0 [(0, .ref (ads o (0)))] []
  refine r_aload_n X 0 d_Nm_leastDistance_0 rfl rfl ?_
  refine r_get X f_Nm_10 b_0 e_0 (v := .ref (ads o (1))) rfl d_Nm_leastDistance_1 ?_
  refine r_iconst X (v := nI (0)) d_Nm_leastDistance_4 (by decide) ?_
  refine r_callV X (m_St_byDistance l o mi ml 1 (nI (0)) n isSt.now (hn) hn40) ok_St_byDistance w_Nm_108 rfl b_1 e_1 rfl ⟨Nat.le_of_ble_eq_true rfl, Nat.le_of_ble_eq_true rfl⟩ (rest := []) rfl (Nat.le_of_ble_eq_true rfl) d_Nm_leastDistance_5 ?_
  refine kD (st' := [.int ((fromB (fun k => decide (nI (ahd (fun q => ds (ml 2 q) (ml 1 0)) n k) = (nI (0)))) n 0))]) rfl ?_
  refine r_istore_n X [(1, .int ((fromB (fun k => decide (nI (ahd (fun q => ds (ml 2 q) (ml 1 0)) n k) = (nI (0)))) n 0))), (0, .ref (ads o (0)))] d_Nm_leastDistance_8 rfl (Nat.le_of_ble_eq_true rfl) rfl ?_
  refine r_aload_n X 1 d_Nm_leastDistance_9 rfl rfl ?_
  refine r_get X f_Nm_10 b_0 e_0 (v := .ref (ads o (1))) rfl d_Nm_leastDistance_10 ?_
  refine r_iload_n X 0 d_Nm_leastDistance_13 rfl rfl ?_
  refine r_callV X (m_St_has l o mi ml 1 (fromB (fun k => decide (nI (ahd (fun q => ds (ml 2 q) (ml 1 0)) n k) = (nI (0)))) n 0) n isSt.now (hn) hn40) ok_St_has w_Nm_138 rfl b_1 e_1 rfl ⟨Nat.le_of_ble_eq_true rfl, Nat.le_of_ble_eq_true rfl⟩ (rest := []) rfl (Nat.le_of_ble_eq_true rfl) d_Nm_leastDistance_14 ?_
  refine kD (st' := [.int (bI (isMk n (fromB (fun k => decide (nI (ahd (fun q => ds (ml 2 q) (ml 1 0)) n k) = (nI (0)))) n 0)))]) rfl ?_
  refine r_ifeqB X (tgt := 31) (b := isMk n (fromB (fun k => decide (nI (ahd (fun q => ds (ml 2 q) (ml 1 0)) n k) = (nI (0)))) n 0)) d_Nm_leastDistance_17 (by decide) (fun c_17 => ?_) (fun c_17 => ?_)
  · -- taken
    refine r_iconst X (v := ((-1 : Int32))) d_Nm_leastDistance_31 (by decide) ?_
    refine r_end_i X d_Nm_leastDistance_32 ?_
    refine ⟨?_, rfl, rfl⟩; first | (rw [show nrsC ml n (nI 0) = nI j from ej, nI_clamp (by omega), isMk_nI (by omega) (by omega)]; simp [hj]; done) | (rw [show isMk n (nrsC ml n (nI 0)) = false from by assumption]; rfl)
  · -- not taken
    obtain ⟨j, hj, ej⟩ := isMk_ex (n := n) (k := fromB (fun k => decide (nI (ahd (fun q => ds (ml 2 q) (ml 1 0)) n k) = nI 0)) n 0) (by omega) (by assumption)
    rw [ej]
    refine r_aload_n X 1 d_Nm_leastDistance_20 rfl rfl ?_
    refine r_get X f_Nm_10 b_0 e_0 (v := .ref (ads o (1))) rfl d_Nm_leastDistance_21 ?_
    refine r_iload_n X 0 d_Nm_leastDistance_24 rfl rfl ?_
    refine r_callV X (m_St_fromHand l o mi ml 1 j isSt.now (by omega)) ok_St_fromHand w_Nm_151 rfl b_1 e_1 rfl ⟨Nat.le_of_ble_eq_true rfl, Nat.le_of_ble_eq_true rfl⟩ (rest := []) rfl (Nat.le_of_ble_eq_true rfl) d_Nm_leastDistance_25 ?_
    refine kD (st' := [.int (nI (ds (ml 2 j) (ml 1 0)))]) rfl ?_
    refine r_goto X (tgt := 32) d_Nm_leastDistance_28 (by decide) ?_
    refine r_end_i X d_Nm_leastDistance_32 ?_
    refine ⟨?_, rfl, rfl⟩; first | (rw [show nrsC ml n (nI 0) = nI j from ej, nI_clamp (by omega), isMk_nI (by omega) (by omega)]; simp [hj]; done) | (rw [show isMk n (nrsC ml n (nI 0)) = false from by assumption]; rfl)

set_option maxHeartbeats 4000000 in
set_option maxRecDepth 100000 in
theorem m_Nm_hand (l : Launch) (o : OM) (mi : MI) (ml : ML)   : ConD l y_Nm_hand c_Nm_hand 1 (some .long) 8 270 o [.ref (ads o (0))] mi ml (some (.long (ml 1 0))) mi ml := by
  refine Con.mk (by decide) (Nat.le_of_ble_eq_true rfl) (fun γ X => ?_)
  show V γ o 1 mi ml 0 [(0, .ref (ads o (0)))] []
  refine r_aload_n X 0 d_Nm_hand_0 rfl rfl ?_
  refine r_get X f_Nm_10 b_0 e_0 (v := .ref (ads o (1))) rfl d_Nm_hand_1 ?_
  refine r_get X f_Nm_88 b_1 e_1 (v := .long (ml 1 0)) rfl d_Nm_hand_4 ?_
  refine r_end_l X d_Nm_hand_7 ?_
  first | exact ⟨rfl, rfl, rfl⟩ | (refine ⟨?_, rfl, rfl⟩; simp_all)

set_option maxHeartbeats 4000000 in
set_option maxRecDepth 100000 in
theorem m_Nm_markAt_i (l : Launch) (o : OM) (mi : MI) (ml : ML) (k : Nat) (n : Nat) (hn : mi 1 2 = nI n) (hn40 : n ≤ 40) (hk : k < n) : ConD l y_Nm_markAt c_Nm_markAt 2 (some .long) 8 270 o [.ref (ads o (0)), .int (nI (k))] mi ml (some (.long (ml 2 k))) mi ml := by
  refine Con.mk (by decide) (Nat.le_of_ble_eq_true rfl) (fun γ X => ?_)
  show V γ o 2 mi ml 0 [(0, .ref (ads o (0))), (1, .int (nI (k)))] []
  refine r_aload_n X 0 d_Nm_markAt_0 rfl rfl ?_
  refine r_get X f_Nm_10 b_0 e_0 (v := .ref (ads o (1))) rfl d_Nm_markAt_1 ?_
  refine r_iload_n X 1 d_Nm_markAt_4 rfl rfl ?_
  refine r_callV X (m_St_has l o mi ml 1 (nI (k)) n isSt.now (hn) hn40) ok_St_has w_Nm_138 rfl b_1 e_1 rfl ⟨Nat.le_of_ble_eq_true rfl, Nat.le_of_ble_eq_true rfl⟩ (rest := []) rfl (Nat.le_of_ble_eq_true rfl) d_Nm_markAt_5 ?_
  refine kD (st' := [.int (bI (isMk n (nI (k))))]) rfl ?_
  have hJ_1 : V γ o 2 mi ml 24 [(0, .ref (ads o (0))), (1, .int (nI (k)))] [.long (ml 2 k)] := by
    refine r_end_l X d_Nm_markAt_24 ?_
    first | exact ⟨rfl, rfl, rfl⟩ | (refine ⟨?_, rfl, rfl⟩; simp_all)
  refine r_ifeqB X (tgt := 23) (b := isMk n (nI (k))) d_Nm_markAt_8 (by decide) (fun c_8 => ?_) (fun c_8 => ?_)
  · -- taken
    exact False.elim (by rw [isMk_nI (by omega) (by omega)] at c_8; simp at c_8; omega)
  · -- not taken
    refine r_aload_n X 0 d_Nm_markAt_11 rfl rfl ?_
    refine r_get X f_Nm_10 b_0 e_0 (v := .ref (ads o (1))) rfl d_Nm_markAt_12 ?_
    refine r_get X f_Nm_142 b_1 e_1 (v := .ref (ads o (2))) rfl d_Nm_markAt_15 ?_
    refine r_iload_n X 1 d_Nm_markAt_18 rfl rfl ?_
    refine r_lald X (v := ml 2 k) b_2 e_2 (Nat.le_of_ble_eq_true rfl) (by omega) rfl d_Nm_markAt_19 ?_
    refine r_goto X (tgt := 24) d_Nm_markAt_20 (by decide) ?_
    exact hJ_1

set_option maxHeartbeats 4000000 in
set_option maxRecDepth 100000 in
theorem m_Nm_markAt_u (l : Launch) (o : OM) (mi : MI) (ml : ML) (k : Int32) (n : Nat) (hn : mi 1 2 = nI n) (hn40 : n ≤ 40) (hu : isMk n k = false) : ConD l y_Nm_markAt c_Nm_markAt 2 (some .long) 8 270 o [.ref (ads o (0)), .int (k)] mi ml (some (.long (0))) mi ml := by
  refine Con.mk (by decide) (Nat.le_of_ble_eq_true rfl) (fun γ X => ?_)
  show V γ o 2 mi ml 0 [(0, .ref (ads o (0))), (1, .int (k))] []
  refine r_aload_n X 0 d_Nm_markAt_0 rfl rfl ?_
  refine r_get X f_Nm_10 b_0 e_0 (v := .ref (ads o (1))) rfl d_Nm_markAt_1 ?_
  refine r_iload_n X 1 d_Nm_markAt_4 rfl rfl ?_
  refine r_callV X (m_St_has l o mi ml 1 k n isSt.now (hn) hn40) ok_St_has w_Nm_138 rfl b_1 e_1 rfl ⟨Nat.le_of_ble_eq_true rfl, Nat.le_of_ble_eq_true rfl⟩ (rest := []) rfl (Nat.le_of_ble_eq_true rfl) d_Nm_markAt_5 ?_
  refine kD (st' := [.int (bI (isMk n k))]) rfl ?_
  have hJ_1 : V γ o 2 mi ml 24 [(0, .ref (ads o (0))), (1, .int (k))] [.long (0)] := by
    refine r_end_l X d_Nm_markAt_24 ?_
    first | exact ⟨rfl, rfl, rfl⟩ | (refine ⟨?_, rfl, rfl⟩; simp_all)
  refine r_ifeqB X (tgt := 23) (b := isMk n k) d_Nm_markAt_8 (by decide) (fun c_8 => ?_) (fun c_8 => ?_)
  · -- taken
    refine r_lconst X (v := 0) d_Nm_markAt_23 (by decide) ?_
    exact hJ_1
  · -- not taken
    exact False.elim (by rw [hu] at c_8; cases c_8)

set_option maxHeartbeats 4000000 in
set_option maxRecDepth 100000 in
theorem m_Nm_countOthersWithin (l : Launch) (o : OM) (mi : MI) (ml : ML) (k : Nat) (r : Nat) (n : Nat) (hn : mi 1 2 = nI n) (hn40 : n ≤ 40) (hk : k < 40) (hr : r < 100) : ConD l y_Nm_countOthersWithin c_Nm_countOthersWithin 5 (some .int) 3 66 o [.ref (ads o (0)), .int (nI (k)), .int (nI (r))] mi ml (some (.int (nI (ct (othC ml k r) n)))) mi ml := by
  refine Con.mk (by decide) (Nat.le_of_ble_eq_true rfl) (fun γ X => ?_)
  show V γ o 5 mi ml 0 [(0, .ref (ads o (0))), (1, .int (nI (k))), (2, .int (nI (r)))] []
  refine r_iconst X (v := nI (0)) d_Nm_countOthersWithin_0 (by decide) ?_
  refine r_istore_n X [(3, .int (nI (0))), (0, .ref (ads o (0))), (1, .int (nI (k))), (2, .int (nI (r)))] d_Nm_countOthersWithin_1 rfl (Nat.le_of_ble_eq_true rfl) rfl ?_
  refine r_iconst X (v := nI (0)) d_Nm_countOthersWithin_2 (by decide) ?_
  refine r_istore X [(4, .int (nI (0))), (3, .int (nI (0))), (0, .ref (ads o (0))), (1, .int (nI (k))), (2, .int (nI (r)))] d_Nm_countOthersWithin_3 (Nat.le_of_ble_eq_true rfl) rfl ?_
  have L5_1 : ∀ (d_i i : Nat), i + d_i = n → V γ o 5 mi ml 5 [(0, .ref (ads o (0))), (1, .int (nI (k))), (2, .int (nI (r))), (3, .int (nI (ct (fun j => !decide (j = k) && !decide (r < ds (ml 2 j) (ml 2 k))) (i)))), (4, .int (nI (i)))] [] := by
    intro d_i
    induction d_i with
    | zero =>
      intro i hi_L5_1 
      have he_L5_1 : n = i := by omega
      subst he_L5_1
      refine r_iload X 4 d_Nm_countOthersWithin_5 rfl ?_
      refine r_aload_n X 0 d_Nm_countOthersWithin_7 rfl rfl ?_
      refine r_get X f_Nm_10 b_0 e_0 (v := .ref (ads o (1))) rfl d_Nm_countOthersWithin_8 ?_
      refine r_get X f_Nm_83 b_1 e_1 (v := .int (nI (n))) (congrArg (fun z => some (Value.int z)) (hn)) d_Nm_countOthersWithin_11 ?_
      refine r_icge X (tgt := 46) (c := n ≤ n) d_Nm_countOthersWithin_14 (by decide) (nI_leI (by omega) (by omega)) (fun c_14 => ?_) (fun c_14 => ?_)
      · -- taken
        refine r_iload_n X 3 d_Nm_countOthersWithin_46 rfl rfl ?_
        refine r_end_i X d_Nm_countOthersWithin_47 ?_
        first | exact ⟨rfl, rfl, rfl⟩ | (refine ⟨?_, rfl, rfl⟩; simp_all)
      · -- not taken
        exact False.elim (by omega)
    | succ d_i ih_L5_1 =>
      intro i hi_L5_1 
      have hlt_L5_1 : i < n := by omega
      refine r_iload X 4 d_Nm_countOthersWithin_5 rfl ?_
      refine r_aload_n X 0 d_Nm_countOthersWithin_7 rfl rfl ?_
      refine r_get X f_Nm_10 b_0 e_0 (v := .ref (ads o (1))) rfl d_Nm_countOthersWithin_8 ?_
      refine r_get X f_Nm_83 b_1 e_1 (v := .int (nI (n))) (congrArg (fun z => some (Value.int z)) (hn)) d_Nm_countOthersWithin_11 ?_
      refine r_icge X (tgt := 46) (c := n ≤ i) d_Nm_countOthersWithin_14 (by decide) (nI_leI (by omega) (by omega)) (fun c_14_2 => ?_) (fun c_14_2 => ?_)
      · -- taken
        exact False.elim (by omega)
      · -- not taken
        refine r_iload X 4 d_Nm_countOthersWithin_17 rfl ?_
        refine r_iload_n X 1 d_Nm_countOthersWithin_19 rfl rfl ?_
        refine r_iceq X (tgt := 40) (c := i = k) d_Nm_countOthersWithin_20 (by decide) (nI_eq (by omega) (by omega)) (fun c_20 => ?_) (fun c_20 => ?_)
        · -- taken
          refine r_iinc X 4 (v := nI (i + 1)) [(4, .int (nI (i + 1))), (0, .ref (ads o (0))), (1, .int (nI (k))), (2, .int (nI (r))), (3, .int (nI (ct (fun j => !decide (j = k) && !decide (r < ds (ml 2 j) (ml 2 k))) (i))))] d_Nm_countOthersWithin_40 rfl (nI_add _ 1) (Nat.le_of_ble_eq_true rfl) rfl ?_
          refine r_goto X (tgt := 5) d_Nm_countOthersWithin_43 (by decide) ?_
          refine V.wk [1, 2, 3, 4, 0] (V.eq (ih_L5_1 (i + 1) (by omega) ) ?_ ?_ ?_ rfl) (rfl : lv_pick _ [1, 2, 3, 4, 0] = [(0, .ref (ads o (0))), (1, .int (nI (k))), (2, .int (nI (r))), (3, .int (nI (ct (fun j => !decide (j = k) && !decide (r < ds (ml 2 j) (ml 2 k))) (i)))), (4, .int (nI (i + 1)))])
          · rfl
          · rfl
          · first | rfl | (rw [ct_t] <;> simp_all; done) | (rw [ct_f] <;> simp_all; done)
        · -- not taken
          refine r_aload_n X 0 d_Nm_countOthersWithin_23 rfl rfl ?_
          refine r_get X f_Nm_10 b_0 e_0 (v := .ref (ads o (1))) rfl d_Nm_countOthersWithin_24 ?_
          refine r_iload X 4 d_Nm_countOthersWithin_27 rfl ?_
          refine r_iload_n X 1 d_Nm_countOthersWithin_29 rfl rfl ?_
          refine r_callV X (m_St_between l o mi ml 1 i k isSt.now (by omega) hk) ok_St_between w_Nm_171 rfl b_1 e_1 rfl ⟨Nat.le_of_ble_eq_true rfl, Nat.le_of_ble_eq_true rfl⟩ (rest := []) rfl (Nat.le_of_ble_eq_true rfl) d_Nm_countOthersWithin_30 ?_
          refine kD (st' := [.int (nI (ds (ml 2 i) (ml 2 k)))]) rfl ?_
          refine r_iload_n X 2 d_Nm_countOthersWithin_33 rfl rfl ?_
          refine r_icgt X (tgt := 40) (c := r < (ds (ml 2 i) (ml 2 k))) d_Nm_countOthersWithin_34 (by decide) (nI_ltI (by omega) (ds_lt _ _)) (fun c_34 => ?_) (fun c_34 => ?_)
          · -- taken
            refine r_iinc X 4 (v := nI (i + 1)) [(4, .int (nI (i + 1))), (0, .ref (ads o (0))), (1, .int (nI (k))), (2, .int (nI (r))), (3, .int (nI (ct (fun j => !decide (j = k) && !decide (r < ds (ml 2 j) (ml 2 k))) (i))))] d_Nm_countOthersWithin_40 rfl (nI_add _ 1) (Nat.le_of_ble_eq_true rfl) rfl ?_
            refine r_goto X (tgt := 5) d_Nm_countOthersWithin_43 (by decide) ?_
            refine V.wk [1, 2, 3, 4, 0] (V.eq (ih_L5_1 (i + 1) (by omega) ) ?_ ?_ ?_ rfl) (rfl : lv_pick _ [1, 2, 3, 4, 0] = [(0, .ref (ads o (0))), (1, .int (nI (k))), (2, .int (nI (r))), (3, .int (nI (ct (fun j => !decide (j = k) && !decide (r < ds (ml 2 j) (ml 2 k))) (i)))), (4, .int (nI (i + 1)))])
            · rfl
            · rfl
            · first | rfl | (rw [ct_t] <;> simp_all; done) | (rw [ct_f] <;> simp_all; done)
          · -- not taken
            refine r_iinc X 3 (v := nI (ct (fun j => !decide (j = k) && !decide (r < ds (ml 2 j) (ml 2 k))) (i) + 1)) [(3, .int (nI (ct (fun j => !decide (j = k) && !decide (r < ds (ml 2 j) (ml 2 k))) (i) + 1))), (0, .ref (ads o (0))), (1, .int (nI (k))), (2, .int (nI (r))), (4, .int (nI (i)))] d_Nm_countOthersWithin_37 rfl (nI_add _ 1) (Nat.le_of_ble_eq_true rfl) rfl ?_
            refine r_iinc X 4 (v := nI (i + 1)) [(4, .int (nI (i + 1))), (3, .int (nI (ct (fun j => !decide (j = k) && !decide (r < ds (ml 2 j) (ml 2 k))) (i) + 1))), (0, .ref (ads o (0))), (1, .int (nI (k))), (2, .int (nI (r)))] d_Nm_countOthersWithin_40 rfl (nI_add _ 1) (Nat.le_of_ble_eq_true rfl) rfl ?_
            refine r_goto X (tgt := 5) d_Nm_countOthersWithin_43 (by decide) ?_
            refine V.wk [2, 3, 4, 1, 0] (V.eq (ih_L5_1 (i + 1) (by omega) ) ?_ ?_ ?_ rfl) (rfl : lv_pick _ [2, 3, 4, 1, 0] = [(0, .ref (ads o (0))), (1, .int (nI (k))), (2, .int (nI (r))), (3, .int (nI (ct (fun j => !decide (j = k) && !decide (r < ds (ml 2 j) (ml 2 k))) (i) + 1))), (4, .int (nI (i + 1)))])
            · rfl
            · rfl
            · first | rfl | (rw [ct_t] <;> simp_all; done) | (rw [ct_f] <;> simp_all; done)
  refine V.wk [2, 3, 4, 1, 0] (V.eq (L5_1 (n - 0) 0 (by omega) ) ?_ ?_ ?_ rfl) (rfl : lv_pick _ [2, 3, 4, 1, 0] = [(0, .ref (ads o (0))), (1, .int (nI (k))), (2, .int (nI (r))), (3, .int (nI (0))), (4, .int (nI (0)))])
  · rfl
  · rfl
  · rfl

set_option maxHeartbeats 4000000 in
set_option maxRecDepth 100000 in
theorem m_Nm_mark_u (l : Launch) (o : OM) (mi : MI) (ml : ML) (k : Int32) (w : Int32) (n : Nat) (hn : mi 1 2 = nI n) (hn40 : n ≤ 40) (hu : isMk n k = false) : ConD l y_Nm_mark c_Nm_mark 3 (some .int) 8 270 o [.ref (ads o (0)), .int (k), .int (w)] mi ml (some (.int (((-1000000001 : Int32))))) mi ml := by
  refine Con.mk (by decide) (Nat.le_of_ble_eq_true rfl) (fun γ X => ?_)
  show V γ o 3 mi ml 0 [(0, .ref (ads o (0))), (1, .int (k)), (2, .int (w))] []
  refine r_aload_n X 0 d_Nm_mark_0 rfl rfl ?_
  refine r_get X f_Nm_10 b_0 e_0 (v := .ref (ads o (1))) rfl d_Nm_mark_1 ?_
  refine r_iload_n X 1 d_Nm_mark_4 rfl rfl ?_
  refine r_callV X (m_St_has l o mi ml 1 k n isSt.now (hn) hn40) ok_St_has w_Nm_138 rfl b_1 e_1 rfl ⟨Nat.le_of_ble_eq_true rfl, Nat.le_of_ble_eq_true rfl⟩ (rest := []) rfl (Nat.le_of_ble_eq_true rfl) d_Nm_mark_5 ?_
  refine kD (st' := [.int (bI (isMk n k))]) rfl ?_
  refine r_ifneB X (tgt := 14) (b := isMk n k) d_Nm_mark_8 (by decide) (fun c_8 => ?_) (fun c_8 => ?_)
  · -- taken
    exact False.elim (by rw [hu] at c_8; cases c_8)
  · -- not taken
    refine r_ldc X (v := ((-1000000001 : Int32))) k_Nm_146 (by decide) d_Nm_mark_11 ?_
    refine r_end_i X d_Nm_mark_13 ?_
    first | exact ⟨rfl, rfl, rfl⟩ | (refine ⟨?_, rfl, rfl⟩; simp_all)

set_option maxHeartbeats 4000000 in
set_option maxRecDepth 100000 in
theorem m_Nm_mark_i (l : Launch) (o : OM) (mi : MI) (ml : ML) (k : Nat) (w : Int32) (n : Nat) (P : Nat) (hn : mi 1 2 = nI n) (hn40 : n ≤ 40) (hP : mi 75 2 = nI P) (hP8 : P ≤ 8) (hP1 : 1 ≤ P) (hk : k < n) : ConD l y_Nm_mark c_Nm_mark 3 (some .int) 8 270 o [.ref (ads o (0)), .int (nI (k)), .int (w)] mi ml (some (.int ((oI (ix w 5) (-1000000002 : Int32) (markC mi ml n P k))))) mi ml := by
  refine Con.mk (by decide) (Nat.le_of_ble_eq_true rfl) (fun γ X => ?_)
  show V γ o 3 mi ml 0 [(0, .ref (ads o (0))), (1, .int (nI (k))), (2, .int (w))] []
  refine r_aload_n X 0 d_Nm_mark_0 rfl rfl ?_
  refine r_get X f_Nm_10 b_0 e_0 (v := .ref (ads o (1))) rfl d_Nm_mark_1 ?_
  refine r_iload_n X 1 d_Nm_mark_4 rfl rfl ?_
  refine r_callV X (m_St_has l o mi ml 1 (nI (k)) n isSt.now (hn) hn40) ok_St_has w_Nm_138 rfl b_1 e_1 rfl ⟨Nat.le_of_ble_eq_true rfl, Nat.le_of_ble_eq_true rfl⟩ (rest := []) rfl (Nat.le_of_ble_eq_true rfl) d_Nm_mark_5 ?_
  refine kD (st' := [.int (bI (isMk n (nI (k))))]) rfl ?_
  refine r_ifneB X (tgt := 14) (b := isMk n (nI (k))) d_Nm_mark_8 (by decide) (fun c_8 => ?_) (fun c_8 => ?_)
  · -- taken
    refine r_iload_n X 2 d_Nm_mark_14 rfl rfl ?_
    rcases pk_ix w (n := 5) (by decide) with hs15 | hs15 | ⟨q15, hq15, rfl⟩
    · refine r_tswOut X (tgt := 126) d_Nm_mark_15 (Or.inl (tsw_lo hs15)) (by decide) ?_
      refine r_ldc X (v := ((-1000000002 : Int32))) k_Nm_137 (by decide) d_Nm_mark_126 ?_
      refine r_end_i X d_Nm_mark_128 ?_
      refine ⟨?_, rfl, rfl⟩; rw [ix_lo hs15]; rfl
    · refine r_tswOut X (tgt := 126) d_Nm_mark_15 (Or.inr (tsw_hi (by decide) hs15)) (by decide) ?_
      refine r_ldc X (v := ((-1000000002 : Int32))) k_Nm_137 (by decide) d_Nm_mark_126 ?_
      refine r_end_i X d_Nm_mark_128 ?_
      refine ⟨?_, rfl, rfl⟩; rw [ix_hi hs15]; rfl
    · match q15, hq15 with
      | 0, _ =>
        refine r_tswIn X (off := 33) (tgt := 48) d_Nm_mark_15 (by decide) (by decide) (by decide) (by decide) ?_
        refine r_aload_n X 0 d_Nm_mark_48 rfl rfl ?_
        refine r_get X f_Nm_10 b_0 e_0 (v := .ref (ads o (1))) rfl d_Nm_mark_49 ?_
        refine r_get X f_Nm_147 b_1 e_1 (v := .ref (ads o (3))) rfl d_Nm_mark_52 ?_
        refine r_iload_n X 1 d_Nm_mark_55 rfl rfl ?_
        refine r_iald X (v := (mi 3 k)) b_3 e_3 (Nat.le_of_ble_eq_true rfl) (by omega) rfl d_Nm_mark_56 ?_
        refine r_end_i X d_Nm_mark_57 ?_
        refine ⟨?_, rfl, rfl⟩; rw [show ix (nI 0) 5 = some 0 from by decide]; rfl
      | 1, _ =>
        refine r_tswIn X (off := 43) (tgt := 58) d_Nm_mark_15 (by decide) (by decide) (by decide) (by decide) ?_
        refine r_aload_n X 0 d_Nm_mark_58 rfl rfl ?_
        refine r_get X f_Nm_10 b_0 e_0 (v := .ref (ads o (1))) rfl d_Nm_mark_59 ?_
        refine r_get X f_Nm_142 b_1 e_1 (v := .ref (ads o (2))) rfl d_Nm_mark_62 ?_
        refine r_iload_n X 1 d_Nm_mark_65 rfl rfl ?_
        refine r_lald X (v := ml 2 k) b_2 e_2 (Nat.le_of_ble_eq_true rfl) (by omega) rfl d_Nm_mark_66 ?_
        refine r_callS X (m_Lg_bitCount l o mi ml (ml 2 k)) ok_Lg_bitCount w_Nm_91 rfl ⟨Nat.le_of_ble_eq_true rfl, Nat.le_of_ble_eq_true rfl⟩ (rest := []) rfl (Nat.le_of_ble_eq_true rfl) d_Nm_mark_67 ?_
        refine kD (st' := [.int (nI (pop (ml 2 k)))]) rfl ?_
        refine r_end_i X d_Nm_mark_70 ?_
        refine ⟨?_, rfl, rfl⟩; rw [show ix (nI 1) 5 = some 1 from by decide]; rfl
      | 2, _ =>
        refine r_tswIn X (off := 56) (tgt := 71) d_Nm_mark_15 (by decide) (by decide) (by decide) (by decide) ?_
        refine r_aload_n X 0 d_Nm_mark_71 rfl rfl ?_
        refine r_get X f_Nm_10 b_0 e_0 (v := .ref (ads o (1))) rfl d_Nm_mark_72 ?_
        refine r_iload_n X 1 d_Nm_mark_75 rfl rfl ?_
        refine r_callV X (m_St_fromHand l o mi ml 1 k isSt.now (by omega)) ok_St_fromHand w_Nm_151 rfl b_1 e_1 rfl ⟨Nat.le_of_ble_eq_true rfl, Nat.le_of_ble_eq_true rfl⟩ (rest := []) rfl (Nat.le_of_ble_eq_true rfl) d_Nm_mark_76 ?_
        refine kD (st' := [.int (nI (ds (ml 2 k) (ml 1 0)))]) rfl ?_
        refine r_end_i X d_Nm_mark_79 ?_
        refine ⟨?_, rfl, rfl⟩; rw [show ix (nI 2) 5 = some 2 from by decide]; rfl
      | 3, _ =>
        refine r_tswIn X (off := 65) (tgt := 80) d_Nm_mark_15 (by decide) (by decide) (by decide) (by decide) ?_
        refine r_aload_n X 0 d_Nm_mark_80 rfl rfl ?_
        refine r_iload_n X 1 d_Nm_mark_81 rfl rfl ?_
        refine r_aload_n X 0 d_Nm_mark_82 rfl rfl ?_
        refine r_get X f_Nm_33 b_0 e_0 (v := .ref (ads o (75))) rfl d_Nm_mark_83 ?_
        refine r_callV X (m_Pt_reach l o mi ml 75 P (Or.inl rfl) (hP) (by omega) (by omega)) ok_Pt_reach w_Nm_104 rfl b_75 e_75 rfl ⟨Nat.le_of_ble_eq_true rfl, Nat.le_of_ble_eq_true rfl⟩ (rest := [.int (nI (k)), .ref (ads o (0))]) rfl (Nat.le_of_ble_eq_true rfl) d_Nm_mark_86 ?_
        refine kD (st' := [.int (nI (P - 1)), .int (nI (k)), .ref (ads o (0))]) rfl ?_
        refine r_callV X (m_Nm_countOthersWithin l o mi ml k (P - 1) n (hn) hn40 (by omega) (by omega)) ok_Nm_countOthersWithin w_Nm_154 rfl b_0 e_0 rfl ⟨Nat.le_of_ble_eq_true rfl, Nat.le_of_ble_eq_true rfl⟩ (rest := []) rfl (Nat.le_of_ble_eq_true rfl) d_Nm_mark_89 ?_
        refine kD (st' := [.int (nI (ct (othC ml k (P - 1)) n))]) rfl ?_
        refine r_end_i X d_Nm_mark_92 ?_
        refine ⟨?_, rfl, rfl⟩; rw [show ix (nI 3) 5 = some 3 from by decide]; rfl
      | 4, _ =>
        refine r_tswIn X (off := 78) (tgt := 93) d_Nm_mark_15 (by decide) (by decide) (by decide) (by decide) ?_
        refine r_aload_n X 0 d_Nm_mark_93 rfl rfl ?_
        refine r_get X f_Nm_33 b_0 e_0 (v := .ref (ads o (75))) rfl d_Nm_mark_94 ?_
        refine r_aload_n X 0 d_Nm_mark_97 rfl rfl ?_
        refine r_get X f_Nm_10 b_0 e_0 (v := .ref (ads o (1))) rfl d_Nm_mark_98 ?_
        refine r_get X f_Nm_142 b_1 e_1 (v := .ref (ads o (2))) rfl d_Nm_mark_101 ?_
        refine r_iload_n X 1 d_Nm_mark_104 rfl rfl ?_
        refine r_lald X (v := ml 2 k) b_2 e_2 (Nat.le_of_ble_eq_true rfl) (by omega) rfl d_Nm_mark_105 ?_
        refine r_aload_n X 0 d_Nm_mark_106 rfl rfl ?_
        refine r_get X f_Nm_10 b_0 e_0 (v := .ref (ads o (1))) rfl d_Nm_mark_107 ?_
        refine r_get X f_Nm_88 b_1 e_1 (v := .long (ml 1 0)) rfl d_Nm_mark_110 ?_
        refine r_lxor X (v := (ml 2 k) ^^^ (ml 1 0)) d_Nm_mark_113 (rfl) ?_
        refine r_callV X (m_Pt_anyAlike l o mi ml 75 ((ml 2 k) ^^^ (ml 1 0)) P (Or.inl rfl) (hP) (by omega)) ok_Pt_anyAlike w_Nm_158 rfl b_75 e_75 rfl ⟨Nat.le_of_ble_eq_true rfl, Nat.le_of_ble_eq_true rfl⟩ (rest := []) rfl (Nat.le_of_ble_eq_true rfl) d_Nm_mark_114 ?_
        refine kD (st' := [.int (bI (anyP ((ml 2 k) ^^^ (ml 1 0)) (ml 77) P))]) rfl ?_
        have hJ_1 : V γ o 3 mi ml 125 [(0, .ref (ads o (0))), (1, .int (nI (k))), (2, .int (nI (4)))] [.int (bI ((anyP ((ml 2 k) ^^^ (ml 1 0)) (ml 77) P)))] := by
          refine r_end_i X d_Nm_mark_125 ?_
          refine ⟨?_, rfl, rfl⟩; rw [show ix (nI 4) 5 = some 4 from by decide]; rfl
        refine r_ifeqB X (tgt := 124) (b := anyP ((ml 2 k) ^^^ (ml 1 0)) (ml 77) P) d_Nm_mark_117 (by decide) (fun c_117 => ?_) (fun c_117 => ?_)
        · -- taken
          refine r_iconst X (v := nI (0)) d_Nm_mark_124 (by decide) ?_
          exact V.eq hJ_1 rfl rfl rfl (by rw [show ((anyP ((ml 2 k) ^^^ (ml 1 0)) (ml 77) P)) = false from by first | (simp only [c_117, decide_true, decide_false, Bool.not_true, Bool.not_false, Bool.true_and, Bool.false_and, Bool.and_true, Bool.and_false, Bool.true_or, Bool.false_or, Bool.or_true, Bool.or_false, if_true, if_false, ite_true, ite_false, cond_true, cond_false, Bool.false_eq_true, reduceIte]; done) | (simp [c_117]; done) | (simp_all; done)]; rfl)
        · -- not taken
          refine r_iconst X (v := nI (1)) d_Nm_mark_120 (by decide) ?_
          refine r_goto X (tgt := 125) d_Nm_mark_121 (by decide) ?_
          exact V.eq hJ_1 rfl rfl rfl (by rw [show ((anyP ((ml 2 k) ^^^ (ml 1 0)) (ml 77) P)) = true from by first | (simp only [c_117, decide_true, decide_false, Bool.not_true, Bool.not_false, Bool.true_and, Bool.false_and, Bool.and_true, Bool.and_false, Bool.true_or, Bool.false_or, Bool.or_true, Bool.or_false, if_true, if_false, ite_true, ite_false, cond_true, cond_false, Bool.false_eq_true, reduceIte]; done) | (simp [c_117]; done) | (simp_all; done)]; rfl)
  · -- not taken
    exact False.elim (by rw [isMk_nI (by omega) (by omega)] at c_8; simp at c_8; omega)

set_option maxHeartbeats 4000000 in
set_option maxRecDepth 100000 in
theorem m_Nm_countWithPart (l : Launch) (o : OM) (mi : MI) (ml : ML) (x : Int64) (n : Nat) (hn : mi 1 2 = nI n) (hn40 : n ≤ 40) : ConD l y_Nm_countWithPart c_Nm_countWithPart 5 (some .int) 0 0 o [.ref (ads o (0)), .long (x)] mi ml (some (.int (nI (ct (withC ml x) n)))) mi ml := by
  refine Con.mk (by decide) (Nat.le_of_ble_eq_true rfl) (fun γ X => ?_)
  show V γ o 5 mi ml 0 [(0, .ref (ads o (0))), (1, .long (x))] []
  refine r_iconst X (v := nI (0)) d_Nm_countWithPart_0 (by decide) ?_
  refine r_istore_n X [(3, .int (nI (0))), (0, .ref (ads o (0))), (1, .long (x))] d_Nm_countWithPart_1 rfl (Nat.le_of_ble_eq_true rfl) rfl ?_
  refine r_iconst X (v := nI (0)) d_Nm_countWithPart_2 (by decide) ?_
  refine r_istore X [(4, .int (nI (0))), (3, .int (nI (0))), (0, .ref (ads o (0))), (1, .long (x))] d_Nm_countWithPart_3 (Nat.le_of_ble_eq_true rfl) rfl ?_
  have L5_1 : ∀ (d_i i : Nat), i + d_i = n → V γ o 5 mi ml 5 [(0, .ref (ads o (0))), (1, .long (x)), (3, .int (nI (ct (fun k => decide ((ml 2 k ^^^ ml 1 0) &&& x = 0)) (i)))), (4, .int (nI (i)))] [] := by
    intro d_i
    induction d_i with
    | zero =>
      intro i hi_L5_1 
      have he_L5_1 : n = i := by omega
      subst he_L5_1
      refine r_iload X 3 d_Nm_countWithPart_5 rfl ?_
      refine r_aload_n X 0 d_Nm_countWithPart_7 rfl rfl ?_
      refine r_get X f_Nm_10 b_0 e_0 (v := .ref (ads o (1))) rfl d_Nm_countWithPart_8 ?_
      refine r_get X f_Nm_83 b_1 e_1 (v := .int (nI (n))) (congrArg (fun z => some (Value.int z)) (hn)) d_Nm_countWithPart_11 ?_
      refine r_icge X (tgt := 51) (c := n ≤ n) d_Nm_countWithPart_14 (by decide) (nI_leI (by omega) (by omega)) (fun c_14 => ?_) (fun c_14 => ?_)
      · -- taken
        refine r_iload_n X 2 d_Nm_countWithPart_51 rfl rfl ?_
        refine r_end_i X d_Nm_countWithPart_52 ?_
        first | exact ⟨rfl, rfl, rfl⟩ | (refine ⟨?_, rfl, rfl⟩; simp_all)
      · -- not taken
        exact False.elim (by omega)
    | succ d_i ih_L5_1 =>
      intro i hi_L5_1 
      have hlt_L5_1 : i < n := by omega
      refine r_iload X 3 d_Nm_countWithPart_5 rfl ?_
      refine r_aload_n X 0 d_Nm_countWithPart_7 rfl rfl ?_
      refine r_get X f_Nm_10 b_0 e_0 (v := .ref (ads o (1))) rfl d_Nm_countWithPart_8 ?_
      refine r_get X f_Nm_83 b_1 e_1 (v := .int (nI (n))) (congrArg (fun z => some (Value.int z)) (hn)) d_Nm_countWithPart_11 ?_
      refine r_icge X (tgt := 51) (c := n ≤ i) d_Nm_countWithPart_14 (by decide) (nI_leI (by omega) (by omega)) (fun c_14_2 => ?_) (fun c_14_2 => ?_)
      · -- taken
        exact False.elim (by omega)
      · -- not taken
        refine r_aload_n X 0 d_Nm_countWithPart_17 rfl rfl ?_
        refine r_get X f_Nm_10 b_0 e_0 (v := .ref (ads o (1))) rfl d_Nm_countWithPart_18 ?_
        refine r_get X f_Nm_142 b_1 e_1 (v := .ref (ads o (2))) rfl d_Nm_countWithPart_21 ?_
        refine r_iload X 3 d_Nm_countWithPart_24 rfl ?_
        refine r_lald X (v := ml 2 i) b_2 e_2 (Nat.le_of_ble_eq_true rfl) (by omega) rfl d_Nm_countWithPart_26 ?_
        refine r_aload_n X 0 d_Nm_countWithPart_27 rfl rfl ?_
        refine r_get X f_Nm_10 b_0 e_0 (v := .ref (ads o (1))) rfl d_Nm_countWithPart_28 ?_
        refine r_get X f_Nm_88 b_1 e_1 (v := .long (ml 1 0)) rfl d_Nm_countWithPart_31 ?_
        refine r_lxor X (v := (ml 2 i) ^^^ (ml 1 0)) d_Nm_countWithPart_34 (rfl) ?_
        refine r_lload_n X 1 d_Nm_countWithPart_35 rfl rfl ?_
        refine r_land X (v := ((ml 2 i) ^^^ (ml 1 0)) &&& (x)) d_Nm_countWithPart_36 (rfl) ?_
        refine r_lconst X (v := 0) d_Nm_countWithPart_37 (by decide) ?_
        refine r_lcmp X d_Nm_countWithPart_38 ?_
        refine r_ifneP X (tgt := 45) (c := (((ml 2 i) ^^^ (ml 1 0)) &&& (x)) = 0) d_Nm_countWithPart_39 (by decide) (lg_cmp_eq _ _) (fun c_39 => ?_) (fun c_39 => ?_)
        · -- taken
          refine r_iinc X 3 (v := nI (i + 1)) [(4, .int (nI (i + 1))), (0, .ref (ads o (0))), (1, .long (x)), (3, .int (nI (ct (fun k => decide ((ml 2 k ^^^ ml 1 0) &&& x = 0)) (i))))] d_Nm_countWithPart_45 rfl (nI_add _ 1) (Nat.le_of_ble_eq_true rfl) rfl ?_
          refine r_goto X (tgt := 5) d_Nm_countWithPart_48 (by decide) ?_
          refine V.wk [1, 2, 3, 0] (V.eq (ih_L5_1 (i + 1) (by omega) ) ?_ ?_ ?_ rfl) (rfl : lv_pick _ [1, 2, 3, 0] = [(0, .ref (ads o (0))), (1, .long (x)), (3, .int (nI (ct (fun k => decide ((ml 2 k ^^^ ml 1 0) &&& x = 0)) (i)))), (4, .int (nI (i + 1)))])
          · rfl
          · rfl
          · first | rfl | (rw [ct_t] <;> simp_all; done) | (rw [ct_f] <;> simp_all; done)
        · -- not taken
          refine r_iinc X 2 (v := nI (ct (fun k => decide ((ml 2 k ^^^ ml 1 0) &&& x = 0)) (i) + 1)) [(3, .int (nI (ct (fun k => decide ((ml 2 k ^^^ ml 1 0) &&& x = 0)) (i) + 1))), (0, .ref (ads o (0))), (1, .long (x)), (4, .int (nI (i)))] d_Nm_countWithPart_42 rfl (nI_add _ 1) (Nat.le_of_ble_eq_true rfl) rfl ?_
          refine r_iinc X 3 (v := nI (i + 1)) [(4, .int (nI (i + 1))), (3, .int (nI (ct (fun k => decide ((ml 2 k ^^^ ml 1 0) &&& x = 0)) (i) + 1))), (0, .ref (ads o (0))), (1, .long (x))] d_Nm_countWithPart_45 rfl (nI_add _ 1) (Nat.le_of_ble_eq_true rfl) rfl ?_
          refine r_goto X (tgt := 5) d_Nm_countWithPart_48 (by decide) ?_
          refine V.wk [2, 3, 1, 0] (V.eq (ih_L5_1 (i + 1) (by omega) ) ?_ ?_ ?_ rfl) (rfl : lv_pick _ [2, 3, 1, 0] = [(0, .ref (ads o (0))), (1, .long (x)), (3, .int (nI (ct (fun k => decide ((ml 2 k ^^^ ml 1 0) &&& x = 0)) (i) + 1))), (4, .int (nI (i + 1)))])
          · rfl
          · rfl
          · first | rfl | (rw [ct_t] <;> simp_all; done) | (rw [ct_f] <;> simp_all; done)
  refine V.wk [2, 3, 1, 0] (V.eq (L5_1 (n - 0) 0 (by omega) ) ?_ ?_ ?_ rfl) (rfl : lv_pick _ [2, 3, 1, 0] = [(0, .ref (ads o (0))), (1, .long (x)), (3, .int (nI (0))), (4, .int (nI (0)))])
  · rfl
  · rfl
  · rfl

set_option maxHeartbeats 4000000 in
set_option maxRecDepth 100000 in
theorem m_Nm_part_u (l : Launch) (o : OM) (mi : MI) (ml : ML) (p : Int32) (w : Int32) (P : Nat) (hP : mi 75 2 = nI P) (hP8 : P ≤ 8) (hu : isMk P p = false) : ConD l y_Nm_part c_Nm_part 3 (some .int) 8 270 o [.ref (ads o (0)), .int (p), .int (w)] mi ml (some (.int (((-1000000001 : Int32))))) mi ml := by
  refine Con.mk (by decide) (Nat.le_of_ble_eq_true rfl) (fun γ X => ?_)
  show V γ o 3 mi ml 0 [(0, .ref (ads o (0))), (1, .int (p)), (2, .int (w))] []
  refine r_iload_n X 1 d_Nm_part_0 rfl rfl ?_
  refine r_iflt X (tgt := 15) (c := p < 0) d_Nm_part_1 (by decide) (Iff.rfl) (fun c_1 => ?_) (fun c_1 => ?_)
  · -- taken
    refine r_ldc X (v := ((-1000000001 : Int32))) k_Nm_146 (by decide) d_Nm_part_15 ?_
    refine r_end_i X d_Nm_part_17 ?_
    first | exact ⟨rfl, rfl, rfl⟩ | (refine ⟨?_, rfl, rfl⟩; simp_all)
  · -- not taken
    refine r_iload_n X 1 d_Nm_part_4 rfl rfl ?_
    refine r_aload_n X 0 d_Nm_part_5 rfl rfl ?_
    refine r_get X f_Nm_33 b_0 e_0 (v := .ref (ads o (75))) rfl d_Nm_part_6 ?_
    refine r_get X f_Nm_87 b_75 e_75 (v := .int (nI (P))) (congrArg (fun z => some (Value.int z)) (hP)) d_Nm_part_9 ?_
    refine r_iclt X (tgt := 18) (c := p < (nI (P))) d_Nm_part_12 (by decide) (Iff.rfl) (fun c_12 => ?_) (fun c_12 => ?_)
    · -- taken
      exact False.elim (by rw [isMk_of c_1 c_12] at hu; cases hu)
    · -- not taken
      refine r_ldc X (v := ((-1000000001 : Int32))) k_Nm_146 (by decide) d_Nm_part_15 ?_
      refine r_end_i X d_Nm_part_17 ?_
      first | exact ⟨rfl, rfl, rfl⟩ | (refine ⟨?_, rfl, rfl⟩; simp_all)

set_option maxHeartbeats 4000000 in
set_option maxRecDepth 100000 in
theorem m_Nm_part_i (l : Launch) (o : OM) (mi : MI) (ml : ML) (p : Nat) (w : Int32) (n : Nat) (P : Nat) (hn : mi 1 2 = nI n) (hn40 : n ≤ 40) (hP : mi 75 2 = nI P) (hP8 : P ≤ 8) (hp : p < P) : ConD l y_Nm_part c_Nm_part 3 (some .int) 8 270 o [.ref (ads o (0)), .int (nI (p)), .int (w)] mi ml (some (.int ((oI (ix w 3) (-1000000002 : Int32) (partC mi ml n p))))) mi ml := by
  refine Con.mk (by decide) (Nat.le_of_ble_eq_true rfl) (fun γ X => ?_)
  show V γ o 3 mi ml 0 [(0, .ref (ads o (0))), (1, .int (nI (p))), (2, .int (w))] []
  refine r_iload_n X 1 d_Nm_part_0 rfl rfl ?_
  refine r_iflt X (tgt := 15) (c := p < 0) d_Nm_part_1 (by decide) ((by rw [← nI_0] <;> exact nI_ltI (by omega) (Nat.le_of_ble_eq_true rfl))) (fun c_1 => ?_) (fun c_1 => ?_)
  · -- taken
    exact False.elim (by omega)
  · -- not taken
    refine r_iload_n X 1 d_Nm_part_4 rfl rfl ?_
    refine r_aload_n X 0 d_Nm_part_5 rfl rfl ?_
    refine r_get X f_Nm_33 b_0 e_0 (v := .ref (ads o (75))) rfl d_Nm_part_6 ?_
    refine r_get X f_Nm_87 b_75 e_75 (v := .int (nI (P))) (congrArg (fun z => some (Value.int z)) (hP)) d_Nm_part_9 ?_
    refine r_iclt X (tgt := 18) (c := p < P) d_Nm_part_12 (by decide) (nI_ltI (by omega) (by omega)) (fun c_12 => ?_) (fun c_12 => ?_)
    · -- taken
      refine r_iload_n X 2 d_Nm_part_18 rfl rfl ?_
      rcases pk_ix w (n := 3) (by decide) with hs19 | hs19 | ⟨q19, hq19, rfl⟩
      · refine r_tswOut X (tgt := 81) d_Nm_part_19 (Or.inl (tsw_lo hs19)) (by decide) ?_
        refine r_ldc X (v := ((-1000000002 : Int32))) k_Nm_137 (by decide) d_Nm_part_81 ?_
        refine r_end_i X d_Nm_part_83 ?_
        refine ⟨?_, rfl, rfl⟩; rw [ix_lo hs19]; rfl
      · refine r_tswOut X (tgt := 81) d_Nm_part_19 (Or.inr (tsw_hi (by decide) hs19)) (by decide) ?_
        refine r_ldc X (v := ((-1000000002 : Int32))) k_Nm_137 (by decide) d_Nm_part_81 ?_
        refine r_end_i X d_Nm_part_83 ?_
        refine ⟨?_, rfl, rfl⟩; rw [ix_hi hs19]; rfl
      · match q19, hq19 with
        | 0, _ =>
          refine r_tswIn X (off := 25) (tgt := 44) d_Nm_part_19 (by decide) (by decide) (by decide) (by decide) ?_
          refine r_aload_n X 0 d_Nm_part_44 rfl rfl ?_
          refine r_get X f_Nm_33 b_0 e_0 (v := .ref (ads o (75))) rfl d_Nm_part_45 ?_
          refine r_get X f_Nm_162 b_75 e_75 (v := .ref (ads o (76))) rfl d_Nm_part_48 ?_
          refine r_iload_n X 1 d_Nm_part_51 rfl rfl ?_
          refine r_iald X (v := (mi 76 p)) b_76 e_76 (Nat.le_of_ble_eq_true rfl) (by omega) rfl d_Nm_part_52 ?_
          refine r_end_i X d_Nm_part_53 ?_
          refine ⟨?_, rfl, rfl⟩; rw [show ix (nI 0) 3 = some 0 from by decide]; rfl
        | 1, _ =>
          refine r_tswIn X (off := 35) (tgt := 54) d_Nm_part_19 (by decide) (by decide) (by decide) (by decide) ?_
          refine r_aload_n X 0 d_Nm_part_54 rfl rfl ?_
          refine r_get X f_Nm_33 b_0 e_0 (v := .ref (ads o (75))) rfl d_Nm_part_55 ?_
          refine r_get X f_Nm_165 b_75 e_75 (v := .ref (ads o (77))) rfl d_Nm_part_58 ?_
          refine r_iload_n X 1 d_Nm_part_61 rfl rfl ?_
          refine r_lald X (v := ml 77 p) b_77 e_77 (Nat.le_of_ble_eq_true rfl) (by omega) rfl d_Nm_part_62 ?_
          refine r_callS X (m_Lg_bitCount l o mi ml (ml 77 p)) ok_Lg_bitCount w_Nm_91 rfl ⟨Nat.le_of_ble_eq_true rfl, Nat.le_of_ble_eq_true rfl⟩ (rest := []) rfl (Nat.le_of_ble_eq_true rfl) d_Nm_part_63 ?_
          refine kD (st' := [.int (nI (pop (ml 77 p)))]) rfl ?_
          refine r_end_i X d_Nm_part_66 ?_
          refine ⟨?_, rfl, rfl⟩; rw [show ix (nI 1) 3 = some 1 from by decide]; rfl
        | 2, _ =>
          refine r_tswIn X (off := 48) (tgt := 67) d_Nm_part_19 (by decide) (by decide) (by decide) (by decide) ?_
          refine r_aload_n X 0 d_Nm_part_67 rfl rfl ?_
          refine r_aload_n X 0 d_Nm_part_68 rfl rfl ?_
          refine r_get X f_Nm_33 b_0 e_0 (v := .ref (ads o (75))) rfl d_Nm_part_69 ?_
          refine r_get X f_Nm_165 b_75 e_75 (v := .ref (ads o (77))) rfl d_Nm_part_72 ?_
          refine r_iload_n X 1 d_Nm_part_75 rfl rfl ?_
          refine r_lald X (v := ml 77 p) b_77 e_77 (Nat.le_of_ble_eq_true rfl) (by omega) rfl d_Nm_part_76 ?_
          refine r_callV X (m_Nm_countWithPart l o mi ml (ml 77 p) n (hn) hn40) ok_Nm_countWithPart w_Nm_168 rfl b_0 e_0 rfl ⟨Nat.le_of_ble_eq_true rfl, Nat.le_of_ble_eq_true rfl⟩ (rest := []) rfl (Nat.le_of_ble_eq_true rfl) d_Nm_part_77 ?_
          refine kD (st' := [.int (nI (ct (withC ml (ml 77 p)) n))]) rfl ?_
          refine r_end_i X d_Nm_part_80 ?_
          refine ⟨?_, rfl, rfl⟩; rw [show ix (nI 2) 3 = some 2 from by decide]; rfl
    · -- not taken
      exact False.elim (by omega)

set_option maxHeartbeats 4000000 in
set_option maxRecDepth 100000 in
theorem m_Nm_type_i (l : Launch) (o : OM) (mi : MI) (ml : ML) (r : Nat) (d : Nat) (nx : Nat) (c : Nat) (n : Nat) (hnx : mi 4 1 = nI nx) (hnx20 : nx < 20) (hc : mi 4 2 = nI c) (hc20 : c ≤ 20) (hn : mi 1 2 = nI n) (hn40 : n ≤ 40) (hr : r < 8) (hd : d < 256) : ConD l y_Nm_type c_Nm_type 3 (some .int) 8 270 o [.ref (ads o (0)), .int (nI (r)), .int (nI (d))] mi ml (some (.int (nI (pop (typed (ml 1 0) r d))))) (remI mi nx c n) (u2 (remL ml nx n) 1 0 (typed (ml 1 0) r d)) := by
  refine Con.mk (by decide) (Nat.le_of_ble_eq_true rfl) (fun γ X => ?_)
  show V γ o 3 mi ml 0 [(0, .ref (ads o (0))), (1, .int (nI (r))), (2, .int (nI (d)))] []
  refine r_iload_n X 1 d_Nm_type_0 rfl rfl ?_
  refine r_iflt X (tgt := 21) (c := r < 0) d_Nm_type_1 (by decide) ((by rw [← nI_0] <;> exact nI_ltI (by omega) (Nat.le_of_ble_eq_true rfl))) (fun c_1 => ?_) (fun c_1 => ?_)
  · -- taken
    exact False.elim (by omega)
  · -- not taken
    refine r_iload_n X 1 d_Nm_type_4 rfl rfl ?_
    refine r_bipush X (v := nI (8)) d_Nm_type_5 (by decide) ?_
    refine r_icge X (tgt := 21) (c := 8 ≤ r) d_Nm_type_7 (by decide) (nI_leI (Nat.le_of_ble_eq_true rfl) (by omega)) (fun c_7 => ?_) (fun c_7 => ?_)
    · -- taken
      exact False.elim (by omega)
    · -- not taken
      refine r_iload_n X 2 d_Nm_type_10 rfl rfl ?_
      refine r_iflt X (tgt := 21) (c := d < 0) d_Nm_type_11 (by decide) ((by rw [← nI_0] <;> exact nI_ltI (by omega) (Nat.le_of_ble_eq_true rfl))) (fun c_11 => ?_) (fun c_11 => ?_)
      · -- taken
        exact False.elim (by omega)
      · -- not taken
        refine r_iload_n X 2 d_Nm_type_14 rfl rfl ?_
        refine r_sipush X (v := nI (255)) d_Nm_type_15 (by decide) ?_
        refine r_icle X (tgt := 24) (c := d ≤ 255) d_Nm_type_18 (by decide) (nI_leI (by omega) (Nat.le_of_ble_eq_true rfl)) (fun c_18 => ?_) (fun c_18 => ?_)
        · -- taken
          refine r_aload_n X 0 d_Nm_type_24 rfl rfl ?_
          refine r_get X f_Nm_19 b_0 e_0 (v := .ref (ads o (4))) rfl d_Nm_type_25 ?_
          refine r_aload_n X 0 d_Nm_type_28 rfl rfl ?_
          refine r_get X f_Nm_10 b_0 e_0 (v := .ref (ads o (1))) rfl d_Nm_type_29 ?_
          refine r_callV X (m_Pa_remember l o mi ml nx c n (hnx) hnx20 (hc) hc20 (hn) hn40) ok_Pa_remember w_Nm_174 rfl b_4 e_4 rfl ⟨Nat.le_of_ble_eq_true rfl, Nat.le_of_ble_eq_true rfl⟩ (rest := []) rfl (Nat.le_of_ble_eq_true rfl) d_Nm_type_32 ?_
          refine kD (st' := []) rfl ?_
          refine r_aload_n X 0 d_Nm_type_35 rfl rfl ?_
          refine r_get X f_Nm_10 b_0 e_0 (v := .ref (ads o (1))) rfl d_Nm_type_36 ?_
          refine r_aload_n X 0 d_Nm_type_39 rfl rfl ?_
          refine r_get X f_Nm_10 b_0 e_0 (v := .ref (ads o (1))) rfl d_Nm_type_40 ?_
          refine r_get X f_Nm_88 b_1 e_1 (v := .long (ml 1 0)) (congrArg (fun z => some (Value.long z)) ((by rw [remL_n _ (by omega) (by omega)] <;> exact rfl))) d_Nm_type_43 ?_
          refine r_iload_n X 1 d_Nm_type_46 rfl rfl ?_
          refine r_iload_n X 2 d_Nm_type_47 rfl rfl ?_
          refine r_callS X (m_Pi_withRow l o (remI mi nx c n) (remL ml nx n) (ml 1 0) r d (by omega) (by omega)) ok_Pi_withRow w_Nm_178 rfl ⟨Nat.le_of_ble_eq_true rfl, Nat.le_of_ble_eq_true rfl⟩ (rest := [.ref (ads o (1))]) rfl (Nat.le_of_ble_eq_true rfl) d_Nm_type_48 ?_
          refine kD (st' := [.long (typed (ml 1 0) r d), .ref (ads o (1))]) rfl ?_
          refine r_putL X fw_Nm_88 b_1 e_1 (fun _ _ => rfl) (Nat.le_of_ble_eq_true rfl) d_Nm_type_51 ?_
          refine r_aload_n X 0 d_Nm_type_54 rfl rfl ?_
          refine r_get X f_Nm_10 b_0 e_0 (v := .ref (ads o (1))) rfl d_Nm_type_55 ?_
          refine r_get X f_Nm_88 b_1 e_1 (v := .long (typed (ml 1 0) r d)) (congrArg (fun z => some (Value.long z)) ((by rw [u2_s, uf_s]))) d_Nm_type_58 ?_
          refine r_callS X (m_Lg_bitCount l o (remI mi nx c n) (u2 (remL ml nx n) 1 0 (typed (ml 1 0) r d)) (typed (ml 1 0) r d)) ok_Lg_bitCount w_Nm_91 rfl ⟨Nat.le_of_ble_eq_true rfl, Nat.le_of_ble_eq_true rfl⟩ (rest := []) rfl (Nat.le_of_ble_eq_true rfl) d_Nm_type_61 ?_
          refine kD (st' := [.int (nI (pop (typed (ml 1 0) r d)))]) rfl ?_
          refine r_end_i X d_Nm_type_64 ?_
          exact ⟨rfl, rfl, rfl⟩
        · -- not taken
          exact False.elim (by omega)

set_option maxHeartbeats 4000000 in
set_option maxRecDepth 100000 in
theorem m_Nm_type_o1 (l : Launch) (o : OM) (mi : MI) (ml : ML) (r : Int32) (d : Int32) (hr : r < nI 0 ∨ nI 7 < r) : ConD l y_Nm_type c_Nm_type 3 (some .int) 8 270 o [.ref (ads o (0)), .int (r), .int (d)] mi ml (some (.int (((-1000000002 : Int32))))) mi ml := by
  refine Con.mk (by decide) (Nat.le_of_ble_eq_true rfl) (fun γ X => ?_)
  show V γ o 3 mi ml 0 [(0, .ref (ads o (0))), (1, .int (r)), (2, .int (d))] []
  refine r_iload_n X 1 d_Nm_type_0 rfl rfl ?_
  refine r_iflt X (tgt := 21) (c := r < 0) d_Nm_type_1 (by decide) (Iff.rfl) (fun c_1 => ?_) (fun c_1 => ?_)
  · -- taken
    refine r_ldc X (v := ((-1000000002 : Int32))) k_Nm_137 (by decide) d_Nm_type_21 ?_
    refine r_end_i X d_Nm_type_23 ?_
    first | exact ⟨rfl, rfl, rfl⟩ | (refine ⟨?_, rfl, rfl⟩; simp_all)
  · -- not taken
    refine r_iload_n X 1 d_Nm_type_4 rfl rfl ?_
    refine r_bipush X (v := nI (8)) d_Nm_type_5 (by decide) ?_
    refine r_icge X (tgt := 21) (c := (nI (8)) ≤ r) d_Nm_type_7 (by decide) (Iff.rfl) (fun c_7 => ?_) (fun c_7 => ?_)
    · -- taken
      refine r_ldc X (v := ((-1000000002 : Int32))) k_Nm_137 (by decide) d_Nm_type_21 ?_
      refine r_end_i X d_Nm_type_23 ?_
      first | exact ⟨rfl, rfl, rfl⟩ | (refine ⟨?_, rfl, rfl⟩; simp_all)
    · -- not taken
      exact False.elim (by exact raw_lo (by decide) (by decide) rfl hr c_1 c_7)

set_option maxHeartbeats 4000000 in
set_option maxRecDepth 100000 in
theorem m_Nm_type_o2 (l : Launch) (o : OM) (mi : MI) (ml : ML) (r : Nat) (d : Int32) (hr : r < 8) (hd : d < nI 0 ∨ nI 255 < d) : ConD l y_Nm_type c_Nm_type 3 (some .int) 8 270 o [.ref (ads o (0)), .int (nI (r)), .int (d)] mi ml (some (.int (((-1000000002 : Int32))))) mi ml := by
  refine Con.mk (by decide) (Nat.le_of_ble_eq_true rfl) (fun γ X => ?_)
  show V γ o 3 mi ml 0 [(0, .ref (ads o (0))), (1, .int (nI (r))), (2, .int (d))] []
  refine r_iload_n X 1 d_Nm_type_0 rfl rfl ?_
  refine r_iflt X (tgt := 21) (c := r < 0) d_Nm_type_1 (by decide) ((by rw [← nI_0] <;> exact nI_ltI (by omega) (Nat.le_of_ble_eq_true rfl))) (fun c_1 => ?_) (fun c_1 => ?_)
  · -- taken
    exact False.elim (by omega)
  · -- not taken
    refine r_iload_n X 1 d_Nm_type_4 rfl rfl ?_
    refine r_bipush X (v := nI (8)) d_Nm_type_5 (by decide) ?_
    refine r_icge X (tgt := 21) (c := 8 ≤ r) d_Nm_type_7 (by decide) (nI_leI (Nat.le_of_ble_eq_true rfl) (by omega)) (fun c_7 => ?_) (fun c_7 => ?_)
    · -- taken
      exact False.elim (by omega)
    · -- not taken
      refine r_iload_n X 2 d_Nm_type_10 rfl rfl ?_
      refine r_iflt X (tgt := 21) (c := d < 0) d_Nm_type_11 (by decide) (Iff.rfl) (fun c_11 => ?_) (fun c_11 => ?_)
      · -- taken
        refine r_ldc X (v := ((-1000000002 : Int32))) k_Nm_137 (by decide) d_Nm_type_21 ?_
        refine r_end_i X d_Nm_type_23 ?_
        first | exact ⟨rfl, rfl, rfl⟩ | (refine ⟨?_, rfl, rfl⟩; simp_all)
      · -- not taken
        refine r_iload_n X 2 d_Nm_type_14 rfl rfl ?_
        refine r_sipush X (v := nI (255)) d_Nm_type_15 (by decide) ?_
        refine r_icle X (tgt := 24) (c := d ≤ (nI (255))) d_Nm_type_18 (by decide) (Iff.rfl) (fun c_18 => ?_) (fun c_18 => ?_)
        · -- taken
          exact False.elim (by exact raw_le hd c_11 c_18)
        · -- not taken
          refine r_ldc X (v := ((-1000000002 : Int32))) k_Nm_137 (by decide) d_Nm_type_21 ?_
          refine r_end_i X d_Nm_type_23 ?_
          first | exact ⟨rfl, rfl, rfl⟩ | (refine ⟨?_, rfl, rfl⟩; simp_all)

set_option maxHeartbeats 4000000 in
set_option maxRecDepth 100000 in
theorem m_Nm_flip_i (l : Launch) (o : OM) (mi : MI) (ml : ML) (b : Nat) (nx : Nat) (c : Nat) (n : Nat) (hnx : mi 4 1 = nI nx) (hnx20 : nx < 20) (hc : mi 4 2 = nI c) (hc20 : c ≤ 20) (hn : mi 1 2 = nI n) (hn40 : n ≤ 40) (hb : b < 64) : ConD l y_Nm_flip c_Nm_flip 2 (some .int) 8 270 o [.ref (ads o (0)), .int (nI (b))] mi ml (some (.int (nI (pop ((ml 1 0) ^^^ (shl (1) (b))))))) (remI mi nx c n) (u2 (remL ml nx n) 1 0 ((ml 1 0) ^^^ (shl (1) (b)))) := by
  refine Con.mk (by decide) (Nat.le_of_ble_eq_true rfl) (fun γ X => ?_)
  show V γ o 2 mi ml 0 [(0, .ref (ads o (0))), (1, .int (nI (b)))] []
  refine r_iload_n X 1 d_Nm_flip_0 rfl rfl ?_
  refine r_iflt X (tgt := 10) (c := b < 0) d_Nm_flip_1 (by decide) ((by rw [← nI_0] <;> exact nI_ltI (by omega) (Nat.le_of_ble_eq_true rfl))) (fun c_1 => ?_) (fun c_1 => ?_)
  · -- taken
    exact False.elim (by omega)
  · -- not taken
    refine r_iload_n X 1 d_Nm_flip_4 rfl rfl ?_
    refine r_bipush X (v := nI (64)) d_Nm_flip_5 (by decide) ?_
    refine r_iclt X (tgt := 13) (c := b < 64) d_Nm_flip_7 (by decide) (nI_ltI (by omega) (Nat.le_of_ble_eq_true rfl)) (fun c_7 => ?_) (fun c_7 => ?_)
    · -- taken
      refine r_aload_n X 0 d_Nm_flip_13 rfl rfl ?_
      refine r_get X f_Nm_19 b_0 e_0 (v := .ref (ads o (4))) rfl d_Nm_flip_14 ?_
      refine r_aload_n X 0 d_Nm_flip_17 rfl rfl ?_
      refine r_get X f_Nm_10 b_0 e_0 (v := .ref (ads o (1))) rfl d_Nm_flip_18 ?_
      refine r_callV X (m_Pa_remember l o mi ml nx c n (hnx) hnx20 (hc) hc20 (hn) hn40) ok_Pa_remember w_Nm_174 rfl b_4 e_4 rfl ⟨Nat.le_of_ble_eq_true rfl, Nat.le_of_ble_eq_true rfl⟩ (rest := []) rfl (Nat.le_of_ble_eq_true rfl) d_Nm_flip_21 ?_
      refine kD (st' := []) rfl ?_
      refine r_aload_n X 0 d_Nm_flip_24 rfl rfl ?_
      refine r_get X f_Nm_10 b_0 e_0 (v := .ref (ads o (1))) rfl d_Nm_flip_25 ?_
      refine r_dup X d_Nm_flip_28 rfl ?_
      refine r_get X f_Nm_88 b_1 e_1 (v := .long (ml 1 0)) (congrArg (fun z => some (Value.long z)) ((by rw [remL_n _ (by omega) (by omega)] <;> exact rfl))) d_Nm_flip_29 ?_
      refine r_lconst X (v := 1) d_Nm_flip_32 (by decide) ?_
      refine r_iload_n X 1 d_Nm_flip_33 rfl rfl ?_
      refine r_lshl X (v := shl (1) (b)) d_Nm_flip_34 (rfl) ?_
      refine r_lxor X (v := (ml 1 0) ^^^ (shl (1) (b))) d_Nm_flip_35 (rfl) ?_
      refine r_putL X fw_Nm_88 b_1 e_1 (fun _ _ => rfl) (Nat.le_of_ble_eq_true rfl) d_Nm_flip_36 ?_
      refine r_aload_n X 0 d_Nm_flip_39 rfl rfl ?_
      refine r_get X f_Nm_10 b_0 e_0 (v := .ref (ads o (1))) rfl d_Nm_flip_40 ?_
      refine r_get X f_Nm_88 b_1 e_1 (v := .long ((ml 1 0) ^^^ (shl (1) (b)))) (congrArg (fun z => some (Value.long z)) ((by rw [u2_s, uf_s]))) d_Nm_flip_43 ?_
      refine r_callS X (m_Lg_bitCount l o (remI mi nx c n) (u2 (remL ml nx n) 1 0 ((ml 1 0) ^^^ (shl (1) (b)))) ((ml 1 0) ^^^ (shl (1) (b)))) ok_Lg_bitCount w_Nm_91 rfl ⟨Nat.le_of_ble_eq_true rfl, Nat.le_of_ble_eq_true rfl⟩ (rest := []) rfl (Nat.le_of_ble_eq_true rfl) d_Nm_flip_46 ?_
      refine kD (st' := [.int (nI (pop ((ml 1 0) ^^^ (shl (1) (b)))))]) rfl ?_
      refine r_end_i X d_Nm_flip_49 ?_
      exact ⟨rfl, rfl, rfl⟩
    · -- not taken
      exact False.elim (by omega)

set_option maxHeartbeats 4000000 in
set_option maxRecDepth 100000 in
theorem m_Nm_flip_o (l : Launch) (o : OM) (mi : MI) (ml : ML) (b : Int32) (hb : b < nI 0 ∨ nI 63 < b) : ConD l y_Nm_flip c_Nm_flip 2 (some .int) 8 270 o [.ref (ads o (0)), .int (b)] mi ml (some (.int (((-1000000002 : Int32))))) mi ml := by
  refine Con.mk (by decide) (Nat.le_of_ble_eq_true rfl) (fun γ X => ?_)
  show V γ o 2 mi ml 0 [(0, .ref (ads o (0))), (1, .int (b))] []
  refine r_iload_n X 1 d_Nm_flip_0 rfl rfl ?_
  refine r_iflt X (tgt := 10) (c := b < 0) d_Nm_flip_1 (by decide) (Iff.rfl) (fun c_1 => ?_) (fun c_1 => ?_)
  · -- taken
    refine r_ldc X (v := ((-1000000002 : Int32))) k_Nm_137 (by decide) d_Nm_flip_10 ?_
    refine r_end_i X d_Nm_flip_12 ?_
    first | exact ⟨rfl, rfl, rfl⟩ | (refine ⟨?_, rfl, rfl⟩; simp_all)
  · -- not taken
    refine r_iload_n X 1 d_Nm_flip_4 rfl rfl ?_
    refine r_bipush X (v := nI (64)) d_Nm_flip_5 (by decide) ?_
    refine r_iclt X (tgt := 13) (c := b < (nI (64))) d_Nm_flip_7 (by decide) (Iff.rfl) (fun c_7 => ?_) (fun c_7 => ?_)
    · -- taken
      exact False.elim (by exact raw_lt (by decide) (by decide) rfl hb c_1 c_7)
    · -- not taken
      refine r_ldc X (v := ((-1000000002 : Int32))) k_Nm_137 (by decide) d_Nm_flip_10 ?_
      refine r_end_i X d_Nm_flip_12 ?_
      first | exact ⟨rfl, rfl, rfl⟩ | (refine ⟨?_, rfl, rfl⟩; simp_all)

set_option maxHeartbeats 4000000 in
set_option maxRecDepth 100000 in
theorem m_Nm_turn (l : Launch) (o : OM) (mi : MI) (ml : ML) (nx : Nat) (c : Nat) (n : Nat) (hnx : mi 4 1 = nI nx) (hnx20 : nx < 20) (hc : mi 4 2 = nI c) (hc20 : c ≤ 20) (hn : mi 1 2 = nI n) (hn40 : n ≤ 40) : ConD l y_Nm_turn c_Nm_turn 1 (some .int) 8 270 o [.ref (ads o (0))] mi ml (some (.int ((((turnS (ml 1 0) 64) &&& (255 : Int64)).toInt32)))) (remI mi nx c n) (u2 (remL ml nx n) 1 0 (turnS (ml 1 0) 64)) := by
  refine Con.mk (by decide) (Nat.le_of_ble_eq_true rfl) (fun γ X => ?_)
  show V γ o 1 mi ml 0 [(0, .ref (ads o (0)))] []
  refine r_aload_n X 0 d_Nm_turn_0 rfl rfl ?_
  refine r_get X f_Nm_19 b_0 e_0 (v := .ref (ads o (4))) rfl d_Nm_turn_1 ?_
  refine r_aload_n X 0 d_Nm_turn_4 rfl rfl ?_
  refine r_get X f_Nm_10 b_0 e_0 (v := .ref (ads o (1))) rfl d_Nm_turn_5 ?_
  refine r_callV X (m_Pa_remember l o mi ml nx c n (hnx) hnx20 (hc) hc20 (hn) hn40) ok_Pa_remember w_Nm_174 rfl b_4 e_4 rfl ⟨Nat.le_of_ble_eq_true rfl, Nat.le_of_ble_eq_true rfl⟩ (rest := []) rfl (Nat.le_of_ble_eq_true rfl) d_Nm_turn_8 ?_
  refine kD (st' := []) rfl ?_
  refine r_aload_n X 0 d_Nm_turn_11 rfl rfl ?_
  refine r_get X f_Nm_10 b_0 e_0 (v := .ref (ads o (1))) rfl d_Nm_turn_12 ?_
  refine r_aload_n X 0 d_Nm_turn_15 rfl rfl ?_
  refine r_get X f_Nm_10 b_0 e_0 (v := .ref (ads o (1))) rfl d_Nm_turn_16 ?_
  refine r_get X f_Nm_88 b_1 e_1 (v := .long (ml 1 0)) (congrArg (fun z => some (Value.long z)) ((by rw [remL_n _ (by omega) (by omega)] <;> exact rfl))) d_Nm_turn_19 ?_
  refine r_callS X (m_Pi_turned l o (remI mi nx c n) (remL ml nx n) (ml 1 0)) ok_Pi_turned w_Nm_184 rfl ⟨Nat.le_of_ble_eq_true rfl, Nat.le_of_ble_eq_true rfl⟩ (rest := [.ref (ads o (1))]) rfl (Nat.le_of_ble_eq_true rfl) d_Nm_turn_22 ?_
  refine kD (st' := [.long (turnS (ml 1 0) 64), .ref (ads o (1))]) rfl ?_
  refine r_putL X fw_Nm_88 b_1 e_1 (fun _ _ => rfl) (Nat.le_of_ble_eq_true rfl) d_Nm_turn_25 ?_
  refine r_aload_n X 0 d_Nm_turn_28 rfl rfl ?_
  refine r_get X f_Nm_10 b_0 e_0 (v := .ref (ads o (1))) rfl d_Nm_turn_29 ?_
  refine r_get X f_Nm_88 b_1 e_1 (v := .long (turnS (ml 1 0) 64)) (congrArg (fun z => some (Value.long z)) ((by rw [u2_s, uf_s]))) d_Nm_turn_32 ?_
  refine r_callS X (m_Pi_firstRow l o (remI mi nx c n) (u2 (remL ml nx n) 1 0 (turnS (ml 1 0) 64)) (turnS (ml 1 0) 64)) ok_Pi_firstRow w_Nm_188 rfl ⟨Nat.le_of_ble_eq_true rfl, Nat.le_of_ble_eq_true rfl⟩ (rest := []) rfl (Nat.le_of_ble_eq_true rfl) d_Nm_turn_35 ?_
  refine kD (st' := [.int (((((turnS (ml 1 0) 64)) &&& (255 : Int64)).toInt32))]) rfl ?_
  refine r_end_i X d_Nm_turn_38 ?_
  exact ⟨rfl, rfl, rfl⟩

set_option maxHeartbeats 4000000 in
set_option maxRecDepth 100000 in
theorem m_Nm_mirror (l : Launch) (o : OM) (mi : MI) (ml : ML) (nx : Nat) (c : Nat) (n : Nat) (hnx : mi 4 1 = nI nx) (hnx20 : nx < 20) (hc : mi 4 2 = nI c) (hc20 : c ≤ 20) (hn : mi 1 2 = nI n) (hn40 : n ≤ 40) : ConD l y_Nm_mirror c_Nm_mirror 1 (some .int) 8 270 o [.ref (ads o (0))] mi ml (some (.int ((((mirS (ml 1 0) 64) &&& (255 : Int64)).toInt32)))) (remI mi nx c n) (u2 (remL ml nx n) 1 0 (mirS (ml 1 0) 64)) := by
  refine Con.mk (by decide) (Nat.le_of_ble_eq_true rfl) (fun γ X => ?_)
  show V γ o 1 mi ml 0 [(0, .ref (ads o (0)))] []
  refine r_aload_n X 0 d_Nm_mirror_0 rfl rfl ?_
  refine r_get X f_Nm_19 b_0 e_0 (v := .ref (ads o (4))) rfl d_Nm_mirror_1 ?_
  refine r_aload_n X 0 d_Nm_mirror_4 rfl rfl ?_
  refine r_get X f_Nm_10 b_0 e_0 (v := .ref (ads o (1))) rfl d_Nm_mirror_5 ?_
  refine r_callV X (m_Pa_remember l o mi ml nx c n (hnx) hnx20 (hc) hc20 (hn) hn40) ok_Pa_remember w_Nm_174 rfl b_4 e_4 rfl ⟨Nat.le_of_ble_eq_true rfl, Nat.le_of_ble_eq_true rfl⟩ (rest := []) rfl (Nat.le_of_ble_eq_true rfl) d_Nm_mirror_8 ?_
  refine kD (st' := []) rfl ?_
  refine r_aload_n X 0 d_Nm_mirror_11 rfl rfl ?_
  refine r_get X f_Nm_10 b_0 e_0 (v := .ref (ads o (1))) rfl d_Nm_mirror_12 ?_
  refine r_aload_n X 0 d_Nm_mirror_15 rfl rfl ?_
  refine r_get X f_Nm_10 b_0 e_0 (v := .ref (ads o (1))) rfl d_Nm_mirror_16 ?_
  refine r_get X f_Nm_88 b_1 e_1 (v := .long (ml 1 0)) (congrArg (fun z => some (Value.long z)) ((by rw [remL_n _ (by omega) (by omega)] <;> exact rfl))) d_Nm_mirror_19 ?_
  refine r_callS X (m_Pi_mirrored l o (remI mi nx c n) (remL ml nx n) (ml 1 0)) ok_Pi_mirrored w_Nm_191 rfl ⟨Nat.le_of_ble_eq_true rfl, Nat.le_of_ble_eq_true rfl⟩ (rest := [.ref (ads o (1))]) rfl (Nat.le_of_ble_eq_true rfl) d_Nm_mirror_22 ?_
  refine kD (st' := [.long (mirS (ml 1 0) 64), .ref (ads o (1))]) rfl ?_
  refine r_putL X fw_Nm_88 b_1 e_1 (fun _ _ => rfl) (Nat.le_of_ble_eq_true rfl) d_Nm_mirror_25 ?_
  refine r_aload_n X 0 d_Nm_mirror_28 rfl rfl ?_
  refine r_get X f_Nm_10 b_0 e_0 (v := .ref (ads o (1))) rfl d_Nm_mirror_29 ?_
  refine r_get X f_Nm_88 b_1 e_1 (v := .long (mirS (ml 1 0) 64)) (congrArg (fun z => some (Value.long z)) ((by rw [u2_s, uf_s]))) d_Nm_mirror_32 ?_
  refine r_callS X (m_Pi_firstRow l o (remI mi nx c n) (u2 (remL ml nx n) 1 0 (mirS (ml 1 0) 64)) (mirS (ml 1 0) 64)) ok_Pi_firstRow w_Nm_188 rfl ⟨Nat.le_of_ble_eq_true rfl, Nat.le_of_ble_eq_true rfl⟩ (rest := []) rfl (Nat.le_of_ble_eq_true rfl) d_Nm_mirror_35 ?_
  refine kD (st' := [.int (((((mirS (ml 1 0) 64)) &&& (255 : Int64)).toInt32))]) rfl ?_
  refine r_end_i X d_Nm_mirror_38 ?_
  exact ⟨rfl, rfl, rfl⟩

set_option maxHeartbeats 4000000 in
set_option maxRecDepth 100000 in
theorem m_Nm_hold_i (l : Launch) (o : OM) (mi : MI) (ml : ML) (k : Nat) (nx : Nat) (c : Nat) (n : Nat) (hnx : mi 4 1 = nI nx) (hnx20 : nx < 20) (hc : mi 4 2 = nI c) (hc20 : c ≤ 20) (hn : mi 1 2 = nI n) (hn40 : n ≤ 40) (hk : k < n) : ConD l y_Nm_hold c_Nm_hold 3 (some .int) 8 270 o [.ref (ads o (0)), .int (nI (k))] mi ml (some (.int (nI (ds (ml 2 k) (ml 1 0))))) (remI mi nx c n) (u2 (remL ml nx n) 1 0 (remL ml nx n 2 k)) := by
  refine Con.mk (by decide) (Nat.le_of_ble_eq_true rfl) (fun γ X => ?_)
  show V γ o 3 mi ml 0 [(0, .ref (ads o (0))), (1, .int (nI (k)))] []
  refine r_aload_n X 0 d_Nm_hold_0 rfl rfl ?_
  refine r_get X f_Nm_10 b_0 e_0 (v := .ref (ads o (1))) rfl d_Nm_hold_1 ?_
  refine r_iload_n X 1 d_Nm_hold_4 rfl rfl ?_
  refine r_callV X (m_St_has l o mi ml 1 (nI (k)) n isSt.now (hn) hn40) ok_St_has w_Nm_138 rfl b_1 e_1 rfl ⟨Nat.le_of_ble_eq_true rfl, Nat.le_of_ble_eq_true rfl⟩ (rest := []) rfl (Nat.le_of_ble_eq_true rfl) d_Nm_hold_5 ?_
  refine kD (st' := [.int (bI (isMk n (nI (k))))]) rfl ?_
  refine r_ifneB X (tgt := 14) (b := isMk n (nI (k))) d_Nm_hold_8 (by decide) (fun c_8 => ?_) (fun c_8 => ?_)
  · -- taken
    refine r_aload_n X 0 d_Nm_hold_14 rfl rfl ?_
    refine r_get X f_Nm_10 b_0 e_0 (v := .ref (ads o (1))) rfl d_Nm_hold_15 ?_
    refine r_iload_n X 1 d_Nm_hold_18 rfl rfl ?_
    refine r_callV X (m_St_fromHand l o mi ml 1 k isSt.now (by omega)) ok_St_fromHand w_Nm_151 rfl b_1 e_1 rfl ⟨Nat.le_of_ble_eq_true rfl, Nat.le_of_ble_eq_true rfl⟩ (rest := []) rfl (Nat.le_of_ble_eq_true rfl) d_Nm_hold_19 ?_
    refine kD (st' := [.int (nI (ds (ml 2 k) (ml 1 0)))]) rfl ?_
    refine r_istore_n X [(2, .int (nI (ds (ml 2 k) (ml 1 0)))), (0, .ref (ads o (0))), (1, .int (nI (k)))] d_Nm_hold_22 rfl (Nat.le_of_ble_eq_true rfl) rfl ?_
    refine r_aload_n X 1 d_Nm_hold_23 rfl rfl ?_
    refine r_get X f_Nm_19 b_0 e_0 (v := .ref (ads o (4))) rfl d_Nm_hold_24 ?_
    refine r_aload_n X 1 d_Nm_hold_27 rfl rfl ?_
    refine r_get X f_Nm_10 b_0 e_0 (v := .ref (ads o (1))) rfl d_Nm_hold_28 ?_
    refine r_callV X (m_Pa_remember l o mi ml nx c n (hnx) hnx20 (hc) hc20 (hn) hn40) ok_Pa_remember w_Nm_174 rfl b_4 e_4 rfl ⟨Nat.le_of_ble_eq_true rfl, Nat.le_of_ble_eq_true rfl⟩ (rest := []) rfl (Nat.le_of_ble_eq_true rfl) d_Nm_hold_31 ?_
    refine kD (st' := []) rfl ?_
    refine r_aload_n X 1 d_Nm_hold_34 rfl rfl ?_
    refine r_get X f_Nm_10 b_0 e_0 (v := .ref (ads o (1))) rfl d_Nm_hold_35 ?_
    refine r_aload_n X 1 d_Nm_hold_38 rfl rfl ?_
    refine r_get X f_Nm_10 b_0 e_0 (v := .ref (ads o (1))) rfl d_Nm_hold_39 ?_
    refine r_get X f_Nm_142 b_1 e_1 (v := .ref (ads o (2))) rfl d_Nm_hold_42 ?_
    refine r_iload_n X 2 d_Nm_hold_45 rfl rfl ?_
    refine r_lald X (v := (remL ml nx n) 2 k) b_2 e_2 (Nat.le_of_ble_eq_true rfl) (by omega) rfl d_Nm_hold_46 ?_
    refine r_putL X fw_Nm_88 b_1 e_1 (fun _ _ => rfl) (Nat.le_of_ble_eq_true rfl) d_Nm_hold_47 ?_
    refine r_iload_n X 0 d_Nm_hold_50 rfl rfl ?_
    refine r_end_i X d_Nm_hold_51 ?_
    exact ⟨rfl, rfl, rfl⟩
  · -- not taken
    exact False.elim (by rw [isMk_nI (by omega) (by omega)] at c_8; simp at c_8; omega)

set_option maxHeartbeats 4000000 in
set_option maxRecDepth 100000 in
theorem m_Nm_hold_u (l : Launch) (o : OM) (mi : MI) (ml : ML) (k : Int32) (n : Nat) (hn : mi 1 2 = nI n) (hn40 : n ≤ 40) (hu : isMk n k = false) : ConD l y_Nm_hold c_Nm_hold 3 (some .int) 8 270 o [.ref (ads o (0)), .int (k)] mi ml (some (.int (((-1000000001 : Int32))))) mi ml := by
  refine Con.mk (by decide) (Nat.le_of_ble_eq_true rfl) (fun γ X => ?_)
  show V γ o 3 mi ml 0 [(0, .ref (ads o (0))), (1, .int (k))] []
  refine r_aload_n X 0 d_Nm_hold_0 rfl rfl ?_
  refine r_get X f_Nm_10 b_0 e_0 (v := .ref (ads o (1))) rfl d_Nm_hold_1 ?_
  refine r_iload_n X 1 d_Nm_hold_4 rfl rfl ?_
  refine r_callV X (m_St_has l o mi ml 1 k n isSt.now (hn) hn40) ok_St_has w_Nm_138 rfl b_1 e_1 rfl ⟨Nat.le_of_ble_eq_true rfl, Nat.le_of_ble_eq_true rfl⟩ (rest := []) rfl (Nat.le_of_ble_eq_true rfl) d_Nm_hold_5 ?_
  refine kD (st' := [.int (bI (isMk n k))]) rfl ?_
  refine r_ifneB X (tgt := 14) (b := isMk n k) d_Nm_hold_8 (by decide) (fun c_8 => ?_) (fun c_8 => ?_)
  · -- taken
    exact False.elim (by rw [hu] at c_8; cases c_8)
  · -- not taken
    refine r_ldc X (v := ((-1000000001 : Int32))) k_Nm_146 (by decide) d_Nm_hold_11 ?_
    refine r_end_i X d_Nm_hold_13 ?_
    first | exact ⟨rfl, rfl, rfl⟩ | (refine ⟨?_, rfl, rfl⟩; simp_all)

set_option maxHeartbeats 4000000 in
set_option maxRecDepth 100000 in
theorem m_Nm_put_o (l : Launch) (o : OM) (mi : MI) (ml : ML) (q : Int32) (hq : q < nI 0 ∨ nI 2 < q) : ConD l y_Nm_put c_Nm_put 2 (some .int) 8 270 o [.ref (ads o (0)), .int (q)] mi ml (some (.int (((-1000000002 : Int32))))) mi ml := by
  refine Con.mk (by decide) (Nat.le_of_ble_eq_true rfl) (fun γ X => ?_)
  show V γ o 2 mi ml 0 [(0, .ref (ads o (0))), (1, .int (q))] []
  refine r_iload_n X 1 d_Nm_put_0 rfl rfl ?_
  refine r_callS X (m_Nm_isKind l o mi ml q) ok_Nm_isKind w_Nm_194 rfl ⟨Nat.le_of_ble_eq_true rfl, Nat.le_of_ble_eq_true rfl⟩ (rest := []) rfl (Nat.le_of_ble_eq_true rfl) d_Nm_put_1 ?_
  refine kD (st' := [.int (bI (!decide (q < 0) && !decide (nI 2 < q)))]) rfl ?_
  refine r_ifneB X (tgt := 10) (b := !decide (q < 0) && !decide (nI 2 < q)) d_Nm_put_4 (by decide) (fun c_4 => ?_) (fun c_4 => ?_)
  · -- taken
    exact False.elim (by have e := rng_out (m := 2) hq; exact absurd (c_4.symm.trans e) (by decide))
  · -- not taken
    refine r_ldc X (v := ((-1000000002 : Int32))) k_Nm_137 (by decide) d_Nm_put_7 ?_
    refine r_end_i X d_Nm_put_9 ?_
    first | exact ⟨rfl, rfl, rfl⟩ | (refine ⟨?_, rfl, rfl⟩; simp_all)

set_option maxHeartbeats 4000000 in
set_option maxRecDepth 100000 in
theorem m_Nm_put_n (l : Launch) (o : OM) (mi : MI) (ml : ML) (q : Nat) (n : Nat) (hn : mi 1 2 = nI n) (hn40 : n ≤ 40) (hq : q < 3) (hl : ¬ fromB (fun k => decide (ml 2 k = ml 1 0)) n 0 = -1) : ConD l y_Nm_put c_Nm_put 2 (some .int) 8 270 o [.ref (ads o (0)), .int (nI (q))] mi ml (some (.int (((-1000000003 : Int32))))) mi ml := by
  refine Con.mk (by decide) (Nat.le_of_ble_eq_true rfl) (fun γ X => ?_)
  show V γ o 2 mi ml 0 [(0, .ref (ads o (0))), (1, .int (nI (q)))] []
  refine r_iload_n X 1 d_Nm_put_0 rfl rfl ?_
  refine r_callS X (m_Nm_isKind l o mi ml (nI (q))) ok_Nm_isKind w_Nm_194 rfl ⟨Nat.le_of_ble_eq_true rfl, Nat.le_of_ble_eq_true rfl⟩ (rest := []) rfl (Nat.le_of_ble_eq_true rfl) d_Nm_put_1 ?_
  refine kD (st' := [.int (bI (!decide ((nI (q)) < 0) && !decide (nI 2 < (nI (q)))))]) rfl ?_
  refine r_ifneB X (tgt := 10) (b := !decide ((nI (q)) < 0) && !decide (nI 2 < (nI (q)))) d_Nm_put_4 (by decide) (fun c_4 => ?_) (fun c_4 => ?_)
  · -- taken
    refine r_aload_n X 0 d_Nm_put_10 rfl rfl ?_
    refine r_get X f_Nm_10 b_0 e_0 (v := .ref (ads o (1))) rfl d_Nm_put_11 ?_
    refine r_aload_n X 0 d_Nm_put_14 rfl rfl ?_
    refine r_get X f_Nm_10 b_0 e_0 (v := .ref (ads o (1))) rfl d_Nm_put_15 ?_
    refine r_get X f_Nm_88 b_1 e_1 (v := .long (ml 1 0)) (congrArg (fun z => some (Value.long z)) (rfl)) d_Nm_put_18 ?_
    refine r_callV X (m_St_numberOf l o mi ml 1 (ml 1 0) n isSt.now (hn) hn40) ok_St_numberOf w_Nm_97 rfl b_1 e_1 rfl ⟨Nat.le_of_ble_eq_true rfl, Nat.le_of_ble_eq_true rfl⟩ (rest := []) rfl (Nat.le_of_ble_eq_true rfl) d_Nm_put_21 ?_
    refine kD (st' := [.int ((fromB (fun k => decide (ml 2 k = (ml 1 0))) n 0))]) rfl ?_
    refine r_iconst X (v := ((-1 : Int32))) d_Nm_put_24 (by decide) ?_
    refine r_iceq X (tgt := 31) (c := (fromB (fun k => decide (ml 2 k = (ml 1 0))) n 0) = ((-1 : Int32))) d_Nm_put_25 (by decide) (Iff.rfl) (fun c_25 => ?_) (fun c_25 => ?_)
    · -- taken
      exact False.elim (by exact hl c_25)
    · -- not taken
      refine r_ldc X (v := ((-1000000003 : Int32))) k_Nm_197 (by decide) d_Nm_put_28 ?_
      refine r_end_i X d_Nm_put_30 ?_
      first | exact ⟨rfl, rfl, rfl⟩ | (refine ⟨?_, rfl, rfl⟩; simp_all)
  · -- not taken
    exact False.elim (by have e := rng_in (q := q) (m := 2) (by omega) (by decide); exact absurd (c_4.symm.trans e) (by decide))

set_option maxHeartbeats 4000000 in
set_option maxRecDepth 100000 in
theorem m_Nm_put_f (l : Launch) (o : OM) (mi : MI) (ml : ML) (q : Nat) (n : Nat) (hn : mi 1 2 = nI n) (hn40 : n ≤ 40) (hq : q < 3) (hl : fromB (fun k => decide (ml 2 k = ml 1 0)) n 0 = -1) (h40 : n = 40) : ConD l y_Nm_put c_Nm_put 2 (some .int) 8 270 o [.ref (ads o (0)), .int (nI (q))] mi ml (some (.int (((-1000000004 : Int32))))) mi ml := by
  refine Con.mk (by decide) (Nat.le_of_ble_eq_true rfl) (fun γ X => ?_)
  show V γ o 2 mi ml 0 [(0, .ref (ads o (0))), (1, .int (nI (q)))] []
  refine r_iload_n X 1 d_Nm_put_0 rfl rfl ?_
  refine r_callS X (m_Nm_isKind l o mi ml (nI (q))) ok_Nm_isKind w_Nm_194 rfl ⟨Nat.le_of_ble_eq_true rfl, Nat.le_of_ble_eq_true rfl⟩ (rest := []) rfl (Nat.le_of_ble_eq_true rfl) d_Nm_put_1 ?_
  refine kD (st' := [.int (bI (!decide ((nI (q)) < 0) && !decide (nI 2 < (nI (q)))))]) rfl ?_
  refine r_ifneB X (tgt := 10) (b := !decide ((nI (q)) < 0) && !decide (nI 2 < (nI (q)))) d_Nm_put_4 (by decide) (fun c_4 => ?_) (fun c_4 => ?_)
  · -- taken
    refine r_aload_n X 0 d_Nm_put_10 rfl rfl ?_
    refine r_get X f_Nm_10 b_0 e_0 (v := .ref (ads o (1))) rfl d_Nm_put_11 ?_
    refine r_aload_n X 0 d_Nm_put_14 rfl rfl ?_
    refine r_get X f_Nm_10 b_0 e_0 (v := .ref (ads o (1))) rfl d_Nm_put_15 ?_
    refine r_get X f_Nm_88 b_1 e_1 (v := .long (ml 1 0)) (congrArg (fun z => some (Value.long z)) (rfl)) d_Nm_put_18 ?_
    refine r_callV X (m_St_numberOf l o mi ml 1 (ml 1 0) n isSt.now (hn) hn40) ok_St_numberOf w_Nm_97 rfl b_1 e_1 rfl ⟨Nat.le_of_ble_eq_true rfl, Nat.le_of_ble_eq_true rfl⟩ (rest := []) rfl (Nat.le_of_ble_eq_true rfl) d_Nm_put_21 ?_
    refine kD (st' := [.int ((fromB (fun k => decide (ml 2 k = (ml 1 0))) n 0))]) rfl ?_
    refine r_iconst X (v := ((-1 : Int32))) d_Nm_put_24 (by decide) ?_
    refine r_iceq X (tgt := 31) (c := (fromB (fun k => decide (ml 2 k = (ml 1 0))) n 0) = ((-1 : Int32))) d_Nm_put_25 (by decide) (Iff.rfl) (fun c_25 => ?_) (fun c_25 => ?_)
    · -- taken
      refine r_aload_n X 0 d_Nm_put_31 rfl rfl ?_
      refine r_get X f_Nm_10 b_0 e_0 (v := .ref (ads o (1))) rfl d_Nm_put_32 ?_
      refine r_get X f_Nm_83 b_1 e_1 (v := .int (nI (n))) (congrArg (fun z => some (Value.int z)) (hn)) d_Nm_put_35 ?_
      refine r_bipush X (v := nI (40)) d_Nm_put_38 (by decide) ?_
      refine r_iclt X (tgt := 46) (c := n < 40) d_Nm_put_40 (by decide) (nI_ltI (by omega) (Nat.le_of_ble_eq_true rfl)) (fun c_40 => ?_) (fun c_40 => ?_)
      · -- taken
        exact False.elim (by omega)
      · -- not taken
        refine r_ldc X (v := ((-1000000004 : Int32))) k_Nm_198 (by decide) d_Nm_put_43 ?_
        refine r_end_i X d_Nm_put_45 ?_
        first | exact ⟨rfl, rfl, rfl⟩ | (refine ⟨?_, rfl, rfl⟩; simp_all)
    · -- not taken
      exact False.elim (by exact c_25 hl)
  · -- not taken
    exact False.elim (by have e := rng_in (q := q) (m := 2) (by omega) (by decide); exact absurd (c_4.symm.trans e) (by decide))

set_option maxHeartbeats 4000000 in
set_option maxRecDepth 100000 in
theorem m_Nm_put_i (l : Launch) (o : OM) (mi : MI) (ml : ML) (q : Nat) (nx : Nat) (c : Nat) (n : Nat) (hnx : mi 4 1 = nI nx) (hnx20 : nx < 20) (hc : mi 4 2 = nI c) (hc20 : c ≤ 20) (hn : mi 1 2 = nI n) (hn40 : n < 40) (hq : q < 3) (hl : fromB (fun k => decide (ml 2 k = ml 1 0)) n 0 = -1) : ConD l y_Nm_put c_Nm_put 2 (some .int) 8 270 o [.ref (ads o (0)), .int (nI (q))] mi ml (some (.int (nI (n)))) (u2 (u2 (remI mi nx c n) 3 n (nI q)) 1 2 (nI (n + 1))) (u2 (remL ml nx n) 2 n (ml 1 0)) := by
  refine Con.mk (by decide) (Nat.le_of_ble_eq_true rfl) (fun γ X => ?_)
  show V γ o 2 mi ml 0 [(0, .ref (ads o (0))), (1, .int (nI (q)))] []
  refine r_iload_n X 1 d_Nm_put_0 rfl rfl ?_
  refine r_callS X (m_Nm_isKind l o mi ml (nI (q))) ok_Nm_isKind w_Nm_194 rfl ⟨Nat.le_of_ble_eq_true rfl, Nat.le_of_ble_eq_true rfl⟩ (rest := []) rfl (Nat.le_of_ble_eq_true rfl) d_Nm_put_1 ?_
  refine kD (st' := [.int (bI (!decide ((nI (q)) < 0) && !decide (nI 2 < (nI (q)))))]) rfl ?_
  refine r_ifneB X (tgt := 10) (b := !decide ((nI (q)) < 0) && !decide (nI 2 < (nI (q)))) d_Nm_put_4 (by decide) (fun c_4 => ?_) (fun c_4 => ?_)
  · -- taken
    refine r_aload_n X 0 d_Nm_put_10 rfl rfl ?_
    refine r_get X f_Nm_10 b_0 e_0 (v := .ref (ads o (1))) rfl d_Nm_put_11 ?_
    refine r_aload_n X 0 d_Nm_put_14 rfl rfl ?_
    refine r_get X f_Nm_10 b_0 e_0 (v := .ref (ads o (1))) rfl d_Nm_put_15 ?_
    refine r_get X f_Nm_88 b_1 e_1 (v := .long (ml 1 0)) (congrArg (fun z => some (Value.long z)) (rfl)) d_Nm_put_18 ?_
    refine r_callV X (m_St_numberOf l o mi ml 1 (ml 1 0) n isSt.now (hn) (by omega)) ok_St_numberOf w_Nm_97 rfl b_1 e_1 rfl ⟨Nat.le_of_ble_eq_true rfl, Nat.le_of_ble_eq_true rfl⟩ (rest := []) rfl (Nat.le_of_ble_eq_true rfl) d_Nm_put_21 ?_
    refine kD (st' := [.int ((fromB (fun k => decide (ml 2 k = (ml 1 0))) n 0))]) rfl ?_
    refine r_iconst X (v := ((-1 : Int32))) d_Nm_put_24 (by decide) ?_
    refine r_iceq X (tgt := 31) (c := (fromB (fun k => decide (ml 2 k = (ml 1 0))) n 0) = ((-1 : Int32))) d_Nm_put_25 (by decide) (Iff.rfl) (fun c_25 => ?_) (fun c_25 => ?_)
    · -- taken
      refine r_aload_n X 0 d_Nm_put_31 rfl rfl ?_
      refine r_get X f_Nm_10 b_0 e_0 (v := .ref (ads o (1))) rfl d_Nm_put_32 ?_
      refine r_get X f_Nm_83 b_1 e_1 (v := .int (nI (n))) (congrArg (fun z => some (Value.int z)) (hn)) d_Nm_put_35 ?_
      refine r_bipush X (v := nI (40)) d_Nm_put_38 (by decide) ?_
      refine r_iclt X (tgt := 46) (c := n < 40) d_Nm_put_40 (by decide) (nI_ltI (by omega) (Nat.le_of_ble_eq_true rfl)) (fun c_40 => ?_) (fun c_40 => ?_)
      · -- taken
        refine r_aload_n X 0 d_Nm_put_46 rfl rfl ?_
        refine r_get X f_Nm_19 b_0 e_0 (v := .ref (ads o (4))) rfl d_Nm_put_47 ?_
        refine r_aload_n X 0 d_Nm_put_50 rfl rfl ?_
        refine r_get X f_Nm_10 b_0 e_0 (v := .ref (ads o (1))) rfl d_Nm_put_51 ?_
        refine r_callV X (m_Pa_remember l o mi ml nx c n (hnx) hnx20 (hc) hc20 (hn) (by omega)) ok_Pa_remember w_Nm_174 rfl b_4 e_4 rfl ⟨Nat.le_of_ble_eq_true rfl, Nat.le_of_ble_eq_true rfl⟩ (rest := []) rfl (Nat.le_of_ble_eq_true rfl) d_Nm_put_54 ?_
        refine kD (st' := []) rfl ?_
        refine r_aload_n X 0 d_Nm_put_57 rfl rfl ?_
        refine r_get X f_Nm_10 b_0 e_0 (v := .ref (ads o (1))) rfl d_Nm_put_58 ?_
        refine r_iload_n X 1 d_Nm_put_61 rfl rfl ?_
        refine r_callV X (m_St_addHand l o (remI mi nx c n) (remL ml nx n) 1 q n (ml 1 0) isSt.now ((by rw [remI_n _ (by omega) (by omega) (by decide)] <;> exact hn)) (by omega) ((by rw [remL_n _ (by omega) (by omega)] <;> exact rfl))) ok_St_addHand w_Nm_199 rfl b_1 e_1 rfl ⟨Nat.le_of_ble_eq_true rfl, Nat.le_of_ble_eq_true rfl⟩ (rest := []) rfl (Nat.le_of_ble_eq_true rfl) d_Nm_put_62 ?_
        refine kD (st' := []) rfl ?_
        refine r_aload_n X 0 d_Nm_put_65 rfl rfl ?_
        refine r_get X f_Nm_10 b_0 e_0 (v := .ref (ads o (1))) rfl d_Nm_put_66 ?_
        refine r_get X f_Nm_83 b_1 e_1 (v := .int (nI (n + 1))) (congrArg (fun z => some (Value.int z)) ((by rw [u2_s, uf_s]))) d_Nm_put_69 ?_
        refine r_iconst X (v := nI (1)) d_Nm_put_72 (by decide) ?_
        refine r_isub X (v := nI (n + 1 - 1)) d_Nm_put_73 (pk_sub (by omega)) ?_
        refine r_end_i X d_Nm_put_74 ?_
        exact ⟨rfl, rfl, rfl⟩
      · -- not taken
        exact False.elim (by omega)
    · -- not taken
      exact False.elim (by exact c_25 hl)
  · -- not taken
    exact False.elim (by have e := rng_in (q := q) (m := 2) (by omega) (by decide); exact absurd (c_4.symm.trans e) (by decide))

set_option maxHeartbeats 4000000 in
set_option maxRecDepth 100000 in
theorem m_Nm_cut_i (l : Launch) (o : OM) (mi : MI) (ml : ML) (x : Int64) (nx : Nat) (c : Nat) (n : Nat) (hnx : mi 4 1 = nI nx) (hnx20 : nx < 20) (hc : mi 4 2 = nI c) (hc20 : c ≤ 20) (hn : mi 1 2 = nI n) (hn40 : n ≤ 40) (hx0 : bt x 0 = true) (hx8 : pop x ≤ 8) : Con l y_Nm_cut c_Nm_cut 3 (some .int) 8 270 o [.ref (ads o (0)), .long (x)] mi ml (fun v m z => v = some (.int (nI (pop x - 1))) ∧ PtOK m z 75 x ∧ (∀ t, t ≠ 75 → t ≠ 76 → m t = remI mi nx c n t) ∧ ∀ t, t ≠ 77 → z t = u2 (remL ml nx n) 1 1 x t) := by
  refine Con.mk (by decide) (Nat.le_of_ble_eq_true rfl) (fun γ X => ?_)
  have hp1 := pop_pos hx0
  show V γ o 3 mi ml 0 [(0, .ref (ads o (0))), (1, .long (x))] []
  refine r_lload_n X 1 d_Nm_cut_0 rfl rfl ?_
  refine r_lconst X (v := 1) d_Nm_cut_1 (by decide) ?_
  refine r_land X (v := (x) &&& (1)) d_Nm_cut_2 (rfl) ?_
  refine r_lconst X (v := 0) d_Nm_cut_3 (by decide) ?_
  refine r_lcmp X d_Nm_cut_4 ?_
  refine r_ifeqQ X (tgt := 17) (b := !bt x 0) d_Nm_cut_5 (by decide) ((lg_cmp_eq _ _).trans ((and1_eq0 x).trans (by simp))) (fun c_5 => ?_) (fun c_5 => ?_)
  · -- taken
    exact False.elim (by simp_all)
  · -- not taken
    refine r_lload_n X 1 d_Nm_cut_8 rfl rfl ?_
    refine r_callS X (m_Lg_bitCount l o mi ml x) ok_Lg_bitCount w_Nm_91 rfl ⟨Nat.le_of_ble_eq_true rfl, Nat.le_of_ble_eq_true rfl⟩ (rest := []) rfl (Nat.le_of_ble_eq_true rfl) d_Nm_cut_9 ?_
    refine kD (st' := [.int (nI (pop x))]) rfl ?_
    refine r_bipush X (v := nI (8)) d_Nm_cut_12 (by decide) ?_
    refine r_icle X (tgt := 20) (c := (pop x) ≤ 8) d_Nm_cut_14 (by decide) (nI_leI (pop_lt _) (Nat.le_of_ble_eq_true rfl)) (fun c_14 => ?_) (fun c_14 => ?_)
    · -- taken
      refine r_aload_n X 0 d_Nm_cut_20 rfl rfl ?_
      refine r_get X f_Nm_19 b_0 e_0 (v := .ref (ads o (4))) rfl d_Nm_cut_21 ?_
      refine r_aload_n X 0 d_Nm_cut_24 rfl rfl ?_
      refine r_get X f_Nm_10 b_0 e_0 (v := .ref (ads o (1))) rfl d_Nm_cut_25 ?_
      refine r_callV X (m_Pa_remember l o mi ml nx c n (hnx) hnx20 (hc) hc20 (hn) hn40) ok_Pa_remember w_Nm_174 rfl b_4 e_4 rfl ⟨Nat.le_of_ble_eq_true rfl, Nat.le_of_ble_eq_true rfl⟩ (rest := []) rfl (Nat.le_of_ble_eq_true rfl) d_Nm_cut_28 ?_
      refine kD (st' := []) rfl ?_
      refine r_aload_n X 0 d_Nm_cut_31 rfl rfl ?_
      refine r_get X f_Nm_10 b_0 e_0 (v := .ref (ads o (1))) rfl d_Nm_cut_32 ?_
      refine r_lload_n X 1 d_Nm_cut_35 rfl rfl ?_
      refine r_putL X fw_Nm_37 b_1 e_1 (fun _ _ => rfl) (Nat.le_of_ble_eq_true rfl) d_Nm_cut_36 ?_
      refine r_aload_n X 0 d_Nm_cut_39 rfl rfl ?_
      refine r_get X f_Nm_33 b_0 e_0 (v := .ref (ads o (75))) rfl d_Nm_cut_40 ?_
      refine r_lload_n X 1 d_Nm_cut_43 rfl rfl ?_
      refine r_callV X (m_Pt_beginAt l o (remI mi nx c n) (u2 (remL ml nx n) 1 1 (x)) 75 x (Or.inl rfl) (by omega) (by omega)) ok_Pt_beginAt w_Nm_41 rfl b_75 e_75 rfl ⟨Nat.le_of_ble_eq_true rfl, Nat.le_of_ble_eq_true rfl⟩ (rest := []) rfl (Nat.le_of_ble_eq_true rfl) d_Nm_cut_44 ?_
      rintro _ mb1 zb1 ⟨rfl, hPt, hfb, hgb⟩
      show V γ o 3 mb1 zb1 47 [(0, .ref (ads o (0))), (1, .long (x))] []
      refine r_aload_n X 0 d_Nm_cut_47 rfl rfl ?_
      refine r_get X f_Nm_33 b_0 e_0 (v := .ref (ads o (75))) rfl d_Nm_cut_48 ?_
      refine r_callV X (m_Pt_reach l o mb1 zb1 75 (pop x) (Or.inl rfl) (hPt.1) (by omega) (by omega)) ok_Pt_reach w_Nm_104 rfl b_75 e_75 rfl ⟨Nat.le_of_ble_eq_true rfl, Nat.le_of_ble_eq_true rfl⟩ (rest := []) rfl (Nat.le_of_ble_eq_true rfl) d_Nm_cut_51 ?_
      refine kD (st' := [.int (nI ((pop x) - 1))]) rfl ?_
      refine r_end_i X d_Nm_cut_54 ?_
      exact ⟨rfl, hPt, hfb, hgb⟩
    · -- not taken
      exact False.elim (by omega)

set_option maxHeartbeats 4000000 in
set_option maxRecDepth 100000 in
theorem m_Nm_cut_o1 (l : Launch) (o : OM) (mi : MI) (ml : ML) (x : Int64) (hx0 : bt x 0 = false) : ConD l y_Nm_cut c_Nm_cut 3 (some .int) 8 270 o [.ref (ads o (0)), .long (x)] mi ml (some (.int (((-1000000002 : Int32))))) mi ml := by
  refine Con.mk (by decide) (Nat.le_of_ble_eq_true rfl) (fun γ X => ?_)
  show V γ o 3 mi ml 0 [(0, .ref (ads o (0))), (1, .long (x))] []
  refine r_lload_n X 1 d_Nm_cut_0 rfl rfl ?_
  refine r_lconst X (v := 1) d_Nm_cut_1 (by decide) ?_
  refine r_land X (v := (x) &&& (1)) d_Nm_cut_2 (rfl) ?_
  refine r_lconst X (v := 0) d_Nm_cut_3 (by decide) ?_
  refine r_lcmp X d_Nm_cut_4 ?_
  refine r_ifeqQ X (tgt := 17) (b := !bt x 0) d_Nm_cut_5 (by decide) ((lg_cmp_eq _ _).trans ((and1_eq0 x).trans (by simp))) (fun c_5 => ?_) (fun c_5 => ?_)
  · -- taken
    refine r_ldc X (v := ((-1000000002 : Int32))) k_Nm_137 (by decide) d_Nm_cut_17 ?_
    refine r_end_i X d_Nm_cut_19 ?_
    first | exact ⟨rfl, rfl, rfl⟩ | (refine ⟨?_, rfl, rfl⟩; simp_all)
  · -- not taken
    exact False.elim (by simp_all)

set_option maxHeartbeats 4000000 in
set_option maxRecDepth 100000 in
theorem m_Nm_cut_o2 (l : Launch) (o : OM) (mi : MI) (ml : ML) (x : Int64) (hx0 : bt x 0 = true) (hx8 : 8 < pop x) : ConD l y_Nm_cut c_Nm_cut 3 (some .int) 8 270 o [.ref (ads o (0)), .long (x)] mi ml (some (.int (((-1000000002 : Int32))))) mi ml := by
  refine Con.mk (by decide) (Nat.le_of_ble_eq_true rfl) (fun γ X => ?_)
  show V γ o 3 mi ml 0 [(0, .ref (ads o (0))), (1, .long (x))] []
  refine r_lload_n X 1 d_Nm_cut_0 rfl rfl ?_
  refine r_lconst X (v := 1) d_Nm_cut_1 (by decide) ?_
  refine r_land X (v := (x) &&& (1)) d_Nm_cut_2 (rfl) ?_
  refine r_lconst X (v := 0) d_Nm_cut_3 (by decide) ?_
  refine r_lcmp X d_Nm_cut_4 ?_
  refine r_ifeqQ X (tgt := 17) (b := !bt x 0) d_Nm_cut_5 (by decide) ((lg_cmp_eq _ _).trans ((and1_eq0 x).trans (by simp))) (fun c_5 => ?_) (fun c_5 => ?_)
  · -- taken
    exact False.elim (by simp_all)
  · -- not taken
    refine r_lload_n X 1 d_Nm_cut_8 rfl rfl ?_
    refine r_callS X (m_Lg_bitCount l o mi ml x) ok_Lg_bitCount w_Nm_91 rfl ⟨Nat.le_of_ble_eq_true rfl, Nat.le_of_ble_eq_true rfl⟩ (rest := []) rfl (Nat.le_of_ble_eq_true rfl) d_Nm_cut_9 ?_
    refine kD (st' := [.int (nI (pop x))]) rfl ?_
    refine r_bipush X (v := nI (8)) d_Nm_cut_12 (by decide) ?_
    refine r_icle X (tgt := 20) (c := (pop x) ≤ 8) d_Nm_cut_14 (by decide) (nI_leI (pop_lt _) (Nat.le_of_ble_eq_true rfl)) (fun c_14 => ?_) (fun c_14 => ?_)
    · -- taken
      exact False.elim (by omega)
    · -- not taken
      refine r_ldc X (v := ((-1000000002 : Int32))) k_Nm_137 (by decide) d_Nm_cut_17 ?_
      refine r_end_i X d_Nm_cut_19 ?_
      first | exact ⟨rfl, rfl, rfl⟩ | (refine ⟨?_, rfl, rfl⟩; simp_all)

set_option maxHeartbeats 4000000 in
set_option maxRecDepth 100000 in
theorem m_Nm_take_i (l : Launch) (o : OM) (mi : MI) (ml : ML) (k : Nat) (nx : Nat) (c : Nat) (n : Nat) (hnx : mi 4 1 = nI nx) (hnx20 : nx < 20) (hc : mi 4 2 = nI c) (hc20 : c ≤ 20) (hn : mi 1 2 = nI n) (hn40 : n ≤ 40) (hk : k < n) : ConD l y_Nm_take c_Nm_take 2 (some .int) 8 270 o [.ref (ads o (0)), .int (nI (k))] mi ml (some (.int (nI (n - 1)))) (u2 (shL (remI mi nx c n) 3 k 1 (n - (k + 1))) 1 2 (nI (n - 1))) (shL (remL ml nx n) 2 k 1 (n - (k + 1))) := by
  refine Con.mk (by decide) (Nat.le_of_ble_eq_true rfl) (fun γ X => ?_)
  show V γ o 2 mi ml 0 [(0, .ref (ads o (0))), (1, .int (nI (k)))] []
  refine r_aload_n X 0 d_Nm_take_0 rfl rfl ?_
  refine r_get X f_Nm_10 b_0 e_0 (v := .ref (ads o (1))) rfl d_Nm_take_1 ?_
  refine r_iload_n X 1 d_Nm_take_4 rfl rfl ?_
  refine r_callV X (m_St_has l o mi ml 1 (nI (k)) n isSt.now (hn) hn40) ok_St_has w_Nm_138 rfl b_1 e_1 rfl ⟨Nat.le_of_ble_eq_true rfl, Nat.le_of_ble_eq_true rfl⟩ (rest := []) rfl (Nat.le_of_ble_eq_true rfl) d_Nm_take_5 ?_
  refine kD (st' := [.int (bI (isMk n (nI (k))))]) rfl ?_
  refine r_ifneB X (tgt := 14) (b := isMk n (nI (k))) d_Nm_take_8 (by decide) (fun c_8 => ?_) (fun c_8 => ?_)
  · -- taken
    refine r_aload_n X 0 d_Nm_take_14 rfl rfl ?_
    refine r_get X f_Nm_19 b_0 e_0 (v := .ref (ads o (4))) rfl d_Nm_take_15 ?_
    refine r_aload_n X 0 d_Nm_take_18 rfl rfl ?_
    refine r_get X f_Nm_10 b_0 e_0 (v := .ref (ads o (1))) rfl d_Nm_take_19 ?_
    refine r_callV X (m_Pa_remember l o mi ml nx c n (hnx) hnx20 (hc) hc20 (hn) hn40) ok_Pa_remember w_Nm_174 rfl b_4 e_4 rfl ⟨Nat.le_of_ble_eq_true rfl, Nat.le_of_ble_eq_true rfl⟩ (rest := []) rfl (Nat.le_of_ble_eq_true rfl) d_Nm_take_22 ?_
    refine kD (st' := []) rfl ?_
    refine r_aload_n X 0 d_Nm_take_25 rfl rfl ?_
    refine r_get X f_Nm_10 b_0 e_0 (v := .ref (ads o (1))) rfl d_Nm_take_26 ?_
    refine r_iload_n X 1 d_Nm_take_29 rfl rfl ?_
    refine r_callV X (m_St_remove l o (remI mi nx c n) (remL ml nx n) 1 k n isSt.now ((by rw [remI_n _ (by omega) (by omega) (by decide)] <;> exact hn)) (by omega) (by omega)) ok_St_remove w_Nm_203 rfl b_1 e_1 rfl ⟨Nat.le_of_ble_eq_true rfl, Nat.le_of_ble_eq_true rfl⟩ (rest := []) rfl (Nat.le_of_ble_eq_true rfl) d_Nm_take_30 ?_
    refine kD (st' := []) rfl ?_
    refine r_aload_n X 0 d_Nm_take_33 rfl rfl ?_
    refine r_get X f_Nm_10 b_0 e_0 (v := .ref (ads o (1))) rfl d_Nm_take_34 ?_
    refine r_get X f_Nm_83 b_1 e_1 (v := .int (nI (n - 1))) (congrArg (fun z => some (Value.int z)) ((by rw [u2_s, uf_s]))) d_Nm_take_37 ?_
    refine r_end_i X d_Nm_take_40 ?_
    exact ⟨rfl, rfl, rfl⟩
  · -- not taken
    exact False.elim (by rw [isMk_nI (by omega) (by omega)] at c_8; simp at c_8; omega)

set_option maxHeartbeats 4000000 in
set_option maxRecDepth 100000 in
theorem m_Nm_take_u (l : Launch) (o : OM) (mi : MI) (ml : ML) (k : Int32) (n : Nat) (hn : mi 1 2 = nI n) (hn40 : n ≤ 40) (hu : isMk n k = false) : ConD l y_Nm_take c_Nm_take 2 (some .int) 8 270 o [.ref (ads o (0)), .int (k)] mi ml (some (.int (((-1000000001 : Int32))))) mi ml := by
  refine Con.mk (by decide) (Nat.le_of_ble_eq_true rfl) (fun γ X => ?_)
  show V γ o 2 mi ml 0 [(0, .ref (ads o (0))), (1, .int (k))] []
  refine r_aload_n X 0 d_Nm_take_0 rfl rfl ?_
  refine r_get X f_Nm_10 b_0 e_0 (v := .ref (ads o (1))) rfl d_Nm_take_1 ?_
  refine r_iload_n X 1 d_Nm_take_4 rfl rfl ?_
  refine r_callV X (m_St_has l o mi ml 1 k n isSt.now (hn) hn40) ok_St_has w_Nm_138 rfl b_1 e_1 rfl ⟨Nat.le_of_ble_eq_true rfl, Nat.le_of_ble_eq_true rfl⟩ (rest := []) rfl (Nat.le_of_ble_eq_true rfl) d_Nm_take_5 ?_
  refine kD (st' := [.int (bI (isMk n k))]) rfl ?_
  refine r_ifneB X (tgt := 14) (b := isMk n k) d_Nm_take_8 (by decide) (fun c_8 => ?_) (fun c_8 => ?_)
  · -- taken
    exact False.elim (by rw [hu] at c_8; cases c_8)
  · -- not taken
    refine r_ldc X (v := ((-1000000001 : Int32))) k_Nm_146 (by decide) d_Nm_take_11 ?_
    refine r_end_i X d_Nm_take_13 ?_
    first | exact ⟨rfl, rfl, rfl⟩ | (refine ⟨?_, rfl, rfl⟩; simp_all)

set_option maxHeartbeats 4000000 in
set_option maxRecDepth 100000 in
theorem m_Nm_kind_i (l : Launch) (o : OM) (mi : MI) (ml : ML) (k : Nat) (q : Nat) (nx : Nat) (c : Nat) (n : Nat) (hnx : mi 4 1 = nI nx) (hnx20 : nx < 20) (hc : mi 4 2 = nI c) (hc20 : c ≤ 20) (hn : mi 1 2 = nI n) (hn40 : n ≤ 40) (hk : k < n) (hq : q < 3) : ConD l y_Nm_kind c_Nm_kind 4 (some .int) 8 270 o [.ref (ads o (0)), .int (nI (k)), .int (nI (q))] mi ml (some (.int ((mi 3 k)))) (u2 (remI mi nx c n) 3 k (nI q)) (remL ml nx n) := by
  refine Con.mk (by decide) (Nat.le_of_ble_eq_true rfl) (fun γ X => ?_)
  show V γ o 4 mi ml 0 [(0, .ref (ads o (0))), (1, .int (nI (k))), (2, .int (nI (q)))] []
  refine r_aload_n X 0 d_Nm_kind_0 rfl rfl ?_
  refine r_get X f_Nm_10 b_0 e_0 (v := .ref (ads o (1))) rfl d_Nm_kind_1 ?_
  refine r_iload_n X 1 d_Nm_kind_4 rfl rfl ?_
  refine r_callV X (m_St_has l o mi ml 1 (nI (k)) n isSt.now (hn) hn40) ok_St_has w_Nm_138 rfl b_1 e_1 rfl ⟨Nat.le_of_ble_eq_true rfl, Nat.le_of_ble_eq_true rfl⟩ (rest := []) rfl (Nat.le_of_ble_eq_true rfl) d_Nm_kind_5 ?_
  refine kD (st' := [.int (bI (isMk n (nI (k))))]) rfl ?_
  refine r_ifneB X (tgt := 14) (b := isMk n (nI (k))) d_Nm_kind_8 (by decide) (fun c_8 => ?_) (fun c_8 => ?_)
  · -- taken
    refine r_iload_n X 2 d_Nm_kind_14 rfl rfl ?_
    refine r_callS X (m_Nm_isKind l o mi ml (nI (q))) ok_Nm_isKind w_Nm_194 rfl ⟨Nat.le_of_ble_eq_true rfl, Nat.le_of_ble_eq_true rfl⟩ (rest := []) rfl (Nat.le_of_ble_eq_true rfl) d_Nm_kind_15 ?_
    refine kD (st' := [.int (bI (!decide ((nI (q)) < 0) && !decide (nI 2 < (nI (q)))))]) rfl ?_
    refine r_ifneB X (tgt := 24) (b := !decide ((nI (q)) < 0) && !decide (nI 2 < (nI (q)))) d_Nm_kind_18 (by decide) (fun c_18 => ?_) (fun c_18 => ?_)
    · -- taken
      refine r_aload_n X 0 d_Nm_kind_24 rfl rfl ?_
      refine r_get X f_Nm_10 b_0 e_0 (v := .ref (ads o (1))) rfl d_Nm_kind_25 ?_
      refine r_get X f_Nm_147 b_1 e_1 (v := .ref (ads o (3))) rfl d_Nm_kind_28 ?_
      refine r_iload_n X 1 d_Nm_kind_31 rfl rfl ?_
      refine r_iald X (v := (mi 3 k)) b_3 e_3 (Nat.le_of_ble_eq_true rfl) (by omega) rfl d_Nm_kind_32 ?_
      refine r_istore_n X [(3, .int ((mi 3 k))), (0, .ref (ads o (0))), (1, .int (nI (k))), (2, .int (nI (q)))] d_Nm_kind_33 rfl (Nat.le_of_ble_eq_true rfl) rfl ?_
      refine r_aload_n X 1 d_Nm_kind_34 rfl rfl ?_
      refine r_get X f_Nm_19 b_0 e_0 (v := .ref (ads o (4))) rfl d_Nm_kind_35 ?_
      refine r_aload_n X 1 d_Nm_kind_38 rfl rfl ?_
      refine r_get X f_Nm_10 b_0 e_0 (v := .ref (ads o (1))) rfl d_Nm_kind_39 ?_
      refine r_callV X (m_Pa_remember l o mi ml nx c n (hnx) hnx20 (hc) hc20 (hn) hn40) ok_Pa_remember w_Nm_174 rfl b_4 e_4 rfl ⟨Nat.le_of_ble_eq_true rfl, Nat.le_of_ble_eq_true rfl⟩ (rest := []) rfl (Nat.le_of_ble_eq_true rfl) d_Nm_kind_42 ?_
      refine kD (st' := []) rfl ?_
      refine r_aload_n X 1 d_Nm_kind_45 rfl rfl ?_
      refine r_get X f_Nm_10 b_0 e_0 (v := .ref (ads o (1))) rfl d_Nm_kind_46 ?_
      refine r_get X f_Nm_147 b_1 e_1 (v := .ref (ads o (3))) rfl d_Nm_kind_49 ?_
      refine r_iload_n X 2 d_Nm_kind_52 rfl rfl ?_
      refine r_iload_n X 3 d_Nm_kind_53 rfl rfl ?_
      refine r_iast X b_3 e_3 (Nat.le_of_ble_eq_true rfl) (by omega) d_Nm_kind_54 ?_
      refine r_iload_n X 0 d_Nm_kind_55 rfl rfl ?_
      refine r_end_i X d_Nm_kind_56 ?_
      exact ⟨rfl, rfl, rfl⟩
    · -- not taken
      exact False.elim (by have e := rng_in (q := q) (m := 2) (by omega) (by decide); exact absurd (c_18.symm.trans e) (by decide))
  · -- not taken
    exact False.elim (by rw [isMk_nI (by omega) (by omega)] at c_8; simp at c_8; omega)

set_option maxHeartbeats 4000000 in
set_option maxRecDepth 100000 in
theorem m_Nm_kind_u (l : Launch) (o : OM) (mi : MI) (ml : ML) (k : Int32) (q : Int32) (n : Nat) (hn : mi 1 2 = nI n) (hn40 : n ≤ 40) (hu : isMk n k = false) : ConD l y_Nm_kind c_Nm_kind 4 (some .int) 8 270 o [.ref (ads o (0)), .int (k), .int (q)] mi ml (some (.int (((-1000000001 : Int32))))) mi ml := by
  refine Con.mk (by decide) (Nat.le_of_ble_eq_true rfl) (fun γ X => ?_)
  show V γ o 4 mi ml 0 [(0, .ref (ads o (0))), (1, .int (k)), (2, .int (q))] []
  refine r_aload_n X 0 d_Nm_kind_0 rfl rfl ?_
  refine r_get X f_Nm_10 b_0 e_0 (v := .ref (ads o (1))) rfl d_Nm_kind_1 ?_
  refine r_iload_n X 1 d_Nm_kind_4 rfl rfl ?_
  refine r_callV X (m_St_has l o mi ml 1 k n isSt.now (hn) hn40) ok_St_has w_Nm_138 rfl b_1 e_1 rfl ⟨Nat.le_of_ble_eq_true rfl, Nat.le_of_ble_eq_true rfl⟩ (rest := []) rfl (Nat.le_of_ble_eq_true rfl) d_Nm_kind_5 ?_
  refine kD (st' := [.int (bI (isMk n k))]) rfl ?_
  refine r_ifneB X (tgt := 14) (b := isMk n k) d_Nm_kind_8 (by decide) (fun c_8 => ?_) (fun c_8 => ?_)
  · -- taken
    exact False.elim (by rw [hu] at c_8; cases c_8)
  · -- not taken
    refine r_ldc X (v := ((-1000000001 : Int32))) k_Nm_146 (by decide) d_Nm_kind_11 ?_
    refine r_end_i X d_Nm_kind_13 ?_
    first | exact ⟨rfl, rfl, rfl⟩ | (refine ⟨?_, rfl, rfl⟩; simp_all)

set_option maxHeartbeats 4000000 in
set_option maxRecDepth 100000 in
theorem m_Nm_kind_o (l : Launch) (o : OM) (mi : MI) (ml : ML) (k : Nat) (q : Int32) (n : Nat) (hn : mi 1 2 = nI n) (hn40 : n ≤ 40) (hk : k < n) (hq : q < nI 0 ∨ nI 2 < q) : ConD l y_Nm_kind c_Nm_kind 4 (some .int) 8 270 o [.ref (ads o (0)), .int (nI (k)), .int (q)] mi ml (some (.int (((-1000000002 : Int32))))) mi ml := by
  refine Con.mk (by decide) (Nat.le_of_ble_eq_true rfl) (fun γ X => ?_)
  show V γ o 4 mi ml 0 [(0, .ref (ads o (0))), (1, .int (nI (k))), (2, .int (q))] []
  refine r_aload_n X 0 d_Nm_kind_0 rfl rfl ?_
  refine r_get X f_Nm_10 b_0 e_0 (v := .ref (ads o (1))) rfl d_Nm_kind_1 ?_
  refine r_iload_n X 1 d_Nm_kind_4 rfl rfl ?_
  refine r_callV X (m_St_has l o mi ml 1 (nI (k)) n isSt.now (hn) hn40) ok_St_has w_Nm_138 rfl b_1 e_1 rfl ⟨Nat.le_of_ble_eq_true rfl, Nat.le_of_ble_eq_true rfl⟩ (rest := []) rfl (Nat.le_of_ble_eq_true rfl) d_Nm_kind_5 ?_
  refine kD (st' := [.int (bI (isMk n (nI (k))))]) rfl ?_
  refine r_ifneB X (tgt := 14) (b := isMk n (nI (k))) d_Nm_kind_8 (by decide) (fun c_8 => ?_) (fun c_8 => ?_)
  · -- taken
    refine r_iload_n X 2 d_Nm_kind_14 rfl rfl ?_
    refine r_callS X (m_Nm_isKind l o mi ml q) ok_Nm_isKind w_Nm_194 rfl ⟨Nat.le_of_ble_eq_true rfl, Nat.le_of_ble_eq_true rfl⟩ (rest := []) rfl (Nat.le_of_ble_eq_true rfl) d_Nm_kind_15 ?_
    refine kD (st' := [.int (bI (!decide (q < 0) && !decide (nI 2 < q)))]) rfl ?_
    refine r_ifneB X (tgt := 24) (b := !decide (q < 0) && !decide (nI 2 < q)) d_Nm_kind_18 (by decide) (fun c_18 => ?_) (fun c_18 => ?_)
    · -- taken
      exact False.elim (by have e := rng_out (m := 2) hq; exact absurd (c_18.symm.trans e) (by decide))
    · -- not taken
      refine r_ldc X (v := ((-1000000002 : Int32))) k_Nm_137 (by decide) d_Nm_kind_21 ?_
      refine r_end_i X d_Nm_kind_23 ?_
      first | exact ⟨rfl, rfl, rfl⟩ | (refine ⟨?_, rfl, rfl⟩; simp_all)
  · -- not taken
    exact False.elim (by rw [isMk_nI (by omega) (by omega)] at c_8; simp at c_8; omega)
