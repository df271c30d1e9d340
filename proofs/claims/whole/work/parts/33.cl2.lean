set_option maxHeartbeats 4000000 in
set_option maxRecDepth 100000 in
theorem m_Pi_firstRow (l : Launch) (o : OM) (mi : MI) (ml : ML) (x : Int64)  : ConD l y_Pi_firstRow c_Pi_firstRow 2 (some .int) 0 0 o [.long (x)] mi ml (some (.int ((((x) &&& (255 : Int64)).toInt32)))) mi ml := by
  refine Con.mk (by decide) (Nat.le_of_ble_eq_true rfl) (fun γ X => ?_)
  show V γ o 2 mi ml 0 [(0, .long (x))] []
  refine r_lload_n X 0 d_Pi_firstRow_0 rfl rfl ?_
  refine r_ldc2 X (v := (255 : Int64)) k_Pi_9 d_Pi_firstRow_1 ?_
  refine r_land X (v := (x) &&& ((255 : Int64))) d_Pi_firstRow_4 (rfl) ?_
  refine r_l2i X (v := (((x) &&& ((255 : Int64))).toInt32)) d_Pi_firstRow_5 (rfl) ?_
  refine r_end_i X d_Pi_firstRow_6 ?_
  first | exact ⟨rfl, rfl, rfl⟩ | (refine ⟨?_, rfl, rfl⟩; simp_all)

set_option maxHeartbeats 4000000 in
set_option maxRecDepth 100000 in
theorem m_Pi_withRow (l : Launch) (o : OM) (mi : MI) (ml : ML) (x : Int64) (r : Nat) (d : Nat) (hr : r < 8) (hd : d < 256) : ConD l y_Pi_withRow c_Pi_withRow 5 (some .long) 0 0 o [.long (x), .int (nI (r)), .int (nI (d))] mi ml (some (.long (typed x r d))) mi ml := by
  refine Con.mk (by decide) (Nat.le_of_ble_eq_true rfl) (fun γ X => ?_)
  show V γ o 5 mi ml 0 [(0, .long (x)), (2, .int (nI (r))), (3, .int (nI (d)))] []
  refine r_bipush X (v := nI (8)) d_Pi_withRow_0 (by decide) ?_
  refine r_iload_n X 1 d_Pi_withRow_2 rfl rfl ?_
  refine r_imul X (v := nI (8 * r)) d_Pi_withRow_3 (pk_mul _ _) ?_
  refine r_istore X [(4, .int (nI (8 * r))), (0, .long (x)), (2, .int (nI (r))), (3, .int (nI (d)))] d_Pi_withRow_4 (Nat.le_of_ble_eq_true rfl) rfl ?_
  refine r_lload_n X 1 d_Pi_withRow_6 rfl rfl ?_
  refine r_ldc2 X (v := (255 : Int64)) k_Pi_9 d_Pi_withRow_7 ?_
  refine r_iload X 0 d_Pi_withRow_10 rfl ?_
  refine r_lshl X (v := shl ((255 : Int64)) (8 * r)) d_Pi_withRow_12 (rfl) ?_
  refine r_ldc2 X (v := (-1 : Int64)) k_Pi_11 d_Pi_withRow_13 ?_
  refine r_lxor X (v := (shl ((255 : Int64)) (8 * r)) ^^^ ((-1 : Int64))) d_Pi_withRow_16 (rfl) ?_
  refine r_land X (v := (x) &&& ((shl ((255 : Int64)) (8 * r)) ^^^ ((-1 : Int64)))) d_Pi_withRow_17 (rfl) ?_
  refine r_iload_n X 3 d_Pi_withRow_18 rfl rfl ?_
  refine r_i2l X (v := lN (d)) d_Pi_withRow_19 (nI_l (by omega)) ?_
  refine r_iload X 0 d_Pi_withRow_20 rfl ?_
  refine r_lshl X (v := shl (lN (d)) (8 * r)) d_Pi_withRow_22 (rfl) ?_
  refine r_lor X (v := ((x) &&& ((shl ((255 : Int64)) (8 * r)) ^^^ ((-1 : Int64)))) ||| (shl (lN (d)) (8 * r))) d_Pi_withRow_23 (rfl) ?_
  refine r_end_l X d_Pi_withRow_24 ?_
  first | exact ⟨rfl, rfl, rfl⟩ | (refine ⟨?_, rfl, rfl⟩; simp_all)

set_option maxHeartbeats 4000000 in
set_option maxRecDepth 100000 in
theorem m_Pi_ofEqualRows (l : Launch) (o : OM) (mi : MI) (ml : ML) (d : Nat) (hd : d < 256) : ConD l y_Pi_ofEqualRows c_Pi_ofEqualRows 4 (some .long) 1 24 o [.int (nI (d))] mi ml (some (.long (rowsE d 8))) mi ml := by
  refine Con.mk (by decide) (Nat.le_of_ble_eq_true rfl) (fun γ X => ?_)
  show V γ o 4 mi ml 0 [(0, .int (nI (d)))] []
  refine r_lconst X (v := 0) d_Pi_ofEqualRows_0 (by decide) ?_
  refine r_lstore_n X [(1, .long (0)), (0, .int (nI (d)))] d_Pi_ofEqualRows_1 rfl (Nat.le_of_ble_eq_true rfl) rfl ?_
  refine r_iconst X (v := nI (0)) d_Pi_ofEqualRows_2 (by decide) ?_
  refine r_istore_n X [(3, .int (nI (0))), (1, .long (0)), (0, .int (nI (d)))] d_Pi_ofEqualRows_3 rfl (Nat.le_of_ble_eq_true rfl) rfl ?_
  have L4_1 : ∀ (d_i i : Nat), i + d_i = 8 → V γ o 4 mi ml 4 [(0, .int (nI (d))), (1, .long (rowsE d (i))), (3, .int (nI (i)))] [] := by
    intro d_i
    induction d_i with
    | zero =>
      intro i hi_L4_1 
      have he_L4_1 : 8 = i := by omega
      subst he_L4_1
      refine r_iload_n X 2 d_Pi_ofEqualRows_4 rfl rfl ?_
      refine r_bipush X (v := nI (8)) d_Pi_ofEqualRows_5 (by decide) ?_
      refine r_icge X (tgt := 23) (c := 8 ≤ 8) d_Pi_ofEqualRows_7 (by decide) (nI_leI (Nat.le_of_ble_eq_true rfl) (by omega)) (fun c_7 => ?_) (fun c_7 => ?_)
      · -- taken
        refine r_lload_n X 1 d_Pi_ofEqualRows_23 rfl rfl ?_
        refine r_end_l X d_Pi_ofEqualRows_24 ?_
        first | exact ⟨rfl, rfl, rfl⟩ | (refine ⟨?_, rfl, rfl⟩; simp_all)
      · -- not taken
        exact False.elim (by omega)
    | succ d_i ih_L4_1 =>
      intro i hi_L4_1 
      have hlt_L4_1 : i < 8 := by omega
      refine r_iload_n X 2 d_Pi_ofEqualRows_4 rfl rfl ?_
      refine r_bipush X (v := nI (8)) d_Pi_ofEqualRows_5 (by decide) ?_
      refine r_icge X (tgt := 23) (c := 8 ≤ i) d_Pi_ofEqualRows_7 (by decide) (nI_leI (Nat.le_of_ble_eq_true rfl) (by omega)) (fun c_7_2 => ?_) (fun c_7_2 => ?_)
      · -- taken
        exact False.elim (by omega)
      · -- not taken
        refine r_lload_n X 1 d_Pi_ofEqualRows_10 rfl rfl ?_
        refine r_iload_n X 2 d_Pi_ofEqualRows_11 rfl rfl ?_
        refine r_iload_n X 0 d_Pi_ofEqualRows_12 rfl rfl ?_
        refine r_callS X (m_Pi_withRow l o mi ml (rowsE d (i)) i d (by omega) hd) ok_Pi_withRow w_Pi_13 rfl ⟨Nat.le_of_ble_eq_true rfl, Nat.le_of_ble_eq_true rfl⟩ (rest := []) rfl (Nat.le_of_ble_eq_true rfl) d_Pi_ofEqualRows_13 ?_
        refine kD (st' := [.long (typed (rowsE d (i)) i d)]) rfl ?_
        refine r_lstore_n X [(1, .long (typed (rowsE d (i)) i d)), (0, .int (nI (d))), (3, .int (nI (i)))] d_Pi_ofEqualRows_16 rfl (Nat.le_of_ble_eq_true rfl) rfl ?_
        refine r_iinc X 2 (v := nI (i + 1)) [(3, .int (nI (i + 1))), (1, .long (typed (rowsE d (i)) i d)), (0, .int (nI (d)))] d_Pi_ofEqualRows_17 rfl (nI_add _ 1) (Nat.le_of_ble_eq_true rfl) rfl ?_
        refine r_goto X (tgt := 4) d_Pi_ofEqualRows_20 (by decide) ?_
        refine V.wk [2, 1, 0] (V.eq (ih_L4_1 (i + 1) (by omega) ) ?_ ?_ ?_ rfl) (rfl : lv_pick _ [2, 1, 0] = [(0, .int (nI (d))), (1, .long (typed (rowsE d (i)) i d)), (3, .int (nI (i + 1)))])
        · rfl
        · rfl
        · first | rfl | (simp_all [ct, lastB, alB, fromB]; done)
  refine V.wk [2, 1, 0] (V.eq (L4_1 (8 - 0) 0 (by omega) ) ?_ ?_ ?_ rfl) (rfl : lv_pick _ [2, 1, 0] = [(0, .int (nI (d))), (1, .long (0)), (3, .int (nI (0)))])
  · rfl
  · rfl
  · rfl

set_option maxHeartbeats 4000000 in
set_option maxRecDepth 100000 in
theorem m_Pi_hasDot (l : Launch) (o : OM) (mi : MI) (ml : ML) (x : Int64) (r : Nat) (c : Nat) (hr : r < 8) (hc : c < 8) : ConD l y_Pi_hasDot c_Pi_hasDot 4 (some .boolean) 1 22 o [.long (x), .int (nI (r)), .int (nI (c))] mi ml (some (.int (bI (bt x (8 * r + c))))) mi ml := by
  refine Con.mk (by decide) (Nat.le_of_ble_eq_true rfl) (fun γ X => ?_)
  show V γ o 4 mi ml 0 [(0, .long (x)), (2, .int (nI (r))), (3, .int (nI (c)))] []
  refine r_lload_n X 0 d_Pi_hasDot_0 rfl rfl ?_
  refine r_bipush X (v := nI (8)) d_Pi_hasDot_1 (by decide) ?_
  refine r_iload_n X 1 d_Pi_hasDot_3 rfl rfl ?_
  refine r_imul X (v := nI (8 * r)) d_Pi_hasDot_4 (pk_mul _ _) ?_
  refine r_iload_n X 2 d_Pi_hasDot_5 rfl rfl ?_
  refine r_iadd X (v := nI (8 * r + c)) d_Pi_hasDot_6 (nI_add _ _) ?_
  refine r_callN X (m_Nm_hasBit l o mi ml x (8 * r + c) (by omega)) ok_Nm_hasBit (host := "NearMarks") (by decide +kernel) rfl ⟨Nat.le_of_ble_eq_true rfl, Nat.le_of_ble_eq_true rfl⟩ (rest := []) rfl (Nat.le_of_ble_eq_true rfl) d_Pi_hasDot_7 ?_
  refine kD (st' := [.int (bI (bt x (8 * r + c)))]) rfl ?_
  refine r_end_z X (bI_nar _) d_Pi_hasDot_10 ?_
  first | exact ⟨rfl, rfl, rfl⟩ | (refine ⟨?_, rfl, rfl⟩; simp_all)

set_option maxHeartbeats 4000000 in
set_option maxRecDepth 100000 in
theorem m_Pi_dotAt (l : Launch) (o : OM) (mi : MI) (ml : ML) (r : Nat) (c : Nat)  : ConD l y_Pi_dotAt c_Pi_dotAt 2 (some .long) 0 0 o [.int (nI (r)), .int (nI (c))] mi ml (some (.long (shl (1) (8 * r + c)))) mi ml := by
  refine Con.mk (by decide) (Nat.le_of_ble_eq_true rfl) (fun γ X => ?_)
  show V γ o 2 mi ml 0 [(0, .int (nI (r))), (1, .int (nI (c)))] []
  refine r_lconst X (v := 1) d_Pi_dotAt_0 (by decide) ?_
  refine r_bipush X (v := nI (8)) d_Pi_dotAt_1 (by decide) ?_
  refine r_iload_n X 0 d_Pi_dotAt_3 rfl rfl ?_
  refine r_imul X (v := nI (8 * r)) d_Pi_dotAt_4 (pk_mul _ _) ?_
  refine r_iload_n X 1 d_Pi_dotAt_5 rfl rfl ?_
  refine r_iadd X (v := nI (8 * r + c)) d_Pi_dotAt_6 (nI_add _ _) ?_
  refine r_lshl X (v := shl (1) (8 * r + c)) d_Pi_dotAt_7 (rfl) ?_
  refine r_end_l X d_Pi_dotAt_8 ?_
  first | exact ⟨rfl, rfl, rfl⟩ | (refine ⟨?_, rfl, rfl⟩; simp_all)

set_option maxHeartbeats 4000000 in
set_option maxRecDepth 100000 in
theorem m_Pi_turned (l : Launch) (o : OM) (mi : MI) (ml : ML) (x : Int64)  : ConD l y_Pi_turned c_Pi_turned 6 (some .long) 2 45 o [.long (x)] mi ml (some (.long (turnS x 64))) mi ml := by
  refine Con.mk (by decide) (Nat.le_of_ble_eq_true rfl) (fun γ X => ?_)
  show V γ o 6 mi ml 0 [(0, .long (x))] []
  refine r_lconst X (v := 0) d_Pi_turned_0 (by decide) ?_
  refine r_lstore_n X [(2, .long (0)), (0, .long (x))] d_Pi_turned_1 rfl (Nat.le_of_ble_eq_true rfl) rfl ?_
  refine r_iconst X (v := nI (0)) d_Pi_turned_2 (by decide) ?_
  refine r_istore X [(4, .int (nI (0))), (2, .long (0)), (0, .long (x))] d_Pi_turned_3 (Nat.le_of_ble_eq_true rfl) rfl ?_
  have L5_1 : ∀ (d_r r : Nat), r + d_r = 8 → V γ o 6 mi ml 5 [(0, .long (x)), (2, .long (turnS x (8 * r))), (4, .int (nI (r)))] [] := by
    intro d_r
    induction d_r with
    | zero =>
      intro r hi_L5_1 
      have he_L5_1 : 8 = r := by omega
      subst he_L5_1
      refine r_iload X 2 d_Pi_turned_5 rfl ?_
      refine r_bipush X (v := nI (8)) d_Pi_turned_7 (by decide) ?_
      refine r_icge X (tgt := 58) (c := 8 ≤ 8) d_Pi_turned_9 (by decide) (nI_leI (Nat.le_of_ble_eq_true rfl) (by omega)) (fun c_9 => ?_) (fun c_9 => ?_)
      · -- taken
        refine r_lload_n X 1 d_Pi_turned_58 rfl rfl ?_
        refine r_end_l X d_Pi_turned_59 ?_
        first | exact ⟨rfl, rfl, rfl⟩ | (refine ⟨?_, rfl, rfl⟩; simp_all)
      · -- not taken
        exact False.elim (by omega)
    | succ d_r ih_L5_1 =>
      intro r hi_L5_1 
      have hlt_L5_1 : r < 8 := by omega
      refine r_iload X 2 d_Pi_turned_5 rfl ?_
      refine r_bipush X (v := nI (8)) d_Pi_turned_7 (by decide) ?_
      refine r_icge X (tgt := 58) (c := 8 ≤ r) d_Pi_turned_9 (by decide) (nI_leI (Nat.le_of_ble_eq_true rfl) (by omega)) (fun c_9_2 => ?_) (fun c_9_2 => ?_)
      · -- taken
        exact False.elim (by omega)
      · -- not taken
        refine r_iconst X (v := nI (0)) d_Pi_turned_12 (by decide) ?_
        refine r_istore X [(5, .int (nI (0))), (0, .long (x)), (2, .long (turnS x (8 * r))), (4, .int (nI (r)))] d_Pi_turned_13 (Nat.le_of_ble_eq_true rfl) rfl ?_
        have L15_3 : ∀ (d_c c : Nat), c + d_c = 8 → V γ o 6 mi ml 15 [(0, .long (x)), (2, .long (turnS x (8 * r + c))), (4, .int (nI (r))), (5, .int (nI (c)))] [] := by
          intro d_c
          induction d_c with
          | zero =>
            intro c hi_L15_3 
            have he_L15_3 : 8 = c := by omega
            subst he_L15_3
            refine r_iload X 3 d_Pi_turned_15 rfl ?_
            refine r_bipush X (v := nI (8)) d_Pi_turned_17 (by decide) ?_
            refine r_icge X (tgt := 52) (c := 8 ≤ 8) d_Pi_turned_19 (by decide) (nI_leI (Nat.le_of_ble_eq_true rfl) (by omega)) (fun c_19 => ?_) (fun c_19 => ?_)
            · -- taken
              refine r_iinc X 2 (v := nI (r + 1)) [(4, .int (nI (r + 1))), (0, .long (x)), (2, .long (turnS x (8 * r + 8))), (5, .int (nI (8)))] d_Pi_turned_52 rfl (nI_add _ 1) (Nat.le_of_ble_eq_true rfl) rfl ?_
              refine r_goto X (tgt := 5) d_Pi_turned_55 (by decide) ?_
              refine V.wk [1, 2, 0] (V.eq (ih_L5_1 (r + 1) (by omega) ) ?_ ?_ ?_ rfl) (rfl : lv_pick _ [1, 2, 0] = [(0, .long (x)), (2, .long (turnS x (8 * r + 8))), (4, .int (nI (r + 1)))])
              · rfl
              · rfl
              · first | rfl | (simp_all [ct, lastB, alB, fromB]; done)
            · -- not taken
              exact False.elim (by omega)
          | succ d_c ih_L15_3 =>
            intro c hi_L15_3 
            have hlt_L15_3 : c < 8 := by omega
            refine r_iload X 3 d_Pi_turned_15 rfl ?_
            refine r_bipush X (v := nI (8)) d_Pi_turned_17 (by decide) ?_
            refine r_icge X (tgt := 52) (c := 8 ≤ c) d_Pi_turned_19 (by decide) (nI_leI (Nat.le_of_ble_eq_true rfl) (by omega)) (fun c_19_4 => ?_) (fun c_19_4 => ?_)
            · -- taken
              exact False.elim (by omega)
            · -- not taken
              refine r_lload_n X 0 d_Pi_turned_22 rfl rfl ?_
              refine r_iload X 2 d_Pi_turned_23 rfl ?_
              refine r_iload X 3 d_Pi_turned_25 rfl ?_
              refine r_callS X (m_Pi_hasDot l o mi ml x r c (by omega) (by omega)) ok_Pi_hasDot w_Pi_23 rfl ⟨Nat.le_of_ble_eq_true rfl, Nat.le_of_ble_eq_true rfl⟩ (rest := []) rfl (Nat.le_of_ble_eq_true rfl) d_Pi_turned_27 ?_
              refine kD (st' := [.int (bI (bt x (8 * r + c)))]) rfl ?_
              refine r_ifeqB X (tgt := 46) (b := bt x (8 * r + c)) d_Pi_turned_30 (by decide) (fun c_30 => ?_) (fun c_30 => ?_)
              · -- taken
                refine r_iinc X 3 (v := nI (c + 1)) [(5, .int (nI (c + 1))), (0, .long (x)), (2, .long (turnS x (8 * r + c))), (4, .int (nI (r)))] d_Pi_turned_46 rfl (nI_add _ 1) (Nat.le_of_ble_eq_true rfl) rfl ?_
                refine r_goto X (tgt := 15) d_Pi_turned_49 (by decide) ?_
                refine V.wk [1, 2, 3, 0] (V.eq (ih_L15_3 (c + 1) (by omega) ) ?_ ?_ ?_ rfl) (rfl : lv_pick _ [1, 2, 3, 0] = [(0, .long (x)), (2, .long (turnS x (8 * r + c))), (4, .int (nI (r))), (5, .int (nI (c + 1)))])
                · rfl
                · rfl
                · first | (rw [show turnS x (8 * r + (c + 1)) = _ from (turn_y (by omega) (by assumption)).resolve_right (by omega)]; first | done | rfl) | (rw [show turnS x (8 * r + (c + 1)) = _ from turn_n (by assumption)]; first | done | rfl)
              · -- not taken
                refine r_lload_n X 1 d_Pi_turned_33 rfl rfl ?_
                refine r_iload X 3 d_Pi_turned_34 rfl ?_
                refine r_bipush X (v := nI (7)) d_Pi_turned_36 (by decide) ?_
                refine r_iload X 2 d_Pi_turned_38 rfl ?_
                refine r_isub X (v := nI (7 - r)) d_Pi_turned_40 (pk_sub (by omega)) ?_
                refine r_callS X (m_Pi_dotAt l o mi ml c (7 - r)) ok_Pi_dotAt w_Pi_27 rfl ⟨Nat.le_of_ble_eq_true rfl, Nat.le_of_ble_eq_true rfl⟩ (rest := [.long (turnS x (8 * r + c))]) rfl (Nat.le_of_ble_eq_true rfl) d_Pi_turned_41 ?_
                refine kD (st' := [.long (shl (1) (8 * c + (7 - r))), .long (turnS x (8 * r + c))]) rfl ?_
                refine r_lor X (v := (turnS x (8 * r + c)) ||| (shl (1) (8 * c + (7 - r)))) d_Pi_turned_44 (rfl) ?_
                refine r_lstore_n X [(2, .long ((turnS x (8 * r + c)) ||| (shl (1) (8 * c + (7 - r))))), (0, .long (x)), (4, .int (nI (r))), (5, .int (nI (c)))] d_Pi_turned_45 rfl (Nat.le_of_ble_eq_true rfl) rfl ?_
                refine r_iinc X 3 (v := nI (c + 1)) [(5, .int (nI (c + 1))), (2, .long ((turnS x (8 * r + c)) ||| (shl (1) (8 * c + (7 - r))))), (0, .long (x)), (4, .int (nI (r)))] d_Pi_turned_46 rfl (nI_add _ 1) (Nat.le_of_ble_eq_true rfl) rfl ?_
                refine r_goto X (tgt := 15) d_Pi_turned_49 (by decide) ?_
                refine V.wk [2, 1, 3, 0] (V.eq (ih_L15_3 (c + 1) (by omega) ) ?_ ?_ ?_ rfl) (rfl : lv_pick _ [2, 1, 3, 0] = [(0, .long (x)), (2, .long ((turnS x (8 * r + c)) ||| (shl (1) (8 * c + (7 - r))))), (4, .int (nI (r))), (5, .int (nI (c + 1)))])
                · rfl
                · rfl
                · first | (rw [show turnS x (8 * r + (c + 1)) = _ from (turn_y (by omega) (by assumption)).resolve_right (by omega)]; first | done | rfl) | (rw [show turnS x (8 * r + (c + 1)) = _ from turn_n (by assumption)]; first | done | rfl)
        refine V.wk [1, 2, 3, 0] (V.eq (L15_3 (8 - 0) 0 (by omega) ) ?_ ?_ ?_ rfl) (rfl : lv_pick _ [1, 2, 3, 0] = [(0, .long (x)), (2, .long (turnS x (8 * r))), (4, .int (nI (r))), (5, .int (nI (0)))])
        · rfl
        · rfl
        · rfl
  refine V.wk [2, 1, 0] (V.eq (L5_1 (8 - 0) 0 (by omega) ) ?_ ?_ ?_ rfl) (rfl : lv_pick _ [2, 1, 0] = [(0, .long (x)), (2, .long (0)), (4, .int (nI (0)))])
  · rfl
  · rfl
  · rfl

set_option maxHeartbeats 4000000 in
set_option maxRecDepth 100000 in
theorem m_Pi_mirrored (l : Launch) (o : OM) (mi : MI) (ml : ML) (x : Int64)  : ConD l y_Pi_mirrored c_Pi_mirrored 6 (some .long) 2 45 o [.long (x)] mi ml (some (.long (mirS x 64))) mi ml := by
  refine Con.mk (by decide) (Nat.le_of_ble_eq_true rfl) (fun γ X => ?_)
  show V γ o 6 mi ml 0 [(0, .long (x))] []
  refine r_lconst X (v := 0) d_Pi_mirrored_0 (by decide) ?_
  refine r_lstore_n X [(2, .long (0)), (0, .long (x))] d_Pi_mirrored_1 rfl (Nat.le_of_ble_eq_true rfl) rfl ?_
  refine r_iconst X (v := nI (0)) d_Pi_mirrored_2 (by decide) ?_
  refine r_istore X [(4, .int (nI (0))), (2, .long (0)), (0, .long (x))] d_Pi_mirrored_3 (Nat.le_of_ble_eq_true rfl) rfl ?_
  have L5_1 : ∀ (d_r r : Nat), r + d_r = 8 → V γ o 6 mi ml 5 [(0, .long (x)), (2, .long (mirS x (8 * r))), (4, .int (nI (r)))] [] := by
    intro d_r
    induction d_r with
    | zero =>
      intro r hi_L5_1 
      have he_L5_1 : 8 = r := by omega
      subst he_L5_1
      refine r_iload X 2 d_Pi_mirrored_5 rfl ?_
      refine r_bipush X (v := nI (8)) d_Pi_mirrored_7 (by decide) ?_
      refine r_icge X (tgt := 58) (c := 8 ≤ 8) d_Pi_mirrored_9 (by decide) (nI_leI (Nat.le_of_ble_eq_true rfl) (by omega)) (fun c_9 => ?_) (fun c_9 => ?_)
      · -- taken
        refine r_lload_n X 1 d_Pi_mirrored_58 rfl rfl ?_
        refine r_end_l X d_Pi_mirrored_59 ?_
        first | exact ⟨rfl, rfl, rfl⟩ | (refine ⟨?_, rfl, rfl⟩; simp_all)
      · -- not taken
        exact False.elim (by omega)
    | succ d_r ih_L5_1 =>
      intro r hi_L5_1 
      have hlt_L5_1 : r < 8 := by omega
      refine r_iload X 2 d_Pi_mirrored_5 rfl ?_
      refine r_bipush X (v := nI (8)) d_Pi_mirrored_7 (by decide) ?_
      refine r_icge X (tgt := 58) (c := 8 ≤ r) d_Pi_mirrored_9 (by decide) (nI_leI (Nat.le_of_ble_eq_true rfl) (by omega)) (fun c_9_2 => ?_) (fun c_9_2 => ?_)
      · -- taken
        exact False.elim (by omega)
      · -- not taken
        refine r_iconst X (v := nI (0)) d_Pi_mirrored_12 (by decide) ?_
        refine r_istore X [(5, .int (nI (0))), (0, .long (x)), (2, .long (mirS x (8 * r))), (4, .int (nI (r)))] d_Pi_mirrored_13 (Nat.le_of_ble_eq_true rfl) rfl ?_
        have L15_3 : ∀ (d_c c : Nat), c + d_c = 8 → V γ o 6 mi ml 15 [(0, .long (x)), (2, .long (mirS x (8 * r + c))), (4, .int (nI (r))), (5, .int (nI (c)))] [] := by
          intro d_c
          induction d_c with
          | zero =>
            intro c hi_L15_3 
            have he_L15_3 : 8 = c := by omega
            subst he_L15_3
            refine r_iload X 3 d_Pi_mirrored_15 rfl ?_
            refine r_bipush X (v := nI (8)) d_Pi_mirrored_17 (by decide) ?_
            refine r_icge X (tgt := 52) (c := 8 ≤ 8) d_Pi_mirrored_19 (by decide) (nI_leI (Nat.le_of_ble_eq_true rfl) (by omega)) (fun c_19 => ?_) (fun c_19 => ?_)
            · -- taken
              refine r_iinc X 2 (v := nI (r + 1)) [(4, .int (nI (r + 1))), (0, .long (x)), (2, .long (mirS x (8 * r + 8))), (5, .int (nI (8)))] d_Pi_mirrored_52 rfl (nI_add _ 1) (Nat.le_of_ble_eq_true rfl) rfl ?_
              refine r_goto X (tgt := 5) d_Pi_mirrored_55 (by decide) ?_
              refine V.wk [1, 2, 0] (V.eq (ih_L5_1 (r + 1) (by omega) ) ?_ ?_ ?_ rfl) (rfl : lv_pick _ [1, 2, 0] = [(0, .long (x)), (2, .long (mirS x (8 * r + 8))), (4, .int (nI (r + 1)))])
              · rfl
              · rfl
              · first | rfl | (simp_all [ct, lastB, alB, fromB]; done)
            · -- not taken
              exact False.elim (by omega)
          | succ d_c ih_L15_3 =>
            intro c hi_L15_3 
            have hlt_L15_3 : c < 8 := by omega
            refine r_iload X 3 d_Pi_mirrored_15 rfl ?_
            refine r_bipush X (v := nI (8)) d_Pi_mirrored_17 (by decide) ?_
            refine r_icge X (tgt := 52) (c := 8 ≤ c) d_Pi_mirrored_19 (by decide) (nI_leI (Nat.le_of_ble_eq_true rfl) (by omega)) (fun c_19_4 => ?_) (fun c_19_4 => ?_)
            · -- taken
              exact False.elim (by omega)
            · -- not taken
              refine r_lload_n X 0 d_Pi_mirrored_22 rfl rfl ?_
              refine r_iload X 2 d_Pi_mirrored_23 rfl ?_
              refine r_iload X 3 d_Pi_mirrored_25 rfl ?_
              refine r_callS X (m_Pi_hasDot l o mi ml x r c (by omega) (by omega)) ok_Pi_hasDot w_Pi_23 rfl ⟨Nat.le_of_ble_eq_true rfl, Nat.le_of_ble_eq_true rfl⟩ (rest := []) rfl (Nat.le_of_ble_eq_true rfl) d_Pi_mirrored_27 ?_
              refine kD (st' := [.int (bI (bt x (8 * r + c)))]) rfl ?_
              refine r_ifeqB X (tgt := 46) (b := bt x (8 * r + c)) d_Pi_mirrored_30 (by decide) (fun c_30 => ?_) (fun c_30 => ?_)
              · -- taken
                refine r_iinc X 3 (v := nI (c + 1)) [(5, .int (nI (c + 1))), (0, .long (x)), (2, .long (mirS x (8 * r + c))), (4, .int (nI (r)))] d_Pi_mirrored_46 rfl (nI_add _ 1) (Nat.le_of_ble_eq_true rfl) rfl ?_
                refine r_goto X (tgt := 15) d_Pi_mirrored_49 (by decide) ?_
                refine V.wk [1, 2, 3, 0] (V.eq (ih_L15_3 (c + 1) (by omega) ) ?_ ?_ ?_ rfl) (rfl : lv_pick _ [1, 2, 3, 0] = [(0, .long (x)), (2, .long (mirS x (8 * r + c))), (4, .int (nI (r))), (5, .int (nI (c + 1)))])
                · rfl
                · rfl
                · first | (rw [show mirS x (8 * r + (c + 1)) = _ from mir_y (by omega) (by assumption)]; first | done | rfl) | (rw [show mirS x (8 * r + (c + 1)) = _ from mir_n (by assumption)]; first | done | rfl)
              · -- not taken
                refine r_lload_n X 1 d_Pi_mirrored_33 rfl rfl ?_
                refine r_iload X 2 d_Pi_mirrored_34 rfl ?_
                refine r_bipush X (v := nI (7)) d_Pi_mirrored_36 (by decide) ?_
                refine r_iload X 3 d_Pi_mirrored_38 rfl ?_
                refine r_isub X (v := nI (7 - c)) d_Pi_mirrored_40 (pk_sub (by omega)) ?_
                refine r_callS X (m_Pi_dotAt l o mi ml r (7 - c)) ok_Pi_dotAt w_Pi_27 rfl ⟨Nat.le_of_ble_eq_true rfl, Nat.le_of_ble_eq_true rfl⟩ (rest := [.long (mirS x (8 * r + c))]) rfl (Nat.le_of_ble_eq_true rfl) d_Pi_mirrored_41 ?_
                refine kD (st' := [.long (shl (1) (8 * r + (7 - c))), .long (mirS x (8 * r + c))]) rfl ?_
                refine r_lor X (v := (mirS x (8 * r + c)) ||| (shl (1) (8 * r + (7 - c)))) d_Pi_mirrored_44 (rfl) ?_
                refine r_lstore_n X [(2, .long ((mirS x (8 * r + c)) ||| (shl (1) (8 * r + (7 - c))))), (0, .long (x)), (4, .int (nI (r))), (5, .int (nI (c)))] d_Pi_mirrored_45 rfl (Nat.le_of_ble_eq_true rfl) rfl ?_
                refine r_iinc X 3 (v := nI (c + 1)) [(5, .int (nI (c + 1))), (2, .long ((mirS x (8 * r + c)) ||| (shl (1) (8 * r + (7 - c))))), (0, .long (x)), (4, .int (nI (r)))] d_Pi_mirrored_46 rfl (nI_add _ 1) (Nat.le_of_ble_eq_true rfl) rfl ?_
                refine r_goto X (tgt := 15) d_Pi_mirrored_49 (by decide) ?_
                refine V.wk [2, 1, 3, 0] (V.eq (ih_L15_3 (c + 1) (by omega) ) ?_ ?_ ?_ rfl) (rfl : lv_pick _ [2, 1, 3, 0] = [(0, .long (x)), (2, .long ((mirS x (8 * r + c)) ||| (shl (1) (8 * r + (7 - c))))), (4, .int (nI (r))), (5, .int (nI (c + 1)))])
                · rfl
                · rfl
                · first | (rw [show mirS x (8 * r + (c + 1)) = _ from mir_y (by omega) (by assumption)]; first | done | rfl) | (rw [show mirS x (8 * r + (c + 1)) = _ from mir_n (by assumption)]; first | done | rfl)
        refine V.wk [1, 2, 3, 0] (V.eq (L15_3 (8 - 0) 0 (by omega) ) ?_ ?_ ?_ rfl) (rfl : lv_pick _ [1, 2, 3, 0] = [(0, .long (x)), (2, .long (mirS x (8 * r))), (4, .int (nI (r))), (5, .int (nI (0)))])
        · rfl
        · rfl
        · rfl
  refine V.wk [2, 1, 0] (V.eq (L5_1 (8 - 0) 0 (by omega) ) ?_ ?_ ?_ rfl) (rfl : lv_pick _ [2, 1, 0] = [(0, .long (x)), (2, .long (0)), (4, .int (nI (0)))])
  · rfl
  · rfl
  · rfl

set_option maxHeartbeats 4000000 in
set_option maxRecDepth 100000 in
theorem m_Dr_next (l : Launch) (o : OM) (mi : MI) (ml : ML) (m : Nat) (z : Nat) (hz : mi 94 0 = nI z) (hz31 : z < 2147483648) (hm : 0 < m) (hm2 : m < 2147483648) : ConD l y_Dr_next c_Dr_next 2 (some .int) 1 21 o [.ref (ads o (94)), .int (nI (m))] mi ml (some (.int (nI (nxt z / 65536 % m)))) (u2 mi 94 0 (nI (nxt z))) ml := by
  refine Con.mk (by decide) (Nat.le_of_ble_eq_true rfl) (fun γ X => ?_)
  have hnx := nxt_lt z
  show V γ o 2 mi ml 0 [(0, .ref (ads o (94))), (1, .int (nI (m)))] []
  refine r_aload_n X 0 d_Dr_next_0 rfl rfl ?_
  refine r_aload_n X 0 d_Dr_next_1 rfl rfl ?_
  refine r_get X f_Dr_7 b_94 e_94 (v := .int (nI (z))) (congrArg (fun z => some (Value.int z)) (hz)) d_Dr_next_2 ?_
  refine r_i2l X (v := lN z) d_Dr_next_5 (nI_l (by omega)) ?_
  refine r_ldc2 X (v := (1103515245 : Int64)) k_Dr_13 d_Dr_next_6 ?_
  refine r_lmul X (v := lN (z * 1103515245)) d_Dr_next_9 (lN_mul _ _) ?_
  refine r_ldc2 X (v := (12345 : Int64)) k_Dr_15 d_Dr_next_10 ?_
  refine r_ladd X (v := lN (z * 1103515245 + 12345)) d_Dr_next_13 (lN_add _ _) ?_
  refine r_ldc2 X (v := (2147483647 : Int64)) k_Dr_17 d_Dr_next_14 ?_
  refine r_land X (v := lN (nxt z)) d_Dr_next_17 (lN_mask31 _) ?_
  refine r_l2i X (v := nI (nxt z)) d_Dr_next_18 (lN_i _) ?_
  refine r_putI X fw_Dr_7 b_94 e_94 (fun _ _ => rfl) (Nat.le_of_ble_eq_true rfl) d_Dr_next_19 ?_
  refine r_aload_n X 0 d_Dr_next_22 rfl rfl ?_
  refine r_get X f_Dr_7 b_94 e_94 (v := .int (nI (nxt z))) (congrArg (fun z => some (Value.int z)) ((by rw [u2_s, uf_s]))) d_Dr_next_23 ?_
  refine r_ldc X (v := nI (65536)) k_Dr_19 (by decide) d_Dr_next_26 ?_
  refine r_idiv X (v := nI ((nxt z) / (65536))) d_Dr_next_28 (nI_ne0 (by omega) (Nat.le_of_ble_eq_true rfl)) (pk_div (nxt_lt _) (by omega) (Nat.le_of_ble_eq_true rfl)) ?_
  refine r_iload_n X 1 d_Dr_next_29 rfl rfl ?_
  refine r_iconst X (v := nI (1)) d_Dr_next_30 (by decide) ?_
  refine r_max X (by omega) (Nat.le_of_ble_eq_true rfl) w_Dr_20 (Nat.le_of_ble_eq_true rfl) (Nat.le_of_ble_eq_true rfl) d_Dr_next_31 ?_
  refine V.eq (st' := [.int (nI (m)), .int (nI ((nxt z) / (65536)))]) ?_ rfl rfl rfl (congrArg (fun zq => Value.int (nI zq) :: [.int (nI ((nxt z) / (65536)))]) (show (m) = (if decide (m < 1) then 1 else m) from by rw [if_neg (by simp; omega)]))
  refine r_irem X (v := nI (((nxt z) / (65536)) % (m))) d_Dr_next_34 (nI_ne0 (by omega) (by omega)) (pk_rem (by omega) (by omega) (by omega)) ?_
  refine r_end_i X d_Dr_next_35 ?_
  exact ⟨rfl, rfl, rfl⟩

set_option maxHeartbeats 4000000 in
set_option maxRecDepth 100000 in
theorem m_Pa_remember (l : Launch) (o : OM) (mi : MI) (ml : ML) (nx : Nat) (c : Nat) (n : Nat) (hnx : mi 4 1 = nI nx) (hnx20 : nx < 20) (hc : mi 4 2 = nI c) (hc20 : c ≤ 20) (hn : mi 1 2 = nI n) (hn40 : n ≤ 40) : ConD l y_Pa_remember c_Pa_remember 2 none 1 22 o [.ref (ads o (4)), .ref (ads o (1))] mi ml none (remI mi nx c n) (remL ml nx n) := by
  refine Con.mk (by decide) (Nat.le_of_ble_eq_true rfl) (fun γ X => ?_)
  show V γ o 2 mi ml 0 [(0, .ref (ads o (4))), (1, .ref (ads o (1)))] []
  refine r_aload_n X 0 d_Pa_remember_0 rfl rfl ?_
  refine r_get X f_Pa_11 b_4 e_4 (v := .ref (ads o (5))) rfl d_Pa_remember_1 ?_
  refine r_aload_n X 0 d_Pa_remember_4 rfl rfl ?_
  refine r_get X f_Pa_18 b_4 e_4 (v := .int (nI (nx))) (congrArg (fun z => some (Value.int z)) (hnx)) d_Pa_remember_5 ?_
  refine r_aaldS X (a := ads o (6 + 3 * nx)) b_5 e_5 (Nat.le_of_ble_eq_true rfl) (by omega) rfl d_Pa_remember_8 ?_
  refine r_aload_n X 1 d_Pa_remember_9 rfl rfl ?_
  refine r_callV X (m_St_become l o mi ml (6 + 3 * nx) 1 n (isSt.ring (k := nx) (by omega)) isSt.now (hn) hn40 (Or.inr (by omega))) ok_St_become w_Pa_22 rfl (isSt.ring (k := nx) (by omega)).b0 (isSt.ring (k := nx) (by omega)).e0 rfl ⟨Nat.le_of_ble_eq_true rfl, Nat.le_of_ble_eq_true rfl⟩ (rest := []) rfl (Nat.le_of_ble_eq_true rfl) d_Pa_remember_10 ?_
  refine kD (st' := []) rfl ?_
  refine r_aload_n X 0 d_Pa_remember_13 rfl rfl ?_
  refine r_aload_n X 0 d_Pa_remember_14 rfl rfl ?_
  refine r_get X f_Pa_18 b_4 e_4 (v := .int (nI (nx))) (congrArg (fun z => some (Value.int z)) ((by rw [bcI_n _ (by omega) (by omega)] <;> exact hnx))) d_Pa_remember_15 ?_
  refine r_iconst X (v := nI (1)) d_Pa_remember_18 (by decide) ?_
  refine r_iadd X (v := nI (nx + 1)) d_Pa_remember_19 (nI_add _ _) ?_
  refine r_bipush X (v := nI (20)) d_Pa_remember_20 (by decide) ?_
  have hJ_1 : V γ o 2 (bcI mi (6 + 3 * nx) 1 n) (bcL ml (6 + 3 * nx) 1 n) 35 [(0, .ref (ads o (4))), (1, .ref (ads o (1)))] [.int (nI (if decide (20 ≤ (nx + 1)) then 0 else nx + 1)), .ref (ads o (4))] := by
    refine r_putI X fw_Pa_18 b_4 e_4 (fun _ _ => rfl) (Nat.le_of_ble_eq_true rfl) d_Pa_remember_35 ?_
    refine r_aload_n X 0 d_Pa_remember_38 rfl rfl ?_
    refine r_aload_n X 0 d_Pa_remember_39 rfl rfl ?_
    refine r_get X f_Pa_26 b_4 e_4 (v := .int (nI (c))) (congrArg (fun z => some (Value.int z)) ((by rw [u2_s, uf_n _ _ (by decide)] <;> exact (by rw [bcI_n _ (by omega) (by omega)] <;> exact hc)))) d_Pa_remember_40 ?_
    refine r_iconst X (v := nI (1)) d_Pa_remember_43 (by decide) ?_
    refine r_iadd X (v := nI (c + 1)) d_Pa_remember_44 (nI_add _ _) ?_
    refine r_bipush X (v := nI (20)) d_Pa_remember_45 (by decide) ?_
    refine r_min X (by omega) (Nat.le_of_ble_eq_true rfl) w_Pa_29 (Nat.le_of_ble_eq_true rfl) (Nat.le_of_ble_eq_true rfl) d_Pa_remember_47 ?_
    refine r_putI X fw_Pa_26 b_4 e_4 (fun _ _ => rfl) (Nat.le_of_ble_eq_true rfl) d_Pa_remember_50 ?_
    refine r_end_v X d_Pa_remember_53 ?_
    exact ⟨rfl, rfl, rfl⟩
  refine r_icge X (tgt := 34) (c := 20 ≤ (nx + 1)) d_Pa_remember_22 (by decide) (nI_leI (Nat.le_of_ble_eq_true rfl) (by omega)) (fun c_22 => ?_) (fun c_22 => ?_)
  · -- taken
    refine r_iconst X (v := nI (0)) d_Pa_remember_34 (by decide) ?_
    exact V.eq hJ_1 rfl rfl rfl (by rw [show (nI (if decide (20 ≤ (nx + 1)) then 0 else nx + 1)) = (nI (0)) from by first | (simp only [eq_true c_22, decide_true, decide_false, Bool.not_true, Bool.not_false, Bool.true_and, Bool.false_and, Bool.and_true, Bool.and_false, Bool.true_or, Bool.false_or, Bool.or_true, Bool.or_false, if_true, if_false, ite_true, ite_false, cond_true, cond_false, Bool.false_eq_true, reduceIte]; done) | (simp [c_22]; done) | (simp_all; done)])
  · -- not taken
    refine r_aload_n X 0 d_Pa_remember_25 rfl rfl ?_
    refine r_get X f_Pa_18 b_4 e_4 (v := .int (nI (nx))) (congrArg (fun z => some (Value.int z)) ((by rw [bcI_n _ (by omega) (by omega)] <;> exact hnx))) d_Pa_remember_26 ?_
    refine r_iconst X (v := nI (1)) d_Pa_remember_29 (by decide) ?_
    refine r_iadd X (v := nI (nx + 1)) d_Pa_remember_30 (nI_add _ _) ?_
    refine r_goto X (tgt := 35) d_Pa_remember_31 (by decide) ?_
    exact V.eq hJ_1 rfl rfl rfl (by rw [show (nI (if decide (20 ≤ (nx + 1)) then 0 else nx + 1)) = (nI (nx + 1)) from by first | (simp only [eq_false c_22, decide_true, decide_false, Bool.not_true, Bool.not_false, Bool.true_and, Bool.false_and, Bool.and_true, Bool.and_false, Bool.true_or, Bool.false_or, Bool.or_true, Bool.or_false, if_true, if_false, ite_true, ite_false, cond_true, cond_false, Bool.false_eq_true, reduceIte]; done) | (simp [c_22]; done) | (simp_all; done)])

set_option maxHeartbeats 4000000 in
set_option maxRecDepth 100000 in
theorem m_Pa_bringBack (l : Launch) (o : OM) (mi : MI) (ml : ML) (q : Nat) (nx : Nat) (c : Nat) (nb : Nat) (hnx : mi 4 1 = nI nx) (hnx20 : nx < 20) (hc : mi 4 2 = nI c) (hc20 : c ≤ 20) (hq1 : 1 ≤ q) (hqc : q ≤ c) (hq20 : q ≤ 20) (hnb : mi (6 + 3 * (bkN nx q)) 2 = nI nb) (hnb40 : nb ≤ 40) : ConD l y_Pa_bringBack c_Pa_bringBack 3 none 1 22 o [.ref (ads o (4)), .int (nI (q)), .ref (ads o (1))] mi ml none (bcI (u2 (u2 mi 4 1 (nI (bkN nx q))) 4 2 (nI (c - q))) 1 (6 + 3 * (bkN nx q)) nb) (bcL ml 1 (6 + 3 * (bkN nx q)) nb) := by
  refine Con.mk (by decide) (Nat.le_of_ble_eq_true rfl) (fun γ X => ?_)
  show V γ o 3 mi ml 0 [(0, .ref (ads o (4))), (1, .int (nI (q))), (2, .ref (ads o (1)))] []
  refine r_aload_n X 0 d_Pa_bringBack_0 rfl rfl ?_
  refine r_aload_n X 0 d_Pa_bringBack_1 rfl rfl ?_
  refine r_get X f_Pa_18 b_4 e_4 (v := .int (nI (nx))) (congrArg (fun z => some (Value.int z)) (hnx)) d_Pa_bringBack_2 ?_
  refine r_iload_n X 1 d_Pa_bringBack_5 rfl rfl ?_
  have hJ_1 : V γ o 3 mi ml 27 [(0, .ref (ads o (4))), (1, .int (nI (q))), (2, .ref (ads o (1)))] [.int (nI (if decide (nx < q) then nx + 20 - q else nx - q)), .ref (ads o (4))] := by
    refine V.eq (st' := [.int (nI (bkN nx q)), .ref (ads o (4))]) ?_ rfl rfl rfl rfl
    refine r_putI X fw_Pa_18 b_4 e_4 (fun _ _ => rfl) (Nat.le_of_ble_eq_true rfl) d_Pa_bringBack_27 ?_
    refine r_aload_n X 0 d_Pa_bringBack_30 rfl rfl ?_
    refine r_dup X d_Pa_bringBack_31 rfl ?_
    refine r_get X f_Pa_26 b_4 e_4 (v := .int (nI (c))) (congrArg (fun z => some (Value.int z)) ((by rw [u2_s, uf_n _ _ (by decide)] <;> exact hc))) d_Pa_bringBack_32 ?_
    refine r_iload_n X 1 d_Pa_bringBack_35 rfl rfl ?_
    refine r_isub X (v := nI (c - q)) d_Pa_bringBack_36 (pk_sub (by omega)) ?_
    refine r_putI X fw_Pa_26 b_4 e_4 (fun _ _ => rfl) (Nat.le_of_ble_eq_true rfl) d_Pa_bringBack_37 ?_
    refine r_aload_n X 2 d_Pa_bringBack_40 rfl rfl ?_
    refine r_aload_n X 0 d_Pa_bringBack_41 rfl rfl ?_
    refine r_get X f_Pa_11 b_4 e_4 (v := .ref (ads o (5))) rfl d_Pa_bringBack_42 ?_
    refine r_aload_n X 0 d_Pa_bringBack_45 rfl rfl ?_
    refine r_get X f_Pa_18 b_4 e_4 (v := .int (nI (bkN nx q))) (congrArg (fun z => some (Value.int z)) ((by rw [u2_s, uf_n _ _ (by decide)] <;> exact (by rw [u2_s, uf_s])))) d_Pa_bringBack_46 ?_
    refine r_aaldS X (a := ads o (6 + 3 * (bkN nx q))) b_5 e_5 (Nat.le_of_ble_eq_true rfl) (bkN_lt hnx20 hq20 hq1) rfl d_Pa_bringBack_49 ?_
    refine r_callV X (m_St_become l o (u2 (u2 mi 4 1 (nI (bkN nx q))) 4 2 (nI (c - q))) ml 1 (6 + 3 * (bkN nx q)) nb isSt.now (isSt.ring (k := (bkN nx q)) (bkN_lt hnx20 hq20 hq1)) ((by rw [u2_n _ _ _ (by omega)] <;> exact (by rw [u2_n _ _ _ (by omega)] <;> exact hnb))) (by omega) (Or.inl (by omega))) ok_St_become w_Pa_22 rfl b_1 e_1 rfl ⟨Nat.le_of_ble_eq_true rfl, Nat.le_of_ble_eq_true rfl⟩ (rest := []) rfl (Nat.le_of_ble_eq_true rfl) d_Pa_bringBack_50 ?_
    refine kD (st' := []) rfl ?_
    refine r_end_v X d_Pa_bringBack_53 ?_
    exact ⟨rfl, rfl, rfl⟩
  refine r_iclt X (tgt := 18) (c := nx < q) d_Pa_bringBack_6 (by decide) (nI_ltI (by omega) (by omega)) (fun c_6 => ?_) (fun c_6 => ?_)
  · -- taken
    refine r_aload_n X 0 d_Pa_bringBack_18 rfl rfl ?_
    refine r_get X f_Pa_18 b_4 e_4 (v := .int (nI (nx))) (congrArg (fun z => some (Value.int z)) (hnx)) d_Pa_bringBack_19 ?_
    refine r_iload_n X 1 d_Pa_bringBack_22 rfl rfl ?_
    refine r_isub X (v := (nI (nx) - nI (q))) d_Pa_bringBack_23 (rfl) ?_
    refine r_bipush X (v := nI (20)) d_Pa_bringBack_24 (by decide) ?_
    refine r_iadd X (v := nI (nx + 20 - q)) d_Pa_bringBack_26 (sub_add20 (by omega)) ?_
    exact V.eq hJ_1 rfl rfl rfl (by rw [show (nI (if decide (nx < q) then nx + 20 - q else nx - q)) = (nI (nx + 20 - q)) from by first | (simp only [eq_true c_6, decide_true, decide_false, Bool.not_true, Bool.not_false, Bool.true_and, Bool.false_and, Bool.and_true, Bool.and_false, Bool.true_or, Bool.false_or, Bool.or_true, Bool.or_false, if_true, if_false, ite_true, ite_false, cond_true, cond_false, Bool.false_eq_true, reduceIte]; done) | (simp [c_6]; done) | (simp_all; done)])
  · -- not taken
    refine r_aload_n X 0 d_Pa_bringBack_9 rfl rfl ?_
    refine r_get X f_Pa_18 b_4 e_4 (v := .int (nI (nx))) (congrArg (fun z => some (Value.int z)) (hnx)) d_Pa_bringBack_10 ?_
    refine r_iload_n X 1 d_Pa_bringBack_13 rfl rfl ?_
    refine r_isub X (v := nI (nx - q)) d_Pa_bringBack_14 (pk_sub (by omega)) ?_
    refine r_goto X (tgt := 27) d_Pa_bringBack_15 (by decide) ?_
    exact V.eq hJ_1 rfl rfl rfl (by rw [show (nI (if decide (nx < q) then nx + 20 - q else nx - q)) = (nI (nx - q)) from by first | (simp only [eq_false c_6, decide_true, decide_false, Bool.not_true, Bool.not_false, Bool.true_and, Bool.false_and, Bool.and_true, Bool.and_false, Bool.true_or, Bool.false_or, Bool.or_true, Bool.or_false, if_true, if_false, ite_true, ite_false, cond_true, cond_false, Bool.false_eq_true, reduceIte]; done) | (simp [c_6]; done) | (simp_all; done)])

set_option maxHeartbeats 4000000 in
set_option maxRecDepth 100000 in
theorem m_Pa_forget (l : Launch) (o : OM) (mi : MI) (ml : ML)   : ConD l y_Pa_forget c_Pa_forget 1 none 0 0 o [.ref (ads o (4))] mi ml none (u2 mi 4 2 (nI 0)) ml := by
  refine Con.mk (by decide) (Nat.le_of_ble_eq_true rfl) (fun γ X => ?_)
  show V γ o 1 mi ml 0 [(0, .ref (ads o (4)))] []
  refine r_aload_n X 0 d_Pa_forget_0 rfl rfl ?_
  refine r_iconst X (v := nI (0)) d_Pa_forget_1 (by decide) ?_
  refine r_putI X fw_Pa_26 b_4 e_4 (fun _ _ => rfl) (Nat.le_of_ble_eq_true rfl) d_Pa_forget_2 ?_
  refine r_end_v X d_Pa_forget_5 ?_
  exact ⟨rfl, rfl, rfl⟩

set_option maxHeartbeats 4000000 in
set_option maxRecDepth 100000 in
theorem m_Pt_reach (l : Launch) (o : OM) (mi : MI) (ml : ML) (a : Nat) (c : Nat) (hQ : isPt a) (hc : mi a 2 = nI c) (hc8 : c ≤ 8) (hc1 : 1 ≤ c) : ConD l y_Pt_reach c_Pt_reach 1 (some .int) 0 0 o [.ref (ads o (a))] mi ml (some (.int (nI (c - 1)))) mi ml := by
  refine Con.mk (by decide) (Nat.le_of_ble_eq_true rfl) (fun γ X => ?_)
  show V γ o 1 mi ml 0 [(0, .ref (ads o (a)))] []
  refine r_aload_n X 0 d_Pt_reach_0 rfl rfl ?_
  refine r_get X f_Pt_19 hQ.b0 hQ.e0 (v := .int (nI (c))) (congrArg (fun z => some (Value.int z)) (hc)) d_Pt_reach_1 ?_
  refine r_iconst X (v := nI (1)) d_Pt_reach_4 (by decide) ?_
  refine r_isub X (v := nI (c - 1)) d_Pt_reach_5 (pk_sub (by omega)) ?_
  refine r_end_i X d_Pt_reach_6 ?_
  first | exact ⟨rfl, rfl, rfl⟩ | (refine ⟨?_, rfl, rfl⟩; simp_all)

set_option maxHeartbeats 4000000 in
set_option maxRecDepth 100000 in
theorem m_Pt_anyAlike (l : Launch) (o : OM) (mi : MI) (ml : ML) (a : Nat) (x : Int64) (c : Nat) (hQ : isPt a) (hc : mi a 2 = nI c) (hc8 : c ≤ 8) : ConD l y_Pt_anyAlike c_Pt_anyAlike 4 (some .boolean) 0 0 o [.ref (ads o (a)), .long (x)] mi ml (some (.int (bI (anyP x (ml (a + 2)) c)))) mi ml := by
  refine Con.mk (by decide) (Nat.le_of_ble_eq_true rfl) (fun γ X => ?_)
  show V γ o 4 mi ml 0 [(0, .ref (ads o (a))), (1, .long (x))] []
  refine r_iconst X (v := nI (0)) d_Pt_anyAlike_0 (by decide) ?_
  refine r_istore_n X [(3, .int (nI (0))), (0, .ref (ads o (a))), (1, .long (x))] d_Pt_anyAlike_1 rfl (Nat.le_of_ble_eq_true rfl) rfl ?_
  have L2_1 : ∀ (d_i i : Nat), i + d_i = c → (alB (fun p => !decide (x &&& ml (a + 2) p = 0)) (i) = true) → V γ o 4 mi ml 2 [(0, .ref (ads o (a))), (1, .long (x)), (3, .int (nI (i)))] [] := by
    intro d_i
    induction d_i with
    | zero =>
      intro i hi_L2_1 hr
      have he_L2_1 : c = i := by omega
      subst he_L2_1
      refine r_iload_n X 2 d_Pt_anyAlike_2 rfl rfl ?_
      refine r_aload_n X 0 d_Pt_anyAlike_3 rfl rfl ?_
      refine r_get X f_Pt_19 hQ.b0 hQ.e0 (v := .int (nI (c))) (congrArg (fun z => some (Value.int z)) (hc)) d_Pt_anyAlike_4 ?_
      refine r_icge X (tgt := 31) (c := c ≤ c) d_Pt_anyAlike_7 (by decide) (nI_leI (by omega) (by omega)) (fun c_7 => ?_) (fun c_7 => ?_)
      · -- taken
        refine r_iconst X (v := nI (0)) d_Pt_anyAlike_31 (by decide) ?_
        refine r_end_z X (rfl) d_Pt_anyAlike_32 ?_
        refine ⟨?_, rfl, rfl⟩; rw [show anyP x (ml (a + 2)) c = false from by unfold anyP; rw [hr]; rfl]; rfl
      · -- not taken
        exact False.elim (by omega)
    | succ d_i ih_L2_1 =>
      intro i hi_L2_1 hr
      have hlt_L2_1 : i < c := by omega
      refine r_iload_n X 2 d_Pt_anyAlike_2 rfl rfl ?_
      refine r_aload_n X 0 d_Pt_anyAlike_3 rfl rfl ?_
      refine r_get X f_Pt_19 hQ.b0 hQ.e0 (v := .int (nI (c))) (congrArg (fun z => some (Value.int z)) (hc)) d_Pt_anyAlike_4 ?_
      refine r_icge X (tgt := 31) (c := c ≤ i) d_Pt_anyAlike_7 (by decide) (nI_leI (by omega) (by omega)) (fun c_7_2 => ?_) (fun c_7_2 => ?_)
      · -- taken
        exact False.elim (by omega)
      · -- not taken
        refine r_lload_n X 1 d_Pt_anyAlike_10 rfl rfl ?_
        refine r_aload_n X 0 d_Pt_anyAlike_11 rfl rfl ?_
        refine r_get X f_Pt_15 hQ.b0 hQ.e0 (v := .ref (ads o (a + 2))) rfl d_Pt_anyAlike_12 ?_
        refine r_iload_n X 2 d_Pt_anyAlike_15 rfl rfl ?_
        refine r_lald X (v := ml (a + 2) i) hQ.b2 hQ.e2 (Nat.le_of_ble_eq_true rfl) (by omega) rfl d_Pt_anyAlike_16 ?_
        refine r_land X (v := (x) &&& (ml (a + 2) i)) d_Pt_anyAlike_17 (rfl) ?_
        refine r_lconst X (v := 0) d_Pt_anyAlike_18 (by decide) ?_
        refine r_lcmp X d_Pt_anyAlike_19 ?_
        refine r_ifneP X (tgt := 25) (c := ((x) &&& (ml (a + 2) i)) = 0) d_Pt_anyAlike_20 (by decide) (lg_cmp_eq _ _) (fun c_20 => ?_) (fun c_20 => ?_)
        · -- taken
          refine r_iinc X 2 (v := nI (i + 1)) [(3, .int (nI (i + 1))), (0, .ref (ads o (a))), (1, .long (x))] d_Pt_anyAlike_25 rfl (nI_add _ 1) (Nat.le_of_ble_eq_true rfl) rfl ?_
          refine r_goto X (tgt := 2) d_Pt_anyAlike_28 (by decide) ?_
          refine V.wk [1, 2, 0] (V.eq (ih_L2_1 (i + 1) (by omega) (by simp_all [alB])) ?_ ?_ ?_ rfl) (rfl : lv_pick _ [1, 2, 0] = [(0, .ref (ads o (a))), (1, .long (x)), (3, .int (nI (i + 1)))])
          · rfl
          · rfl
          · first | rfl | (simp_all [ct, lastB, alB, fromB]; done)
        · -- not taken
          refine r_iconst X (v := nI (1)) d_Pt_anyAlike_23 (by decide) ?_
          refine r_end_z X (rfl) d_Pt_anyAlike_24 ?_
          refine ⟨?_, rfl, rfl⟩; rw [show anyP x (ml (a + 2)) c = true from by unfold anyP; rw [alB_no (i := i + 1) (by simp_all [alB]) (by omega)]; rfl]; rfl
  refine V.wk [1, 2, 0] (V.eq (L2_1 (c - 0) 0 (by omega) (rfl)) ?_ ?_ ?_ rfl) (rfl : lv_pick _ [1, 2, 0] = [(0, .ref (ads o (a))), (1, .long (x)), (3, .int (nI (0)))])
  · rfl
  · rfl
  · rfl

set_option maxHeartbeats 4000000 in
set_option maxRecDepth 100000 in
theorem m_Pt_turnOf (l : Launch) (o : OM) (mi : MI) (ml : ML) (p : Nat) (P : Nat) (h : Nat) (hP1 : 1 ≤ P) (hP8 : P ≤ 8) (hp : p < P) (hh : h < 3) : ConD l y_Pt_turnOf c_Pt_turnOf 3 (some .int) 0 0 o [.int (nI (p)), .int (nI (P)), .int (nI (h))] mi ml (some (.int (nI (turnO p P h)))) mi ml := by
  refine Con.mk (by decide) (Nat.le_of_ble_eq_true rfl) (fun γ X => ?_)
  show V γ o 3 mi ml 0 [(0, .int (nI (p))), (1, .int (nI (P))), (2, .int (nI (h)))] []
  refine r_iload_n X 2 d_Pt_turnOf_0 rfl rfl ?_
  refine r_ifneP X (tgt := 6) (c := h = 0) d_Pt_turnOf_1 (by decide) ((by rw [← nI_0] <;> exact nI_eq (by omega) (Nat.le_of_ble_eq_true rfl))) (fun c_1 => ?_) (fun c_1 => ?_)
  · -- taken
    refine r_iload_n X 2 d_Pt_turnOf_6 rfl rfl ?_
    refine r_iconst X (v := nI (1)) d_Pt_turnOf_7 (by decide) ?_
    refine r_icneP X (tgt := 17) (c := h = 1) d_Pt_turnOf_8 (by decide) (nI_eq (by omega) (Nat.le_of_ble_eq_true rfl)) (fun c_8 => ?_) (fun c_8 => ?_)
    · -- taken
      refine r_iload_n X 0 d_Pt_turnOf_17 rfl rfl ?_
      refine r_iconst X (v := nI (2)) d_Pt_turnOf_18 (by decide) ?_
      refine r_irem X (v := nI ((p) % (2))) d_Pt_turnOf_19 (nI_ne0 (by omega) (Nat.le_of_ble_eq_true rfl)) (pk_rem (by omega) (by omega) (Nat.le_of_ble_eq_true rfl)) ?_
      have hJ_1 : V γ o 3 mi ml 38 [(0, .int (nI (p))), (1, .int (nI (P))), (2, .int (nI (h)))] [.int (nI (if decide (((p) % (2)) = 0) then (p) / (2) else (P + 1) / (2) + ((p) / (2))))] := by
        refine r_end_i X d_Pt_turnOf_38 ?_
        refine ⟨?_, rfl, rfl⟩; unfold turnO; simp_all
      refine r_ifneP X (tgt := 29) (c := ((p) % (2)) = 0) d_Pt_turnOf_20 (by decide) ((by rw [← nI_0] <;> exact nI_eq (by omega) (Nat.le_of_ble_eq_true rfl))) (fun c_20 => ?_) (fun c_20 => ?_)
      · -- taken
        refine r_iload_n X 1 d_Pt_turnOf_29 rfl rfl ?_
        refine r_iconst X (v := nI (1)) d_Pt_turnOf_30 (by decide) ?_
        refine r_iadd X (v := nI (P + 1)) d_Pt_turnOf_31 (nI_add _ _) ?_
        refine r_iconst X (v := nI (2)) d_Pt_turnOf_32 (by decide) ?_
        refine r_idiv X (v := nI ((P + 1) / (2))) d_Pt_turnOf_33 (nI_ne0 (by omega) (Nat.le_of_ble_eq_true rfl)) (pk_div (by omega) (by omega) (Nat.le_of_ble_eq_true rfl)) ?_
        refine r_iload_n X 0 d_Pt_turnOf_34 rfl rfl ?_
        refine r_iconst X (v := nI (2)) d_Pt_turnOf_35 (by decide) ?_
        refine r_idiv X (v := nI ((p) / (2))) d_Pt_turnOf_36 (nI_ne0 (by omega) (Nat.le_of_ble_eq_true rfl)) (pk_div (by omega) (by omega) (Nat.le_of_ble_eq_true rfl)) ?_
        refine r_iadd X (v := nI ((P + 1) / (2) + ((p) / (2)))) d_Pt_turnOf_37 (nI_add _ _) ?_
        exact V.eq hJ_1 rfl rfl rfl (by rw [show (nI (if decide (((p) % (2)) = 0) then (p) / (2) else (P + 1) / (2) + ((p) / (2)))) = (nI ((P + 1) / (2) + ((p) / (2)))) from by first | (simp only [eq_false c_20, decide_true, decide_false, Bool.not_true, Bool.not_false, Bool.true_and, Bool.false_and, Bool.and_true, Bool.and_false, Bool.true_or, Bool.false_or, Bool.or_true, Bool.or_false, if_true, if_false, ite_true, ite_false, cond_true, cond_false, Bool.false_eq_true, reduceIte]; done) | (simp [c_20]; done) | (simp_all; done)])
      · -- not taken
        refine r_iload_n X 0 d_Pt_turnOf_23 rfl rfl ?_
        refine r_iconst X (v := nI (2)) d_Pt_turnOf_24 (by decide) ?_
        refine r_idiv X (v := nI ((p) / (2))) d_Pt_turnOf_25 (nI_ne0 (by omega) (Nat.le_of_ble_eq_true rfl)) (pk_div (by omega) (by omega) (Nat.le_of_ble_eq_true rfl)) ?_
        refine r_goto X (tgt := 38) d_Pt_turnOf_26 (by decide) ?_
        exact V.eq hJ_1 rfl rfl rfl (by rw [show (nI (if decide (((p) % (2)) = 0) then (p) / (2) else (P + 1) / (2) + ((p) / (2)))) = (nI ((p) / (2))) from by first | (simp only [eq_true c_20, decide_true, decide_false, Bool.not_true, Bool.not_false, Bool.true_and, Bool.false_and, Bool.and_true, Bool.and_false, Bool.true_or, Bool.false_or, Bool.or_true, Bool.or_false, if_true, if_false, ite_true, ite_false, cond_true, cond_false, Bool.false_eq_true, reduceIte]; done) | (simp [c_20]; done) | (simp_all; done)])
    · -- not taken
      refine r_iload_n X 1 d_Pt_turnOf_11 rfl rfl ?_
      refine r_iconst X (v := nI (1)) d_Pt_turnOf_12 (by decide) ?_
      refine r_isub X (v := nI (P - 1)) d_Pt_turnOf_13 (pk_sub (by omega)) ?_
      refine r_iload_n X 0 d_Pt_turnOf_14 rfl rfl ?_
      refine r_isub X (v := nI (P - 1 - p)) d_Pt_turnOf_15 (pk_sub (by omega)) ?_
      refine r_end_i X d_Pt_turnOf_16 ?_
      refine ⟨?_, rfl, rfl⟩; unfold turnO; simp_all
  · -- not taken
    refine r_iload_n X 0 d_Pt_turnOf_4 rfl rfl ?_
    refine r_end_i X d_Pt_turnOf_5 ?_
    refine ⟨?_, rfl, rfl⟩; unfold turnO; simp_all

set_option maxHeartbeats 4000000 in
set_option maxRecDepth 100000 in
theorem m_Pt_beginAt (l : Launch) (o : OM) (mi : MI) (ml : ML) (a : Nat) (x : Int64) (hQ : isPt a) (hx0 : bt x 0 = true) (hx8 : pop x ≤ 8) : Con l y_Pt_beginAt c_Pt_beginAt 4 none 1 22 o [.ref (ads o (a)), .long (x)] mi ml (fun v m z => v = none ∧ PtOK m z a x ∧ (∀ t, t ≠ a → t ≠ a + 1 → m t = mi t) ∧ ∀ t, t ≠ a + 2 → z t = ml t) := by
  refine Con.mk (by decide) (Nat.le_of_ble_eq_true rfl) (fun γ X => ?_)
  show V γ o 4 mi ml 0 [(0, .ref (ads o (a))), (1, .long (x))] []
  refine r_aload_n X 0 d_Pt_beginAt_0 rfl rfl ?_
  refine r_iconst X (v := nI (0)) d_Pt_beginAt_1 (by decide) ?_
  refine r_putI X fw_Pt_19 hQ.b0 hQ.e0 (fun _ _ => rfl) (Nat.le_of_ble_eq_true rfl) d_Pt_beginAt_2 ?_
  refine r_iconst X (v := nI (0)) d_Pt_beginAt_5 (by decide) ?_
  refine r_istore_n X [(3, .int (nI (0))), (0, .ref (ads o (a))), (1, .long (x))] d_Pt_beginAt_6 rfl (Nat.le_of_ble_eq_true rfl) rfl ?_
  have L7_1 : ∀ (d_i i : Nat), i + d_i = 64 → ∀ (mi_L7_1 : MI), ∀ (ml_L7_1 : ML), (∀ t, t ≠ a → t ≠ a + 1 → mi_L7_1 t = mi t) → (∀ t, t ≠ a + 2 → ml_L7_1 t = ml t) → (ptI mi_L7_1 a x i) → (ptL ml_L7_1 a x i) → V γ o 4 mi_L7_1 ml_L7_1 7 [(0, .ref (ads o (a))), (1, .long (x)), (3, .int (nI (i)))] [] := by
    intro d_i
    induction d_i with
    | zero =>
      intro i hi_L7_1 mi_L7_1 ml_L7_1 hf hg hI hL
      have he_L7_1 : 64 = i := by omega
      subst he_L7_1
      refine r_iload_n X 2 d_Pt_beginAt_7 rfl rfl ?_
      refine r_bipush X (v := nI (64)) d_Pt_beginAt_8 (by decide) ?_
      refine r_icge X (tgt := 90) (c := 64 ≤ 64) d_Pt_beginAt_10 (by decide) (nI_leI (Nat.le_of_ble_eq_true rfl) (by omega)) (fun c_10 => ?_) (fun c_10 => ?_)
      · -- taken
        refine r_end_v X d_Pt_beginAt_90 ?_
        exact ⟨rfl, ⟨hI.1, hI.2, fun p hp j hj => by rw [hL p hp j hj, mk_end hj]⟩, hf, hg⟩
      · -- not taken
        exact False.elim (by omega)
    | succ d_i ih_L7_1 =>
      intro i hi_L7_1 mi_L7_1 ml_L7_1 hf hg hI hL
      have hlt_L7_1 : i < 64 := by omega
      have hm1 := ct_mono (bt x) (show i + 1 ≤ 64 by omega)
      have hm2 : ct (bt x) i + (bt x i).toNat ≤ pop x := hm1
      have hm3 : 1 ≤ i → 1 ≤ ct (bt x) i := fun h => by have := ct_mono (bt x) h; rw [show ct (bt x) 1 = 1 from by rw [ct_t hx0]; rfl] at this; exact this
      have hm4 : i = 0 → bt x i = true := fun h => by rw [h]; exact hx0
      refine r_iload_n X 2 d_Pt_beginAt_7 rfl rfl ?_
      refine r_bipush X (v := nI (64)) d_Pt_beginAt_8 (by decide) ?_
      refine r_icge X (tgt := 90) (c := 64 ≤ i) d_Pt_beginAt_10 (by decide) (nI_leI (Nat.le_of_ble_eq_true rfl) (by omega)) (fun c_10_2 => ?_) (fun c_10_2 => ?_)
      · -- taken
        exact False.elim (by omega)
      · -- not taken
        refine r_lload_n X 1 d_Pt_beginAt_13 rfl rfl ?_
        refine r_iload_n X 2 d_Pt_beginAt_14 rfl rfl ?_
        refine r_callN X (m_Nm_hasBit l o mi_L7_1 ml_L7_1 x i (by omega)) ok_Nm_hasBit (host := "NearMarks") (by decide +kernel) rfl ⟨Nat.le_of_ble_eq_true rfl, Nat.le_of_ble_eq_true rfl⟩ (rest := []) rfl (Nat.le_of_ble_eq_true rfl) d_Pt_beginAt_15 ?_
        refine kD (st' := [.int (bI (bt x i))]) rfl ?_
        refine r_ifeqB X (tgt := 60) (b := bt x i) d_Pt_beginAt_18 (by decide) (fun c_18 => ?_) (fun c_18 => ?_)
        · -- taken
          refine r_aload_n X 0 d_Pt_beginAt_60 rfl rfl ?_
          refine r_get X f_Pt_19 hQ.b0 hQ.e0 (v := .int (nI (ct (bt x) i))) (congrArg (fun z => some (Value.int z)) (hI.1)) d_Pt_beginAt_61 ?_
          refine r_ifle X (tgt := 84) (c := (ct (bt x) i) ≤ 0) d_Pt_beginAt_64 (by decide) ((by rw [← nI_0] <;> exact nI_leI (by omega) (Nat.le_of_ble_eq_true rfl))) (fun c_64 => ?_) (fun c_64 => ?_)
          · -- taken
            exact False.elim (by have e : ¬ i = 0 := fun h => (by have := hm4 h; simp_all); have := hm3 (by omega); omega)
          · -- not taken
            refine r_aload_n X 0 d_Pt_beginAt_67 rfl rfl ?_
            refine r_get X f_Pt_15 hQ.b0 hQ.e0 (v := .ref (ads o (a + 2))) rfl d_Pt_beginAt_68 ?_
            refine r_aload_n X 0 d_Pt_beginAt_71 rfl rfl ?_
            refine r_get X f_Pt_19 hQ.b0 hQ.e0 (v := .int (nI (ct (bt x) i))) (congrArg (fun z => some (Value.int z)) (hI.1)) d_Pt_beginAt_72 ?_
            refine r_iconst X (v := nI (1)) d_Pt_beginAt_75 (by decide) ?_
            refine r_isub X (v := nI (ct (bt x) i - 1)) d_Pt_beginAt_76 (pk_sub (by omega)) ?_
            refine r_dup2_11 X d_Pt_beginAt_77 rfl rfl ?_
            refine r_lald X (v := ml_L7_1 (a + 2) (ct (bt x) i - 1)) hQ.b2 hQ.e2 (Nat.le_of_ble_eq_true rfl) (by omega) rfl d_Pt_beginAt_78 ?_
            refine r_lconst X (v := 1) d_Pt_beginAt_79 (by decide) ?_
            refine r_iload_n X 2 d_Pt_beginAt_80 rfl rfl ?_
            refine r_lshl X (v := shl (1) (i)) d_Pt_beginAt_81 (rfl) ?_
            refine r_lor X (v := (ml_L7_1 (a + 2) (ct (bt x) i - 1)) ||| (shl (1) (i))) d_Pt_beginAt_82 (rfl) ?_
            refine r_last X hQ.b2 hQ.e2 (Nat.le_of_ble_eq_true rfl) (by omega) d_Pt_beginAt_83 ?_
            refine r_iinc X 2 (v := nI (i + 1)) [(3, .int (nI (i + 1))), (0, .ref (ads o (a))), (1, .long (x))] d_Pt_beginAt_84 rfl (nI_add _ 1) (Nat.le_of_ble_eq_true rfl) rfl ?_
            refine r_goto X (tgt := 7) d_Pt_beginAt_87 (by decide) ?_
            refine V.wk [1, 2, 0] (V.eq (ih_L7_1 (i + 1) (by omega) (mi_L7_1) ((u2 ml_L7_1 (a + 2) (ct (bt x) i - 1) ((ml_L7_1 (a + 2) (ct (bt x) i - 1)) ||| (shl (1) (i))))) (hf) (fun t h1 => by rw [u2_n _ _ _ h1]; exact hg t h1) (pt_miss_I (by assumption) hI) (pt_miss_L hlt_L7_1 (by assumption) (by omega) hL)) ?_ ?_ ?_ rfl) (rfl : lv_pick _ [1, 2, 0] = [(0, .ref (ads o (a))), (1, .long (x)), (3, .int (nI (i + 1)))])
            · rfl
            · rfl
            · first | rfl | (simp_all [ct, lastB, alB, fromB]; done)
        · -- not taken
          refine r_aload_n X 0 d_Pt_beginAt_21 rfl rfl ?_
          refine r_get X f_Pt_19 hQ.b0 hQ.e0 (v := .int (nI (ct (bt x) i))) (congrArg (fun z => some (Value.int z)) (hI.1)) d_Pt_beginAt_22 ?_
          refine r_bipush X (v := nI (8)) d_Pt_beginAt_25 (by decide) ?_
          refine r_icge X (tgt := 60) (c := 8 ≤ (ct (bt x) i)) d_Pt_beginAt_27 (by decide) (nI_leI (Nat.le_of_ble_eq_true rfl) (by omega)) (fun c_27 => ?_) (fun c_27 => ?_)
          · -- taken
            exact False.elim (by have e : (bt x i).toNat = 1 := (by simp_all); omega)
          · -- not taken
            refine r_aload_n X 0 d_Pt_beginAt_30 rfl rfl ?_
            refine r_get X f_Pt_9 hQ.b0 hQ.e0 (v := .ref (ads o (a + 1))) rfl d_Pt_beginAt_31 ?_
            refine r_aload_n X 0 d_Pt_beginAt_34 rfl rfl ?_
            refine r_get X f_Pt_19 hQ.b0 hQ.e0 (v := .int (nI (ct (bt x) i))) (congrArg (fun z => some (Value.int z)) (hI.1)) d_Pt_beginAt_35 ?_
            refine r_iload_n X 2 d_Pt_beginAt_38 rfl rfl ?_
            refine r_iast X hQ.b1 hQ.e1 (Nat.le_of_ble_eq_true rfl) (by have e : (bt x i).toNat = 1 := (by simp_all); omega) d_Pt_beginAt_39 ?_
            refine r_aload_n X 0 d_Pt_beginAt_40 rfl rfl ?_
            refine r_get X f_Pt_15 hQ.b0 hQ.e0 (v := .ref (ads o (a + 2))) rfl d_Pt_beginAt_41 ?_
            refine r_aload_n X 0 d_Pt_beginAt_44 rfl rfl ?_
            refine r_get X f_Pt_19 hQ.b0 hQ.e0 (v := .int (nI (ct (bt x) i))) (congrArg (fun z => some (Value.int z)) ((by rw [u2_n _ _ _ (by omega)] <;> exact hI.1))) d_Pt_beginAt_45 ?_
            refine r_lconst X (v := 0) d_Pt_beginAt_48 (by decide) ?_
            refine r_last X hQ.b2 hQ.e2 (Nat.le_of_ble_eq_true rfl) (by have e : (bt x i).toNat = 1 := (by simp_all); omega) d_Pt_beginAt_49 ?_
            refine r_aload_n X 0 d_Pt_beginAt_50 rfl rfl ?_
            refine r_dup X d_Pt_beginAt_51 rfl ?_
            refine r_get X f_Pt_19 hQ.b0 hQ.e0 (v := .int (nI (ct (bt x) i))) (congrArg (fun z => some (Value.int z)) ((by rw [u2_n _ _ _ (by omega)] <;> exact hI.1))) d_Pt_beginAt_52 ?_
            refine r_iconst X (v := nI (1)) d_Pt_beginAt_55 (by decide) ?_
            refine r_iadd X (v := nI (ct (bt x) i + 1)) d_Pt_beginAt_56 (nI_add _ _) ?_
            refine r_putI X fw_Pt_19 hQ.b0 hQ.e0 (fun _ _ => rfl) (Nat.le_of_ble_eq_true rfl) d_Pt_beginAt_57 ?_
            refine r_aload_n X 0 d_Pt_beginAt_60 rfl rfl ?_
            refine r_get X f_Pt_19 hQ.b0 hQ.e0 (v := .int (nI (ct (bt x) i + 1))) (congrArg (fun z => some (Value.int z)) ((by rw [u2_s, uf_s]))) d_Pt_beginAt_61 ?_
            refine r_ifle X (tgt := 84) (c := (ct (bt x) i + 1) ≤ 0) d_Pt_beginAt_64 (by decide) ((by rw [← nI_0] <;> exact nI_leI (by omega) (Nat.le_of_ble_eq_true rfl))) (fun c_64_3 => ?_) (fun c_64_3 => ?_)
            · -- taken
              exact False.elim (by omega)
            · -- not taken
              refine r_aload_n X 0 d_Pt_beginAt_67 rfl rfl ?_
              refine r_get X f_Pt_15 hQ.b0 hQ.e0 (v := .ref (ads o (a + 2))) rfl d_Pt_beginAt_68 ?_
              refine r_aload_n X 0 d_Pt_beginAt_71 rfl rfl ?_
              refine r_get X f_Pt_19 hQ.b0 hQ.e0 (v := .int (nI (ct (bt x) i + 1))) (congrArg (fun z => some (Value.int z)) ((by rw [u2_s, uf_s]))) d_Pt_beginAt_72 ?_
              refine r_iconst X (v := nI (1)) d_Pt_beginAt_75 (by decide) ?_
              refine r_isub X (v := nI (ct (bt x) i)) d_Pt_beginAt_76 (pk_sub (a := ct (bt x) i + 1) (b := 1) (by omega)) ?_
              refine r_dup2_11 X d_Pt_beginAt_77 rfl rfl ?_
              refine r_lald X (v := 0) hQ.b2 hQ.e2 (Nat.le_of_ble_eq_true rfl) (by omega) ((by rw [u2_s, uf_s])) d_Pt_beginAt_78 ?_
              refine r_lconst X (v := 1) d_Pt_beginAt_79 (by decide) ?_
              refine r_iload_n X 2 d_Pt_beginAt_80 rfl rfl ?_
              refine r_lshl X (v := shl (1) (i)) d_Pt_beginAt_81 (rfl) ?_
              refine r_lor X (v := (0) ||| (shl (1) (i))) d_Pt_beginAt_82 (rfl) ?_
              refine r_last X hQ.b2 hQ.e2 (Nat.le_of_ble_eq_true rfl) (by omega) d_Pt_beginAt_83 ?_
              refine r_iinc X 2 (v := nI (i + 1)) [(3, .int (nI (i + 1))), (0, .ref (ads o (a))), (1, .long (x))] d_Pt_beginAt_84 rfl (nI_add _ 1) (Nat.le_of_ble_eq_true rfl) rfl ?_
              refine r_goto X (tgt := 7) d_Pt_beginAt_87 (by decide) ?_
              refine V.wk [1, 2, 0] (V.eq (ih_L7_1 (i + 1) (by omega) ((u2 (u2 mi_L7_1 (a + 1) (ct (bt x) i) (nI (i))) a 2 (nI (ct (bt x) i + 1)))) ((u2 (u2 ml_L7_1 (a + 2) (ct (bt x) i) (0)) (a + 2) (ct (bt x) i) ((0) ||| (shl (1) (i))))) (fun t h1 h2 => by rw [u2_n _ _ _ h1, u2_n _ _ _ h2]; exact hf t h1 h2) (fun t h1 => by rw [u2_n _ _ _ h1, u2_n _ _ _ h1]; exact hg t h1) (pt_hit_I hlt_L7_1 (by assumption) hI) (pt_hit_L hlt_L7_1 (by assumption) hL)) ?_ ?_ ?_ rfl) (rfl : lv_pick _ [1, 2, 0] = [(0, .ref (ads o (a))), (1, .long (x)), (3, .int (nI (i + 1)))])
              · rfl
              · rfl
              · first | rfl | (simp_all [ct, lastB, alB, fromB]; done)
  refine V.wk [1, 2, 0] (V.eq (L7_1 (64 - 0) 0 (by omega) ((u2 mi a 2 (nI (0)))) (ml) (fun t h1 h2 => by rw [u2_n _ _ _ h1]) (fun _ _ => rfl) (⟨by rw [u2_s, uf_s]; rfl, fun p hp => absurd hp (Nat.not_lt_zero p)⟩) (fun p hp => absurd hp (Nat.not_lt_zero p))) ?_ ?_ ?_ rfl) (rfl : lv_pick _ [1, 2, 0] = [(0, .ref (ads o (a))), (1, .long (x)), (3, .int (nI (0)))])
  · rfl
  · rfl
  · rfl
