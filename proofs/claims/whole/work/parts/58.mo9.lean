set_option maxHeartbeats 4000000 in
set_option maxRecDepth 100000 in
theorem m_Mo_lay_b (l : Launch) (o : OM) (mi : MI) (ml : ML) (p : Nat) (hp : p < 20) : ConD l y_Mo_lay c_Mo_lay 5 none 0 0 o [.ref (ads o (95)), .ref (ads o (98)), .ref (ads o (99)), .int (nI (p))] mi ml none (cpL mi 99 (40 * p) 97 0 (40)) (cpL ml 98 (43 * p) 96 0 (43)) := by
  refine Con.mk (by decide) (Nat.le_of_ble_eq_true rfl) (fun γ X => ?_)
  show V γ o 5 mi ml 0 [(0, .ref (ads o (95))), (1, .ref (ads o (98))), (2, .ref (ads o (99))), (3, .int (nI (p)))] []
  refine r_iconst X (v := nI (0)) d_Mo_lay_0 (by decide) ?_
  refine r_istore X [(4, .int (nI (0))), (0, .ref (ads o (95))), (1, .ref (ads o (98))), (2, .ref (ads o (99))), (3, .int (nI (p)))] d_Mo_lay_1 (Nat.le_of_ble_eq_true rfl) rfl ?_
  have L3_1 : ∀ (d_i i : Nat), i + d_i = 43 → V γ o 5 mi (cpL ml 98 (43 * p) 96 0 (i)) 3 [(0, .ref (ads o (95))), (1, .ref (ads o (98))), (2, .ref (ads o (99))), (3, .int (nI (p))), (4, .int (nI (i)))] [] := by
    intro d_i
    induction d_i with
    | zero =>
      intro i hi_L3_1 
      have he_L3_1 : 43 = i := by omega
      subst he_L3_1
      refine r_iload X 4 d_Mo_lay_3 rfl ?_
      refine r_bipush X (v := nI (43)) d_Mo_lay_5 (by decide) ?_
      refine r_icge X (tgt := 32) (c := 43 ≤ 43) d_Mo_lay_7 (by decide) (nI_leI (Nat.le_of_ble_eq_true rfl) (by omega)) (fun c_7 => ?_) (fun c_7 => ?_)
      · -- taken
        refine r_iconst X (v := nI (0)) d_Mo_lay_32 (by decide) ?_
        refine r_istore X [(4, .int (nI (0))), (0, .ref (ads o (95))), (1, .ref (ads o (98))), (2, .ref (ads o (99))), (3, .int (nI (p)))] d_Mo_lay_33 (Nat.le_of_ble_eq_true rfl) rfl ?_
        have L35_2 : ∀ (d_i i : Nat), i + d_i = 40 → V γ o 5 (cpL mi 99 (40 * p) 97 0 (i)) (cpL ml 98 (43 * p) 96 0 (43)) 35 [(0, .ref (ads o (95))), (1, .ref (ads o (98))), (2, .ref (ads o (99))), (3, .int (nI (p))), (4, .int (nI (i)))] [] := by
          intro d_i
          induction d_i with
          | zero =>
            intro i hi_L35_2 
            have he_L35_2 : 40 = i := by omega
            subst he_L35_2
            refine r_iload X 4 d_Mo_lay_35 rfl ?_
            refine r_bipush X (v := nI (40)) d_Mo_lay_37 (by decide) ?_
            refine r_icge X (tgt := 64) (c := 40 ≤ 40) d_Mo_lay_39 (by decide) (nI_leI (Nat.le_of_ble_eq_true rfl) (by omega)) (fun c_39 => ?_) (fun c_39 => ?_)
            · -- taken
              refine r_end_v X d_Mo_lay_64 ?_
              exact ⟨rfl, rfl, rfl⟩
            · -- not taken
              exact False.elim (by omega)
          | succ d_i ih_L35_2 =>
            intro i hi_L35_2 
            have hlt_L35_2 : i < 40 := by omega
            refine r_iload X 4 d_Mo_lay_35 rfl ?_
            refine r_bipush X (v := nI (40)) d_Mo_lay_37 (by decide) ?_
            refine r_icge X (tgt := 64) (c := 40 ≤ i) d_Mo_lay_39 (by decide) (nI_leI (Nat.le_of_ble_eq_true rfl) (by omega)) (fun c_39_3 => ?_) (fun c_39_3 => ?_)
            · -- taken
              exact False.elim (by omega)
            · -- not taken
              refine r_aload_n X 2 d_Mo_lay_42 rfl rfl ?_
              refine r_bipush X (v := nI (40)) d_Mo_lay_43 (by decide) ?_
              refine r_iload_n X 3 d_Mo_lay_45 rfl rfl ?_
              refine r_imul X (v := nI (40 * p)) d_Mo_lay_46 (pk_mul _ _) ?_
              refine r_iload X 4 d_Mo_lay_47 rfl ?_
              refine r_iadd X (v := nI (40 * p + i)) d_Mo_lay_49 (nI_add _ _) ?_
              refine r_aload_n X 0 d_Mo_lay_50 rfl rfl ?_
              refine r_get X f_Mo_13 b_95 e_95 (v := .ref (ads o (97))) rfl d_Mo_lay_51 ?_
              refine r_iload X 4 d_Mo_lay_54 rfl ?_
              refine r_iald X (v := ((cpL mi 99 (40 * p) 97 0 (i)) 97 i)) b_97 e_97 (Nat.le_of_ble_eq_true rfl) (by omega) rfl d_Mo_lay_56 ?_
              refine r_iast X b_99 e_99 (Nat.le_of_ble_eq_true rfl) (by omega) d_Mo_lay_57 ?_
              refine r_iinc X 4 (v := nI (i + 1)) [(4, .int (nI (i + 1))), (0, .ref (ads o (95))), (1, .ref (ads o (98))), (2, .ref (ads o (99))), (3, .int (nI (p)))] d_Mo_lay_58 rfl (nI_add _ 1) (Nat.le_of_ble_eq_true rfl) rfl ?_
              refine r_goto X (tgt := 35) d_Mo_lay_61 (by decide) ?_
              refine V.wk [1, 2, 3, 4, 0] (V.eq (ih_L35_2 (i + 1) (by omega) ) ?_ ?_ ?_ rfl) (rfl : lv_pick _ [1, 2, 3, 4, 0] = [(0, .ref (ads o (95))), (1, .ref (ads o (98))), (2, .ref (ads o (99))), (3, .int (nI (p))), (4, .int (nI (i + 1)))])
              · exact cpL_step mi (by decide) rfl (Nat.zero_add _).symm
              · rfl
              · rfl
        refine V.wk [1, 2, 3, 4, 0] (V.eq (L35_2 (40 - 0) 0 (by omega) ) ?_ ?_ ?_ rfl) (rfl : lv_pick _ [1, 2, 3, 4, 0] = [(0, .ref (ads o (95))), (1, .ref (ads o (98))), (2, .ref (ads o (99))), (3, .int (nI (p))), (4, .int (nI (0)))])
        · exact cpL_0 _ _ _ _ _
        · rfl
        · rfl
      · -- not taken
        exact False.elim (by omega)
    | succ d_i ih_L3_1 =>
      intro i hi_L3_1 
      have hlt_L3_1 : i < 43 := by omega
      refine r_iload X 4 d_Mo_lay_3 rfl ?_
      refine r_bipush X (v := nI (43)) d_Mo_lay_5 (by decide) ?_
      refine r_icge X (tgt := 32) (c := 43 ≤ i) d_Mo_lay_7 (by decide) (nI_leI (Nat.le_of_ble_eq_true rfl) (by omega)) (fun c_7_4 => ?_) (fun c_7_4 => ?_)
      · -- taken
        exact False.elim (by omega)
      · -- not taken
        refine r_aload_n X 1 d_Mo_lay_10 rfl rfl ?_
        refine r_bipush X (v := nI (43)) d_Mo_lay_11 (by decide) ?_
        refine r_iload_n X 3 d_Mo_lay_13 rfl rfl ?_
        refine r_imul X (v := nI (43 * p)) d_Mo_lay_14 (pk_mul _ _) ?_
        refine r_iload X 4 d_Mo_lay_15 rfl ?_
        refine r_iadd X (v := nI (43 * p + i)) d_Mo_lay_17 (nI_add _ _) ?_
        refine r_aload_n X 0 d_Mo_lay_18 rfl rfl ?_
        refine r_get X f_Mo_7 b_95 e_95 (v := .ref (ads o (96))) rfl d_Mo_lay_19 ?_
        refine r_iload X 4 d_Mo_lay_22 rfl ?_
        refine r_lald X (v := (cpL ml 98 (43 * p) 96 0 (i)) 96 i) b_96 e_96 (Nat.le_of_ble_eq_true rfl) (by omega) rfl d_Mo_lay_24 ?_
        refine r_last X b_98 e_98 (Nat.le_of_ble_eq_true rfl) (by omega) d_Mo_lay_25 ?_
        refine r_iinc X 4 (v := nI (i + 1)) [(4, .int (nI (i + 1))), (0, .ref (ads o (95))), (1, .ref (ads o (98))), (2, .ref (ads o (99))), (3, .int (nI (p)))] d_Mo_lay_26 rfl (nI_add _ 1) (Nat.le_of_ble_eq_true rfl) rfl ?_
        refine r_goto X (tgt := 3) d_Mo_lay_29 (by decide) ?_
        refine V.wk [1, 2, 3, 4, 0] (V.eq (ih_L3_1 (i + 1) (by omega) ) ?_ ?_ ?_ rfl) (rfl : lv_pick _ [1, 2, 3, 4, 0] = [(0, .ref (ads o (95))), (1, .ref (ads o (98))), (2, .ref (ads o (99))), (3, .int (nI (p))), (4, .int (nI (i + 1)))])
        · rfl
        · exact cpL_step ml (by decide) rfl (Nat.zero_add _).symm
        · rfl
  refine V.wk [1, 2, 3, 4, 0] (V.eq (L3_1 (43 - 0) 0 (by omega) ) ?_ ?_ ?_ rfl) (rfl : lv_pick _ [1, 2, 3, 4, 0] = [(0, .ref (ads o (95))), (1, .ref (ads o (98))), (2, .ref (ads o (99))), (3, .int (nI (p))), (4, .int (nI (0)))])
  · rfl
  · exact cpL_0 _ _ _ _ _
  · rfl

set_option maxHeartbeats 4000000 in
set_option maxRecDepth 100000 in
theorem m_Mo_lay_m (l : Launch) (o : OM) (mi : MI) (ml : ML) (p : Nat) (hp : p < 2) : ConD l y_Mo_lay c_Mo_lay 5 none 0 0 o [.ref (ads o (95)), .ref (ads o (100)), .ref (ads o (101)), .int (nI (p))] mi ml none (cpL mi 101 (40 * p) 97 0 (40)) (cpL ml 100 (43 * p) 96 0 (43)) := by
  refine Con.mk (by decide) (Nat.le_of_ble_eq_true rfl) (fun γ X => ?_)
  show V γ o 5 mi ml 0 [(0, .ref (ads o (95))), (1, .ref (ads o (100))), (2, .ref (ads o (101))), (3, .int (nI (p)))] []
  refine r_iconst X (v := nI (0)) d_Mo_lay_0 (by decide) ?_
  refine r_istore X [(4, .int (nI (0))), (0, .ref (ads o (95))), (1, .ref (ads o (100))), (2, .ref (ads o (101))), (3, .int (nI (p)))] d_Mo_lay_1 (Nat.le_of_ble_eq_true rfl) rfl ?_
  have L3_1 : ∀ (d_i i : Nat), i + d_i = 43 → V γ o 5 mi (cpL ml 100 (43 * p) 96 0 (i)) 3 [(0, .ref (ads o (95))), (1, .ref (ads o (100))), (2, .ref (ads o (101))), (3, .int (nI (p))), (4, .int (nI (i)))] [] := by
    intro d_i
    induction d_i with
    | zero =>
      intro i hi_L3_1 
      have he_L3_1 : 43 = i := by omega
      subst he_L3_1
      refine r_iload X 4 d_Mo_lay_3 rfl ?_
      refine r_bipush X (v := nI (43)) d_Mo_lay_5 (by decide) ?_
      refine r_icge X (tgt := 32) (c := 43 ≤ 43) d_Mo_lay_7 (by decide) (nI_leI (Nat.le_of_ble_eq_true rfl) (by omega)) (fun c_7 => ?_) (fun c_7 => ?_)
      · -- taken
        refine r_iconst X (v := nI (0)) d_Mo_lay_32 (by decide) ?_
        refine r_istore X [(4, .int (nI (0))), (0, .ref (ads o (95))), (1, .ref (ads o (100))), (2, .ref (ads o (101))), (3, .int (nI (p)))] d_Mo_lay_33 (Nat.le_of_ble_eq_true rfl) rfl ?_
        have L35_2 : ∀ (d_i i : Nat), i + d_i = 40 → V γ o 5 (cpL mi 101 (40 * p) 97 0 (i)) (cpL ml 100 (43 * p) 96 0 (43)) 35 [(0, .ref (ads o (95))), (1, .ref (ads o (100))), (2, .ref (ads o (101))), (3, .int (nI (p))), (4, .int (nI (i)))] [] := by
          intro d_i
          induction d_i with
          | zero =>
            intro i hi_L35_2 
            have he_L35_2 : 40 = i := by omega
            subst he_L35_2
            refine r_iload X 4 d_Mo_lay_35 rfl ?_
            refine r_bipush X (v := nI (40)) d_Mo_lay_37 (by decide) ?_
            refine r_icge X (tgt := 64) (c := 40 ≤ 40) d_Mo_lay_39 (by decide) (nI_leI (Nat.le_of_ble_eq_true rfl) (by omega)) (fun c_39 => ?_) (fun c_39 => ?_)
            · -- taken
              refine r_end_v X d_Mo_lay_64 ?_
              exact ⟨rfl, rfl, rfl⟩
            · -- not taken
              exact False.elim (by omega)
          | succ d_i ih_L35_2 =>
            intro i hi_L35_2 
            have hlt_L35_2 : i < 40 := by omega
            refine r_iload X 4 d_Mo_lay_35 rfl ?_
            refine r_bipush X (v := nI (40)) d_Mo_lay_37 (by decide) ?_
            refine r_icge X (tgt := 64) (c := 40 ≤ i) d_Mo_lay_39 (by decide) (nI_leI (Nat.le_of_ble_eq_true rfl) (by omega)) (fun c_39_3 => ?_) (fun c_39_3 => ?_)
            · -- taken
              exact False.elim (by omega)
            · -- not taken
              refine r_aload_n X 2 d_Mo_lay_42 rfl rfl ?_
              refine r_bipush X (v := nI (40)) d_Mo_lay_43 (by decide) ?_
              refine r_iload_n X 3 d_Mo_lay_45 rfl rfl ?_
              refine r_imul X (v := nI (40 * p)) d_Mo_lay_46 (pk_mul _ _) ?_
              refine r_iload X 4 d_Mo_lay_47 rfl ?_
              refine r_iadd X (v := nI (40 * p + i)) d_Mo_lay_49 (nI_add _ _) ?_
              refine r_aload_n X 0 d_Mo_lay_50 rfl rfl ?_
              refine r_get X f_Mo_13 b_95 e_95 (v := .ref (ads o (97))) rfl d_Mo_lay_51 ?_
              refine r_iload X 4 d_Mo_lay_54 rfl ?_
              refine r_iald X (v := ((cpL mi 101 (40 * p) 97 0 (i)) 97 i)) b_97 e_97 (Nat.le_of_ble_eq_true rfl) (by omega) rfl d_Mo_lay_56 ?_
              refine r_iast X b_101 e_101 (Nat.le_of_ble_eq_true rfl) (by omega) d_Mo_lay_57 ?_
              refine r_iinc X 4 (v := nI (i + 1)) [(4, .int (nI (i + 1))), (0, .ref (ads o (95))), (1, .ref (ads o (100))), (2, .ref (ads o (101))), (3, .int (nI (p)))] d_Mo_lay_58 rfl (nI_add _ 1) (Nat.le_of_ble_eq_true rfl) rfl ?_
              refine r_goto X (tgt := 35) d_Mo_lay_61 (by decide) ?_
              refine V.wk [1, 2, 3, 4, 0] (V.eq (ih_L35_2 (i + 1) (by omega) ) ?_ ?_ ?_ rfl) (rfl : lv_pick _ [1, 2, 3, 4, 0] = [(0, .ref (ads o (95))), (1, .ref (ads o (100))), (2, .ref (ads o (101))), (3, .int (nI (p))), (4, .int (nI (i + 1)))])
              · exact cpL_step mi (by decide) rfl (Nat.zero_add _).symm
              · rfl
              · rfl
        refine V.wk [1, 2, 3, 4, 0] (V.eq (L35_2 (40 - 0) 0 (by omega) ) ?_ ?_ ?_ rfl) (rfl : lv_pick _ [1, 2, 3, 4, 0] = [(0, .ref (ads o (95))), (1, .ref (ads o (100))), (2, .ref (ads o (101))), (3, .int (nI (p))), (4, .int (nI (0)))])
        · exact cpL_0 _ _ _ _ _
        · rfl
        · rfl
      · -- not taken
        exact False.elim (by omega)
    | succ d_i ih_L3_1 =>
      intro i hi_L3_1 
      have hlt_L3_1 : i < 43 := by omega
      refine r_iload X 4 d_Mo_lay_3 rfl ?_
      refine r_bipush X (v := nI (43)) d_Mo_lay_5 (by decide) ?_
      refine r_icge X (tgt := 32) (c := 43 ≤ i) d_Mo_lay_7 (by decide) (nI_leI (Nat.le_of_ble_eq_true rfl) (by omega)) (fun c_7_4 => ?_) (fun c_7_4 => ?_)
      · -- taken
        exact False.elim (by omega)
      · -- not taken
        refine r_aload_n X 1 d_Mo_lay_10 rfl rfl ?_
        refine r_bipush X (v := nI (43)) d_Mo_lay_11 (by decide) ?_
        refine r_iload_n X 3 d_Mo_lay_13 rfl rfl ?_
        refine r_imul X (v := nI (43 * p)) d_Mo_lay_14 (pk_mul _ _) ?_
        refine r_iload X 4 d_Mo_lay_15 rfl ?_
        refine r_iadd X (v := nI (43 * p + i)) d_Mo_lay_17 (nI_add _ _) ?_
        refine r_aload_n X 0 d_Mo_lay_18 rfl rfl ?_
        refine r_get X f_Mo_7 b_95 e_95 (v := .ref (ads o (96))) rfl d_Mo_lay_19 ?_
        refine r_iload X 4 d_Mo_lay_22 rfl ?_
        refine r_lald X (v := (cpL ml 100 (43 * p) 96 0 (i)) 96 i) b_96 e_96 (Nat.le_of_ble_eq_true rfl) (by omega) rfl d_Mo_lay_24 ?_
        refine r_last X b_100 e_100 (Nat.le_of_ble_eq_true rfl) (by omega) d_Mo_lay_25 ?_
        refine r_iinc X 4 (v := nI (i + 1)) [(4, .int (nI (i + 1))), (0, .ref (ads o (95))), (1, .ref (ads o (100))), (2, .ref (ads o (101))), (3, .int (nI (p)))] d_Mo_lay_26 rfl (nI_add _ 1) (Nat.le_of_ble_eq_true rfl) rfl ?_
        refine r_goto X (tgt := 3) d_Mo_lay_29 (by decide) ?_
        refine V.wk [1, 2, 3, 4, 0] (V.eq (ih_L3_1 (i + 1) (by omega) ) ?_ ?_ ?_ rfl) (rfl : lv_pick _ [1, 2, 3, 4, 0] = [(0, .ref (ads o (95))), (1, .ref (ads o (100))), (2, .ref (ads o (101))), (3, .int (nI (p))), (4, .int (nI (i + 1)))])
        · rfl
        · exact cpL_step ml (by decide) rfl (Nat.zero_add _).symm
        · rfl
  refine V.wk [1, 2, 3, 4, 0] (V.eq (L3_1 (43 - 0) 0 (by omega) ) ?_ ?_ ?_ rfl) (rfl : lv_pick _ [1, 2, 3, 4, 0] = [(0, .ref (ads o (95))), (1, .ref (ads o (100))), (2, .ref (ads o (101))), (3, .int (nI (p))), (4, .int (nI (0)))])
  · rfl
  · exact cpL_0 _ _ _ _ _
  · rfl

set_option maxHeartbeats 4000000 in
set_option maxRecDepth 100000 in
theorem m_Mo_become_b (l : Launch) (o : OM) (mi : MI) (ml : ML) (p : Nat) (hp : p < 20) : ConD l y_Mo_become c_Mo_become 5 none 0 0 o [.ref (ads o (95)), .ref (ads o (98)), .ref (ads o (99)), .int (nI (p))] mi ml none (cpL mi 97 0 99 (40 * p) (40)) (cpL ml 96 0 98 (43 * p) (43)) := by
  refine Con.mk (by decide) (Nat.le_of_ble_eq_true rfl) (fun γ X => ?_)
  show V γ o 5 mi ml 0 [(0, .ref (ads o (95))), (1, .ref (ads o (98))), (2, .ref (ads o (99))), (3, .int (nI (p)))] []
  refine r_iconst X (v := nI (0)) d_Mo_become_0 (by decide) ?_
  refine r_istore X [(4, .int (nI (0))), (0, .ref (ads o (95))), (1, .ref (ads o (98))), (2, .ref (ads o (99))), (3, .int (nI (p)))] d_Mo_become_1 (Nat.le_of_ble_eq_true rfl) rfl ?_
  have L3_1 : ∀ (d_i i : Nat), i + d_i = 43 → V γ o 5 mi (cpL ml 96 0 98 (43 * p) (i)) 3 [(0, .ref (ads o (95))), (1, .ref (ads o (98))), (2, .ref (ads o (99))), (3, .int (nI (p))), (4, .int (nI (i)))] [] := by
    intro d_i
    induction d_i with
    | zero =>
      intro i hi_L3_1 
      have he_L3_1 : 43 = i := by omega
      subst he_L3_1
      refine r_iload X 4 d_Mo_become_3 rfl ?_
      refine r_bipush X (v := nI (43)) d_Mo_become_5 (by decide) ?_
      refine r_icge X (tgt := 32) (c := 43 ≤ 43) d_Mo_become_7 (by decide) (nI_leI (Nat.le_of_ble_eq_true rfl) (by omega)) (fun c_7 => ?_) (fun c_7 => ?_)
      · -- taken
        refine r_iconst X (v := nI (0)) d_Mo_become_32 (by decide) ?_
        refine r_istore X [(4, .int (nI (0))), (0, .ref (ads o (95))), (1, .ref (ads o (98))), (2, .ref (ads o (99))), (3, .int (nI (p)))] d_Mo_become_33 (Nat.le_of_ble_eq_true rfl) rfl ?_
        have L35_2 : ∀ (d_i i : Nat), i + d_i = 40 → V γ o 5 (cpL mi 97 0 99 (40 * p) (i)) (cpL ml 96 0 98 (43 * p) (43)) 35 [(0, .ref (ads o (95))), (1, .ref (ads o (98))), (2, .ref (ads o (99))), (3, .int (nI (p))), (4, .int (nI (i)))] [] := by
          intro d_i
          induction d_i with
          | zero =>
            intro i hi_L35_2 
            have he_L35_2 : 40 = i := by omega
            subst he_L35_2
            refine r_iload X 4 d_Mo_become_35 rfl ?_
            refine r_bipush X (v := nI (40)) d_Mo_become_37 (by decide) ?_
            refine r_icge X (tgt := 64) (c := 40 ≤ 40) d_Mo_become_39 (by decide) (nI_leI (Nat.le_of_ble_eq_true rfl) (by omega)) (fun c_39 => ?_) (fun c_39 => ?_)
            · -- taken
              refine r_end_v X d_Mo_become_64 ?_
              exact ⟨rfl, rfl, rfl⟩
            · -- not taken
              exact False.elim (by omega)
          | succ d_i ih_L35_2 =>
            intro i hi_L35_2 
            have hlt_L35_2 : i < 40 := by omega
            refine r_iload X 4 d_Mo_become_35 rfl ?_
            refine r_bipush X (v := nI (40)) d_Mo_become_37 (by decide) ?_
            refine r_icge X (tgt := 64) (c := 40 ≤ i) d_Mo_become_39 (by decide) (nI_leI (Nat.le_of_ble_eq_true rfl) (by omega)) (fun c_39_3 => ?_) (fun c_39_3 => ?_)
            · -- taken
              exact False.elim (by omega)
            · -- not taken
              refine r_aload_n X 0 d_Mo_become_42 rfl rfl ?_
              refine r_get X f_Mo_13 b_95 e_95 (v := .ref (ads o (97))) rfl d_Mo_become_43 ?_
              refine r_iload X 4 d_Mo_become_46 rfl ?_
              refine r_aload_n X 2 d_Mo_become_48 rfl rfl ?_
              refine r_bipush X (v := nI (40)) d_Mo_become_49 (by decide) ?_
              refine r_iload_n X 3 d_Mo_become_51 rfl rfl ?_
              refine r_imul X (v := nI (40 * p)) d_Mo_become_52 (pk_mul _ _) ?_
              refine r_iload X 4 d_Mo_become_53 rfl ?_
              refine r_iadd X (v := nI (40 * p + i)) d_Mo_become_55 (nI_add _ _) ?_
              refine r_iald X (v := ((cpL mi 97 0 99 (40 * p) (i)) 99 (40 * p + i))) b_99 e_99 (Nat.le_of_ble_eq_true rfl) (by omega) rfl d_Mo_become_56 ?_
              refine r_iast X b_97 e_97 (Nat.le_of_ble_eq_true rfl) (by omega) d_Mo_become_57 ?_
              refine r_iinc X 4 (v := nI (i + 1)) [(4, .int (nI (i + 1))), (0, .ref (ads o (95))), (1, .ref (ads o (98))), (2, .ref (ads o (99))), (3, .int (nI (p)))] d_Mo_become_58 rfl (nI_add _ 1) (Nat.le_of_ble_eq_true rfl) rfl ?_
              refine r_goto X (tgt := 35) d_Mo_become_61 (by decide) ?_
              refine V.wk [1, 2, 3, 4, 0] (V.eq (ih_L35_2 (i + 1) (by omega) ) ?_ ?_ ?_ rfl) (rfl : lv_pick _ [1, 2, 3, 4, 0] = [(0, .ref (ads o (95))), (1, .ref (ads o (98))), (2, .ref (ads o (99))), (3, .int (nI (p))), (4, .int (nI (i + 1)))])
              · exact cpL_step mi (by decide) (Nat.zero_add _).symm rfl
              · rfl
              · rfl
        refine V.wk [1, 2, 3, 4, 0] (V.eq (L35_2 (40 - 0) 0 (by omega) ) ?_ ?_ ?_ rfl) (rfl : lv_pick _ [1, 2, 3, 4, 0] = [(0, .ref (ads o (95))), (1, .ref (ads o (98))), (2, .ref (ads o (99))), (3, .int (nI (p))), (4, .int (nI (0)))])
        · exact cpL_0 _ _ _ _ _
        · rfl
        · rfl
      · -- not taken
        exact False.elim (by omega)
    | succ d_i ih_L3_1 =>
      intro i hi_L3_1 
      have hlt_L3_1 : i < 43 := by omega
      refine r_iload X 4 d_Mo_become_3 rfl ?_
      refine r_bipush X (v := nI (43)) d_Mo_become_5 (by decide) ?_
      refine r_icge X (tgt := 32) (c := 43 ≤ i) d_Mo_become_7 (by decide) (nI_leI (Nat.le_of_ble_eq_true rfl) (by omega)) (fun c_7_4 => ?_) (fun c_7_4 => ?_)
      · -- taken
        exact False.elim (by omega)
      · -- not taken
        refine r_aload_n X 0 d_Mo_become_10 rfl rfl ?_
        refine r_get X f_Mo_7 b_95 e_95 (v := .ref (ads o (96))) rfl d_Mo_become_11 ?_
        refine r_iload X 4 d_Mo_become_14 rfl ?_
        refine r_aload_n X 1 d_Mo_become_16 rfl rfl ?_
        refine r_bipush X (v := nI (43)) d_Mo_become_17 (by decide) ?_
        refine r_iload_n X 3 d_Mo_become_19 rfl rfl ?_
        refine r_imul X (v := nI (43 * p)) d_Mo_become_20 (pk_mul _ _) ?_
        refine r_iload X 4 d_Mo_become_21 rfl ?_
        refine r_iadd X (v := nI (43 * p + i)) d_Mo_become_23 (nI_add _ _) ?_
        refine r_lald X (v := (cpL ml 96 0 98 (43 * p) (i)) 98 (43 * p + i)) b_98 e_98 (Nat.le_of_ble_eq_true rfl) (by omega) rfl d_Mo_become_24 ?_
        refine r_last X b_96 e_96 (Nat.le_of_ble_eq_true rfl) (by omega) d_Mo_become_25 ?_
        refine r_iinc X 4 (v := nI (i + 1)) [(4, .int (nI (i + 1))), (0, .ref (ads o (95))), (1, .ref (ads o (98))), (2, .ref (ads o (99))), (3, .int (nI (p)))] d_Mo_become_26 rfl (nI_add _ 1) (Nat.le_of_ble_eq_true rfl) rfl ?_
        refine r_goto X (tgt := 3) d_Mo_become_29 (by decide) ?_
        refine V.wk [1, 2, 3, 4, 0] (V.eq (ih_L3_1 (i + 1) (by omega) ) ?_ ?_ ?_ rfl) (rfl : lv_pick _ [1, 2, 3, 4, 0] = [(0, .ref (ads o (95))), (1, .ref (ads o (98))), (2, .ref (ads o (99))), (3, .int (nI (p))), (4, .int (nI (i + 1)))])
        · rfl
        · exact cpL_step ml (by decide) (Nat.zero_add _).symm rfl
        · rfl
  refine V.wk [1, 2, 3, 4, 0] (V.eq (L3_1 (43 - 0) 0 (by omega) ) ?_ ?_ ?_ rfl) (rfl : lv_pick _ [1, 2, 3, 4, 0] = [(0, .ref (ads o (95))), (1, .ref (ads o (98))), (2, .ref (ads o (99))), (3, .int (nI (p))), (4, .int (nI (0)))])
  · rfl
  · exact cpL_0 _ _ _ _ _
  · rfl

set_option maxHeartbeats 4000000 in
set_option maxRecDepth 100000 in
theorem m_Mo_become_m (l : Launch) (o : OM) (mi : MI) (ml : ML) (p : Nat) (hp : p < 2) : ConD l y_Mo_become c_Mo_become 5 none 0 0 o [.ref (ads o (95)), .ref (ads o (100)), .ref (ads o (101)), .int (nI (p))] mi ml none (cpL mi 97 0 101 (40 * p) (40)) (cpL ml 96 0 100 (43 * p) (43)) := by
  refine Con.mk (by decide) (Nat.le_of_ble_eq_true rfl) (fun γ X => ?_)
  show V γ o 5 mi ml 0 [(0, .ref (ads o (95))), (1, .ref (ads o (100))), (2, .ref (ads o (101))), (3, .int (nI (p)))] []
  refine r_iconst X (v := nI (0)) d_Mo_become_0 (by decide) ?_
  refine r_istore X [(4, .int (nI (0))), (0, .ref (ads o (95))), (1, .ref (ads o (100))), (2, .ref (ads o (101))), (3, .int (nI (p)))] d_Mo_become_1 (Nat.le_of_ble_eq_true rfl) rfl ?_
  have L3_1 : ∀ (d_i i : Nat), i + d_i = 43 → V γ o 5 mi (cpL ml 96 0 100 (43 * p) (i)) 3 [(0, .ref (ads o (95))), (1, .ref (ads o (100))), (2, .ref (ads o (101))), (3, .int (nI (p))), (4, .int (nI (i)))] [] := by
    intro d_i
    induction d_i with
    | zero =>
      intro i hi_L3_1 
      have he_L3_1 : 43 = i := by omega
      subst he_L3_1
      refine r_iload X 4 d_Mo_become_3 rfl ?_
      refine r_bipush X (v := nI (43)) d_Mo_become_5 (by decide) ?_
      refine r_icge X (tgt := 32) (c := 43 ≤ 43) d_Mo_become_7 (by decide) (nI_leI (Nat.le_of_ble_eq_true rfl) (by omega)) (fun c_7 => ?_) (fun c_7 => ?_)
      · -- taken
        refine r_iconst X (v := nI (0)) d_Mo_become_32 (by decide) ?_
        refine r_istore X [(4, .int (nI (0))), (0, .ref (ads o (95))), (1, .ref (ads o (100))), (2, .ref (ads o (101))), (3, .int (nI (p)))] d_Mo_become_33 (Nat.le_of_ble_eq_true rfl) rfl ?_
        have L35_2 : ∀ (d_i i : Nat), i + d_i = 40 → V γ o 5 (cpL mi 97 0 101 (40 * p) (i)) (cpL ml 96 0 100 (43 * p) (43)) 35 [(0, .ref (ads o (95))), (1, .ref (ads o (100))), (2, .ref (ads o (101))), (3, .int (nI (p))), (4, .int (nI (i)))] [] := by
          intro d_i
          induction d_i with
          | zero =>
            intro i hi_L35_2 
            have he_L35_2 : 40 = i := by omega
            subst he_L35_2
            refine r_iload X 4 d_Mo_become_35 rfl ?_
            refine r_bipush X (v := nI (40)) d_Mo_become_37 (by decide) ?_
            refine r_icge X (tgt := 64) (c := 40 ≤ 40) d_Mo_become_39 (by decide) (nI_leI (Nat.le_of_ble_eq_true rfl) (by omega)) (fun c_39 => ?_) (fun c_39 => ?_)
            · -- taken
              refine r_end_v X d_Mo_become_64 ?_
              exact ⟨rfl, rfl, rfl⟩
            · -- not taken
              exact False.elim (by omega)
          | succ d_i ih_L35_2 =>
            intro i hi_L35_2 
            have hlt_L35_2 : i < 40 := by omega
            refine r_iload X 4 d_Mo_become_35 rfl ?_
            refine r_bipush X (v := nI (40)) d_Mo_become_37 (by decide) ?_
            refine r_icge X (tgt := 64) (c := 40 ≤ i) d_Mo_become_39 (by decide) (nI_leI (Nat.le_of_ble_eq_true rfl) (by omega)) (fun c_39_3 => ?_) (fun c_39_3 => ?_)
            · -- taken
              exact False.elim (by omega)
            · -- not taken
              refine r_aload_n X 0 d_Mo_become_42 rfl rfl ?_
              refine r_get X f_Mo_13 b_95 e_95 (v := .ref (ads o (97))) rfl d_Mo_become_43 ?_
              refine r_iload X 4 d_Mo_become_46 rfl ?_
              refine r_aload_n X 2 d_Mo_become_48 rfl rfl ?_
              refine r_bipush X (v := nI (40)) d_Mo_become_49 (by decide) ?_
              refine r_iload_n X 3 d_Mo_become_51 rfl rfl ?_
              refine r_imul X (v := nI (40 * p)) d_Mo_become_52 (pk_mul _ _) ?_
              refine r_iload X 4 d_Mo_become_53 rfl ?_
              refine r_iadd X (v := nI (40 * p + i)) d_Mo_become_55 (nI_add _ _) ?_
              refine r_iald X (v := ((cpL mi 97 0 101 (40 * p) (i)) 101 (40 * p + i))) b_101 e_101 (Nat.le_of_ble_eq_true rfl) (by omega) rfl d_Mo_become_56 ?_
              refine r_iast X b_97 e_97 (Nat.le_of_ble_eq_true rfl) (by omega) d_Mo_become_57 ?_
              refine r_iinc X 4 (v := nI (i + 1)) [(4, .int (nI (i + 1))), (0, .ref (ads o (95))), (1, .ref (ads o (100))), (2, .ref (ads o (101))), (3, .int (nI (p)))] d_Mo_become_58 rfl (nI_add _ 1) (Nat.le_of_ble_eq_true rfl) rfl ?_
              refine r_goto X (tgt := 35) d_Mo_become_61 (by decide) ?_
              refine V.wk [1, 2, 3, 4, 0] (V.eq (ih_L35_2 (i + 1) (by omega) ) ?_ ?_ ?_ rfl) (rfl : lv_pick _ [1, 2, 3, 4, 0] = [(0, .ref (ads o (95))), (1, .ref (ads o (100))), (2, .ref (ads o (101))), (3, .int (nI (p))), (4, .int (nI (i + 1)))])
              · exact cpL_step mi (by decide) (Nat.zero_add _).symm rfl
              · rfl
              · rfl
        refine V.wk [1, 2, 3, 4, 0] (V.eq (L35_2 (40 - 0) 0 (by omega) ) ?_ ?_ ?_ rfl) (rfl : lv_pick _ [1, 2, 3, 4, 0] = [(0, .ref (ads o (95))), (1, .ref (ads o (100))), (2, .ref (ads o (101))), (3, .int (nI (p))), (4, .int (nI (0)))])
        · exact cpL_0 _ _ _ _ _
        · rfl
        · rfl
      · -- not taken
        exact False.elim (by omega)
    | succ d_i ih_L3_1 =>
      intro i hi_L3_1 
      have hlt_L3_1 : i < 43 := by omega
      refine r_iload X 4 d_Mo_become_3 rfl ?_
      refine r_bipush X (v := nI (43)) d_Mo_become_5 (by decide) ?_
      refine r_icge X (tgt := 32) (c := 43 ≤ i) d_Mo_become_7 (by decide) (nI_leI (Nat.le_of_ble_eq_true rfl) (by omega)) (fun c_7_4 => ?_) (fun c_7_4 => ?_)
      · -- taken
        exact False.elim (by omega)
      · -- not taken
        refine r_aload_n X 0 d_Mo_become_10 rfl rfl ?_
        refine r_get X f_Mo_7 b_95 e_95 (v := .ref (ads o (96))) rfl d_Mo_become_11 ?_
        refine r_iload X 4 d_Mo_become_14 rfl ?_
        refine r_aload_n X 1 d_Mo_become_16 rfl rfl ?_
        refine r_bipush X (v := nI (43)) d_Mo_become_17 (by decide) ?_
        refine r_iload_n X 3 d_Mo_become_19 rfl rfl ?_
        refine r_imul X (v := nI (43 * p)) d_Mo_become_20 (pk_mul _ _) ?_
        refine r_iload X 4 d_Mo_become_21 rfl ?_
        refine r_iadd X (v := nI (43 * p + i)) d_Mo_become_23 (nI_add _ _) ?_
        refine r_lald X (v := (cpL ml 96 0 100 (43 * p) (i)) 100 (43 * p + i)) b_100 e_100 (Nat.le_of_ble_eq_true rfl) (by omega) rfl d_Mo_become_24 ?_
        refine r_last X b_96 e_96 (Nat.le_of_ble_eq_true rfl) (by omega) d_Mo_become_25 ?_
        refine r_iinc X 4 (v := nI (i + 1)) [(4, .int (nI (i + 1))), (0, .ref (ads o (95))), (1, .ref (ads o (100))), (2, .ref (ads o (101))), (3, .int (nI (p)))] d_Mo_become_26 rfl (nI_add _ 1) (Nat.le_of_ble_eq_true rfl) rfl ?_
        refine r_goto X (tgt := 3) d_Mo_become_29 (by decide) ?_
        refine V.wk [1, 2, 3, 4, 0] (V.eq (ih_L3_1 (i + 1) (by omega) ) ?_ ?_ ?_ rfl) (rfl : lv_pick _ [1, 2, 3, 4, 0] = [(0, .ref (ads o (95))), (1, .ref (ads o (100))), (2, .ref (ads o (101))), (3, .int (nI (p))), (4, .int (nI (i + 1)))])
        · rfl
        · exact cpL_step ml (by decide) (Nat.zero_add _).symm rfl
        · rfl
  refine V.wk [1, 2, 3, 4, 0] (V.eq (L3_1 (43 - 0) 0 (by omega) ) ?_ ?_ ?_ rfl) (rfl : lv_pick _ [1, 2, 3, 4, 0] = [(0, .ref (ads o (95))), (1, .ref (ads o (100))), (2, .ref (ads o (101))), (3, .int (nI (p))), (4, .int (nI (0)))])
  · rfl
  · exact cpL_0 _ _ _ _ _
  · rfl

set_option maxHeartbeats 4000000 in
set_option maxRecDepth 100000 in
theorem m_Mo_note_s (l : Launch) (o : OM) (mi : MI) (ml : ML) (c : Nat) (hc : mi 95 2 = nI c) (hc20 : c < 20) : ConD l y_Mo_note c_Mo_note 2 none 1 24 o [.ref (ads o (95))] mi ml none (u2 (cpL mi 99 (40 * c) 97 0 40) 95 2 (nI (c + 1))) (cpL ml 98 (43 * c) 96 0 43) := by
  refine Con.mk (by decide) (Nat.le_of_ble_eq_true rfl) (fun γ X => ?_)
  show V γ o 2 mi ml 0 [(0, .ref (ads o (95)))] []
  refine r_aload_n X 0 d_Mo_note_0 rfl rfl ?_
  refine r_get X f_Mo_141 b_95 e_95 (v := .int (nI (c))) (congrArg (fun z => some (Value.int z)) (hc)) d_Mo_note_1 ?_
  refine r_bipush X (v := nI (20)) d_Mo_note_4 (by decide) ?_
  refine r_icneP X (tgt := 79) (c := c = 20) d_Mo_note_6 (by decide) (nI_eq (by omega) (Nat.le_of_ble_eq_true rfl)) (fun c_6 => ?_) (fun c_6 => ?_)
  · -- taken
    refine r_aload_n X 0 d_Mo_note_79 rfl rfl ?_
    refine r_aload_n X 0 d_Mo_note_80 rfl rfl ?_
    refine r_get X f_Mo_17 b_95 e_95 (v := .ref (ads o (98))) rfl d_Mo_note_81 ?_
    refine r_aload_n X 0 d_Mo_note_84 rfl rfl ?_
    refine r_get X f_Mo_20 b_95 e_95 (v := .ref (ads o (99))) rfl d_Mo_note_85 ?_
    refine r_aload_n X 0 d_Mo_note_88 rfl rfl ?_
    refine r_get X f_Mo_141 b_95 e_95 (v := .int (nI (c))) (congrArg (fun z => some (Value.int z)) (hc)) d_Mo_note_89 ?_
    refine r_callV X (m_Mo_lay_b l o mi ml c (by omega)) ok_Mo_lay w_Mo_155 rfl b_95 e_95 rfl ⟨Nat.le_of_ble_eq_true rfl, Nat.le_of_ble_eq_true rfl⟩ (rest := []) rfl (Nat.le_of_ble_eq_true rfl) d_Mo_note_92 ?_
    refine kD (st' := []) rfl ?_
    refine r_aload_n X 0 d_Mo_note_95 rfl rfl ?_
    refine r_dup X d_Mo_note_96 rfl ?_
    refine r_get X f_Mo_141 b_95 e_95 (v := .int (nI (c))) (congrArg (fun z => some (Value.int z)) ((by rw [cpL_n _ (by decide)]; exact hc))) d_Mo_note_97 ?_
    refine r_iconst X (v := nI (1)) d_Mo_note_100 (by decide) ?_
    refine r_iadd X (v := nI (c + 1)) d_Mo_note_101 (nI_add _ _) ?_
    refine r_putI X fw_Mo_141 b_95 e_95 (fun _ _ => rfl) (Nat.le_of_ble_eq_true rfl) d_Mo_note_102 ?_
    refine r_end_v X d_Mo_note_105 ?_
    exact ⟨rfl, rfl, rfl⟩
  · -- not taken
    exact False.elim (by omega)

set_option maxHeartbeats 4000000 in
set_option maxRecDepth 100000 in
theorem m_Mo_note_f (l : Launch) (o : OM) (mi : MI) (ml : ML)  (hc : mi 95 2 = nI 20) : ConD l y_Mo_note c_Mo_note 2 none 1 24 o [.ref (ads o (95))] mi ml none (u2 (cpL (u2 (shL mi 99 0 40 760) 95 2 (nI 19)) 99 (40 * 19) 97 0 40) 95 2 (nI (19 + 1))) (cpL (shL ml 98 0 43 817) 98 (43 * 19) 96 0 43) := by
  refine Con.mk (by decide) (Nat.le_of_ble_eq_true rfl) (fun γ X => ?_)
  show V γ o 2 mi ml 0 [(0, .ref (ads o (95)))] []
  refine r_aload_n X 0 d_Mo_note_0 rfl rfl ?_
  refine r_get X f_Mo_141 b_95 e_95 (v := .int (nI (20))) (congrArg (fun z => some (Value.int z)) (hc)) d_Mo_note_1 ?_
  refine r_bipush X (v := nI (20)) d_Mo_note_4 (by decide) ?_
  refine r_icneP X (tgt := 79) (c := 20 = 20) d_Mo_note_6 (by decide) (nI_eq (Nat.le_of_ble_eq_true rfl) (Nat.le_of_ble_eq_true rfl)) (fun c_6 => ?_) (fun c_6 => ?_)
  · -- taken
    exact False.elim (by omega)
  · -- not taken
    refine r_iconst X (v := nI (0)) d_Mo_note_9 (by decide) ?_
    refine r_istore_n X [(1, .int (nI (0))), (0, .ref (ads o (95)))] d_Mo_note_10 rfl (Nat.le_of_ble_eq_true rfl) rfl ?_
    have L11_1 : ∀ (d_i i : Nat), i + d_i = 817 → V γ o 2 mi (shL ml 98 0 43 (i)) 11 [(0, .ref (ads o (95))), (1, .int (nI (i)))] [] := by
      intro d_i
      induction d_i with
      | zero =>
        intro i hi_L11_1 
        have he_L11_1 : 817 = i := by omega
        subst he_L11_1
        refine r_iload_n X 1 d_Mo_note_11 rfl rfl ?_
        refine r_sipush X (v := nI (817)) d_Mo_note_12 (by decide) ?_
        refine r_icge X (tgt := 39) (c := 817 ≤ 817) d_Mo_note_15 (by decide) (nI_leI (Nat.le_of_ble_eq_true rfl) (by omega)) (fun c_15 => ?_) (fun c_15 => ?_)
        · -- taken
          refine r_iconst X (v := nI (0)) d_Mo_note_39 (by decide) ?_
          refine r_istore_n X [(1, .int (nI (0))), (0, .ref (ads o (95)))] d_Mo_note_40 rfl (Nat.le_of_ble_eq_true rfl) rfl ?_
          have L41_2 : ∀ (d_i i : Nat), i + d_i = 760 → V γ o 2 (shL mi 99 0 40 (i)) (shL ml 98 0 43 (817)) 41 [(0, .ref (ads o (95))), (1, .int (nI (i)))] [] := by
            intro d_i
            induction d_i with
            | zero =>
              intro i hi_L41_2 
              have he_L41_2 : 760 = i := by omega
              subst he_L41_2
              refine r_iload_n X 1 d_Mo_note_41 rfl rfl ?_
              refine r_sipush X (v := nI (760)) d_Mo_note_42 (by decide) ?_
              refine r_icge X (tgt := 69) (c := 760 ≤ 760) d_Mo_note_45 (by decide) (nI_leI (Nat.le_of_ble_eq_true rfl) (by omega)) (fun c_45 => ?_) (fun c_45 => ?_)
              · -- taken
                refine r_aload_n X 0 d_Mo_note_69 rfl rfl ?_
                refine r_dup X d_Mo_note_70 rfl ?_
                refine r_get X f_Mo_141 b_95 e_95 (v := .int (nI (20))) (congrArg (fun z => some (Value.int z)) ((by rw [shL_n _ (by decide)]; exact hc))) d_Mo_note_71 ?_
                refine r_iconst X (v := nI (1)) d_Mo_note_74 (by decide) ?_
                refine r_isub X (v := nI (19)) d_Mo_note_75 (by decide) ?_
                refine r_putI X fw_Mo_141 b_95 e_95 (fun _ _ => rfl) (Nat.le_of_ble_eq_true rfl) d_Mo_note_76 ?_
                refine r_aload_n X 0 d_Mo_note_79 rfl rfl ?_
                refine r_aload_n X 0 d_Mo_note_80 rfl rfl ?_
                refine r_get X f_Mo_17 b_95 e_95 (v := .ref (ads o (98))) rfl d_Mo_note_81 ?_
                refine r_aload_n X 0 d_Mo_note_84 rfl rfl ?_
                refine r_get X f_Mo_20 b_95 e_95 (v := .ref (ads o (99))) rfl d_Mo_note_85 ?_
                refine r_aload_n X 0 d_Mo_note_88 rfl rfl ?_
                refine r_get X f_Mo_141 b_95 e_95 (v := .int (nI (19))) (congrArg (fun z => some (Value.int z)) ((by rw [u2_s, uf_s]))) d_Mo_note_89 ?_
                refine r_callV X (m_Mo_lay_b l o (u2 (shL mi 99 0 40 (760)) 95 2 (nI (19))) (shL ml 98 0 43 (817)) 19 (by omega)) ok_Mo_lay w_Mo_155 rfl b_95 e_95 rfl ⟨Nat.le_of_ble_eq_true rfl, Nat.le_of_ble_eq_true rfl⟩ (rest := []) rfl (Nat.le_of_ble_eq_true rfl) d_Mo_note_92 ?_
                refine kD (st' := []) rfl ?_
                refine r_aload_n X 0 d_Mo_note_95 rfl rfl ?_
                refine r_dup X d_Mo_note_96 rfl ?_
                refine r_get X f_Mo_141 b_95 e_95 (v := .int (nI (19))) (congrArg (fun z => some (Value.int z)) ((by rw [cpL_n _ (by decide)]; rw [u2_s, uf_s]))) d_Mo_note_97 ?_
                refine r_iconst X (v := nI (1)) d_Mo_note_100 (by decide) ?_
                refine r_iadd X (v := nI (19 + 1)) d_Mo_note_101 (nI_add _ _) ?_
                refine r_putI X fw_Mo_141 b_95 e_95 (fun _ _ => rfl) (Nat.le_of_ble_eq_true rfl) d_Mo_note_102 ?_
                refine r_end_v X d_Mo_note_105 ?_
                exact ⟨rfl, rfl, rfl⟩
              · -- not taken
                exact False.elim (by omega)
            | succ d_i ih_L41_2 =>
              intro i hi_L41_2 
              have hlt_L41_2 : i < 760 := by omega
              refine r_iload_n X 1 d_Mo_note_41 rfl rfl ?_
              refine r_sipush X (v := nI (760)) d_Mo_note_42 (by decide) ?_
              refine r_icge X (tgt := 69) (c := 760 ≤ i) d_Mo_note_45 (by decide) (nI_leI (Nat.le_of_ble_eq_true rfl) (by omega)) (fun c_45_3 => ?_) (fun c_45_3 => ?_)
              · -- taken
                exact False.elim (by omega)
              · -- not taken
                refine r_aload_n X 0 d_Mo_note_48 rfl rfl ?_
                refine r_get X f_Mo_20 b_95 e_95 (v := .ref (ads o (99))) rfl d_Mo_note_49 ?_
                refine r_iload_n X 1 d_Mo_note_52 rfl rfl ?_
                refine r_aload_n X 0 d_Mo_note_53 rfl rfl ?_
                refine r_get X f_Mo_20 b_95 e_95 (v := .ref (ads o (99))) rfl d_Mo_note_54 ?_
                refine r_iload_n X 1 d_Mo_note_57 rfl rfl ?_
                refine r_bipush X (v := nI (40)) d_Mo_note_58 (by decide) ?_
                refine r_iadd X (v := nI (i + 40)) d_Mo_note_60 (nI_add _ _) ?_
                refine r_iald X (v := ((shL mi 99 0 40 (i)) 99 (i + 40))) b_99 e_99 (Nat.le_of_ble_eq_true rfl) (by omega) rfl d_Mo_note_61 ?_
                refine r_iast X b_99 e_99 (Nat.le_of_ble_eq_true rfl) (by omega) d_Mo_note_62 ?_
                refine r_iinc X 1 (v := nI (i + 1)) [(1, .int (nI (i + 1))), (0, .ref (ads o (95)))] d_Mo_note_63 rfl (nI_add _ 1) (Nat.le_of_ble_eq_true rfl) rfl ?_
                refine r_goto X (tgt := 41) d_Mo_note_66 (by decide) ?_
                refine V.wk [1, 0] (V.eq (ih_L41_2 (i + 1) (by omega) ) ?_ ?_ ?_ rfl) (rfl : lv_pick _ [1, 0] = [(0, .ref (ads o (95))), (1, .int (nI (i + 1)))])
                · exact shL_step mi (by decide) (Nat.zero_add _).symm (by omega)
                · rfl
                · rfl
          refine V.wk [1, 0] (V.eq (L41_2 (760 - 0) 0 (by omega) ) ?_ ?_ ?_ rfl) (rfl : lv_pick _ [1, 0] = [(0, .ref (ads o (95))), (1, .int (nI (0)))])
          · exact shL_0 _ _ _ _
          · rfl
          · rfl
        · -- not taken
          exact False.elim (by omega)
      | succ d_i ih_L11_1 =>
        intro i hi_L11_1 
        have hlt_L11_1 : i < 817 := by omega
        refine r_iload_n X 1 d_Mo_note_11 rfl rfl ?_
        refine r_sipush X (v := nI (817)) d_Mo_note_12 (by decide) ?_
        refine r_icge X (tgt := 39) (c := 817 ≤ i) d_Mo_note_15 (by decide) (nI_leI (Nat.le_of_ble_eq_true rfl) (by omega)) (fun c_15_4 => ?_) (fun c_15_4 => ?_)
        · -- taken
          exact False.elim (by omega)
        · -- not taken
          refine r_aload_n X 0 d_Mo_note_18 rfl rfl ?_
          refine r_get X f_Mo_17 b_95 e_95 (v := .ref (ads o (98))) rfl d_Mo_note_19 ?_
          refine r_iload_n X 1 d_Mo_note_22 rfl rfl ?_
          refine r_aload_n X 0 d_Mo_note_23 rfl rfl ?_
          refine r_get X f_Mo_17 b_95 e_95 (v := .ref (ads o (98))) rfl d_Mo_note_24 ?_
          refine r_iload_n X 1 d_Mo_note_27 rfl rfl ?_
          refine r_bipush X (v := nI (43)) d_Mo_note_28 (by decide) ?_
          refine r_iadd X (v := nI (i + 43)) d_Mo_note_30 (nI_add _ _) ?_
          refine r_lald X (v := (shL ml 98 0 43 (i)) 98 (i + 43)) b_98 e_98 (Nat.le_of_ble_eq_true rfl) (by omega) rfl d_Mo_note_31 ?_
          refine r_last X b_98 e_98 (Nat.le_of_ble_eq_true rfl) (by omega) d_Mo_note_32 ?_
          refine r_iinc X 1 (v := nI (i + 1)) [(1, .int (nI (i + 1))), (0, .ref (ads o (95)))] d_Mo_note_33 rfl (nI_add _ 1) (Nat.le_of_ble_eq_true rfl) rfl ?_
          refine r_goto X (tgt := 11) d_Mo_note_36 (by decide) ?_
          refine V.wk [1, 0] (V.eq (ih_L11_1 (i + 1) (by omega) ) ?_ ?_ ?_ rfl) (rfl : lv_pick _ [1, 0] = [(0, .ref (ads o (95))), (1, .int (nI (i + 1)))])
          · rfl
          · exact shL_step ml (by decide) (Nat.zero_add _).symm (by omega)
          · rfl
    refine V.wk [1, 0] (V.eq (L11_1 (817 - 0) 0 (by omega) ) ?_ ?_ ?_ rfl) (rfl : lv_pick _ [1, 0] = [(0, .ref (ads o (95))), (1, .int (nI (0)))])
    · rfl
    · exact shL_0 _ _ _ _
    · rfl
