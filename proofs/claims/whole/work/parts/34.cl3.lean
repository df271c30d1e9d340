set_option maxHeartbeats 4000000 in
set_option maxRecDepth 100000 in
theorem m_Si_fits (l : Launch) (o : OM) (mi : MI) (ml : ML) (x : Int64) (s : Nat) (hs : mi 86 3 = nI s) (hs6 : s ≤ 6) : ConD l y_Si_fits c_Si_fits 4 (some .boolean) 2 44 o [.ref (ads o (86)), .long (x)] mi ml (some (.int (bI (cb x (ml 87) (mi 88) s)))) mi ml := by
  refine Con.mk (by decide) (Nat.le_of_ble_eq_true rfl) (fun γ X => ?_)
  show V γ o 4 mi ml 0 [(0, .ref (ads o (86))), (1, .long (x))] []
  refine r_iconst X (v := nI (0)) d_Si_fits_0 (by decide) ?_
  refine r_istore_n X [(3, .int (nI (0))), (0, .ref (ads o (86))), (1, .long (x))] d_Si_fits_1 rfl (Nat.le_of_ble_eq_true rfl) rfl ?_
  have L2_1 : ∀ (d_i i : Nat), i + d_i = s → (alB (fun i => decide (nI (ds x (ml 87 i)) = mi 88 i)) (i) = true) → V γ o 4 mi ml 2 [(0, .ref (ads o (86))), (1, .long (x)), (3, .int (nI (i)))] [] := by
    intro d_i
    induction d_i with
    | zero =>
      intro i hi_L2_1 hr
      have he_L2_1 : s = i := by omega
      subst he_L2_1
      refine r_iload_n X 2 d_Si_fits_2 rfl rfl ?_
      refine r_aload_n X 0 d_Si_fits_3 rfl rfl ?_
      refine r_get X f_Si_22 b_86 e_86 (v := .int (nI (s))) (congrArg (fun z => some (Value.int z)) (hs)) d_Si_fits_4 ?_
      refine r_icge X (tgt := 37) (c := s ≤ s) d_Si_fits_7 (by decide) (nI_leI (by omega) (by omega)) (fun c_7 => ?_) (fun c_7 => ?_)
      · -- taken
        refine r_iconst X (v := nI (1)) d_Si_fits_37 (by decide) ?_
        refine r_end_z X (rfl) d_Si_fits_38 ?_
        refine ⟨?_, rfl, rfl⟩; rw [show cb x (ml 87) (mi 88) s = true from hr]; rfl
      · -- not taken
        exact False.elim (by omega)
    | succ d_i ih_L2_1 =>
      intro i hi_L2_1 hr
      have hlt_L2_1 : i < s := by omega
      refine r_iload_n X 2 d_Si_fits_2 rfl rfl ?_
      refine r_aload_n X 0 d_Si_fits_3 rfl rfl ?_
      refine r_get X f_Si_22 b_86 e_86 (v := .int (nI (s))) (congrArg (fun z => some (Value.int z)) (hs)) d_Si_fits_4 ?_
      refine r_icge X (tgt := 37) (c := s ≤ i) d_Si_fits_7 (by decide) (nI_leI (by omega) (by omega)) (fun c_7_2 => ?_) (fun c_7_2 => ?_)
      · -- taken
        exact False.elim (by omega)
      · -- not taken
        refine r_lload_n X 1 d_Si_fits_10 rfl rfl ?_
        refine r_aload_n X 0 d_Si_fits_11 rfl rfl ?_
        refine r_get X f_Si_9 b_86 e_86 (v := .ref (ads o (87))) rfl d_Si_fits_12 ?_
        refine r_iload_n X 2 d_Si_fits_15 rfl rfl ?_
        refine r_lald X (v := ml 87 i) b_87 e_87 (Nat.le_of_ble_eq_true rfl) (by omega) rfl d_Si_fits_16 ?_
        refine r_callN X (m_Nm_distanceOf l o mi ml x (ml 87 i)) ok_Nm_distanceOf (host := "NearMarks") (by decide +kernel) rfl ⟨Nat.le_of_ble_eq_true rfl, Nat.le_of_ble_eq_true rfl⟩ (rest := []) rfl (Nat.le_of_ble_eq_true rfl) d_Si_fits_17 ?_
        refine kD (st' := [.int (nI (ds x (ml 87 i)))]) rfl ?_
        refine r_aload_n X 0 d_Si_fits_20 rfl rfl ?_
        refine r_get X f_Si_15 b_86 e_86 (v := .ref (ads o (88))) rfl d_Si_fits_21 ?_
        refine r_iload_n X 2 d_Si_fits_24 rfl rfl ?_
        refine r_iald X (v := (mi 88 i)) b_88 e_88 (Nat.le_of_ble_eq_true rfl) (by omega) rfl d_Si_fits_25 ?_
        refine r_iceq X (tgt := 31) (c := (nI (ds x (ml 87 i))) = (mi 88 i)) d_Si_fits_26 (by decide) (Iff.rfl) (fun c_26 => ?_) (fun c_26 => ?_)
        · -- taken
          refine r_iinc X 2 (v := nI (i + 1)) [(3, .int (nI (i + 1))), (0, .ref (ads o (86))), (1, .long (x))] d_Si_fits_31 rfl (nI_add _ 1) (Nat.le_of_ble_eq_true rfl) rfl ?_
          refine r_goto X (tgt := 2) d_Si_fits_34 (by decide) ?_
          refine V.wk [1, 2, 0] (V.eq (ih_L2_1 (i + 1) (by omega) (by simp_all [alB])) ?_ ?_ ?_ rfl) (rfl : lv_pick _ [1, 2, 0] = [(0, .ref (ads o (86))), (1, .long (x)), (3, .int (nI (i + 1)))])
          · rfl
          · rfl
          · first | rfl | (simp_all [ct, lastB, alB, fromB]; done)
        · -- not taken
          refine r_iconst X (v := nI (0)) d_Si_fits_29 (by decide) ?_
          refine r_end_z X (rfl) d_Si_fits_30 ?_
          refine ⟨?_, rfl, rfl⟩; rw [show cb x (ml 87) (mi 88) s = false from alB_no (i := i + 1) (by simp_all [alB]) (by omega)]; rfl
  refine V.wk [1, 2, 0] (V.eq (L2_1 (s - 0) 0 (by omega) (rfl)) ?_ ?_ ?_ rfl) (rfl : lv_pick _ [1, 2, 0] = [(0, .ref (ads o (86))), (1, .long (x)), (3, .int (nI (0)))])
  · rfl
  · rfl
  · rfl

set_option maxHeartbeats 4000000 in
set_option maxRecDepth 100000 in
theorem m_Si_fitting (l : Launch) (o : OM) (mi : MI) (ml : ML) (n : Nat) (s : Nat) (hn : mi 1 2 = nI n) (hn40 : n ≤ 40) (hs : mi 86 3 = nI s) (hs6 : s ≤ 6) : ConD l y_Si_fitting c_Si_fitting 5 (some .long) 3 67 o [.ref (ads o (86)), .ref (ads o (1))] mi ml (some (.long (stB (fun k => cb (ml 2 k) (ml 87) (mi 88) s) n))) mi ml := by
  refine Con.mk (by decide) (Nat.le_of_ble_eq_true rfl) (fun γ X => ?_)
  show V γ o 5 mi ml 0 [(0, .ref (ads o (86))), (1, .ref (ads o (1)))] []
  refine r_lconst X (v := 0) d_Si_fitting_0 (by decide) ?_
  refine r_lstore_n X [(2, .long (0)), (0, .ref (ads o (86))), (1, .ref (ads o (1)))] d_Si_fitting_1 rfl (Nat.le_of_ble_eq_true rfl) rfl ?_
  refine r_iconst X (v := nI (0)) d_Si_fitting_2 (by decide) ?_
  refine r_istore X [(4, .int (nI (0))), (2, .long (0)), (0, .ref (ads o (86))), (1, .ref (ads o (1)))] d_Si_fitting_3 (Nat.le_of_ble_eq_true rfl) rfl ?_
  have L5_1 : ∀ (d_i i : Nat), i + d_i = n → V γ o 5 mi ml 5 [(0, .ref (ads o (86))), (1, .ref (ads o (1))), (2, .long (stB (fun k => cb (ml 2 k) (ml 87) (mi 88) s) (i))), (4, .int (nI (i)))] [] := by
    intro d_i
    induction d_i with
    | zero =>
      intro i hi_L5_1 
      have he_L5_1 : n = i := by omega
      subst he_L5_1
      refine r_iload X 3 d_Si_fitting_5 rfl ?_
      refine r_aload_n X 1 d_Si_fitting_7 rfl rfl ?_
      refine r_get X f_Si_30 b_1 e_1 (v := .int (nI (n))) (congrArg (fun z => some (Value.int z)) (hn)) d_Si_fitting_8 ?_
      refine r_icge X (tgt := 41) (c := n ≤ n) d_Si_fitting_11 (by decide) (nI_leI (by omega) (by omega)) (fun c_11 => ?_) (fun c_11 => ?_)
      · -- taken
        refine r_lload_n X 2 d_Si_fitting_41 rfl rfl ?_
        refine r_end_l X d_Si_fitting_42 ?_
        first | exact ⟨rfl, rfl, rfl⟩ | (refine ⟨?_, rfl, rfl⟩; simp_all)
      · -- not taken
        exact False.elim (by omega)
    | succ d_i ih_L5_1 =>
      intro i hi_L5_1 
      have hlt_L5_1 : i < n := by omega
      refine r_iload X 3 d_Si_fitting_5 rfl ?_
      refine r_aload_n X 1 d_Si_fitting_7 rfl rfl ?_
      refine r_get X f_Si_30 b_1 e_1 (v := .int (nI (n))) (congrArg (fun z => some (Value.int z)) (hn)) d_Si_fitting_8 ?_
      refine r_icge X (tgt := 41) (c := n ≤ i) d_Si_fitting_11 (by decide) (nI_leI (by omega) (by omega)) (fun c_11_2 => ?_) (fun c_11_2 => ?_)
      · -- taken
        exact False.elim (by omega)
      · -- not taken
        refine r_aload_n X 0 d_Si_fitting_14 rfl rfl ?_
        refine r_aload_n X 1 d_Si_fitting_15 rfl rfl ?_
        refine r_get X f_Si_33 b_1 e_1 (v := .ref (ads o (2))) rfl d_Si_fitting_16 ?_
        refine r_iload X 3 d_Si_fitting_19 rfl ?_
        refine r_lald X (v := ml 2 i) b_2 e_2 (Nat.le_of_ble_eq_true rfl) (by omega) rfl d_Si_fitting_21 ?_
        refine r_callV X (m_Si_fits l o mi ml (ml 2 i) s (hs) hs6) ok_Si_fits w_Si_36 rfl b_86 e_86 rfl ⟨Nat.le_of_ble_eq_true rfl, Nat.le_of_ble_eq_true rfl⟩ (rest := []) rfl (Nat.le_of_ble_eq_true rfl) d_Si_fitting_22 ?_
        refine kD (st' := [.int (bI (cb (ml 2 i) (ml 87) (mi 88) s))]) rfl ?_
        refine r_ifeqB X (tgt := 35) (b := cb (ml 2 i) (ml 87) (mi 88) s) d_Si_fitting_25 (by decide) (fun c_25 => ?_) (fun c_25 => ?_)
        · -- taken
          refine r_iinc X 3 (v := nI (i + 1)) [(4, .int (nI (i + 1))), (0, .ref (ads o (86))), (1, .ref (ads o (1))), (2, .long (stB (fun k => cb (ml 2 k) (ml 87) (mi 88) s) (i)))] d_Si_fitting_35 rfl (nI_add _ 1) (Nat.le_of_ble_eq_true rfl) rfl ?_
          refine r_goto X (tgt := 5) d_Si_fitting_38 (by decide) ?_
          refine V.wk [1, 2, 3, 0] (V.eq (ih_L5_1 (i + 1) (by omega) ) ?_ ?_ ?_ rfl) (rfl : lv_pick _ [1, 2, 3, 0] = [(0, .ref (ads o (86))), (1, .ref (ads o (1))), (2, .long (stB (fun k => cb (ml 2 k) (ml 87) (mi 88) s) (i))), (4, .int (nI (i + 1)))])
          · rfl
          · rfl
          · first | (rw [stB_y (by assumption)]; done) | (rw [stB_n (by assumption)]; done) | (rw [stB_y] <;> simp_all; done) | (rw [stB_n] <;> simp_all; done)
        · -- not taken
          refine r_lload_n X 2 d_Si_fitting_28 rfl rfl ?_
          refine r_lconst X (v := 1) d_Si_fitting_29 (by decide) ?_
          refine r_iload X 3 d_Si_fitting_30 rfl ?_
          refine r_lshl X (v := shl (1) (i)) d_Si_fitting_32 (rfl) ?_
          refine r_lor X (v := (stB (fun k => cb (ml 2 k) (ml 87) (mi 88) s) (i)) ||| (shl (1) (i))) d_Si_fitting_33 (rfl) ?_
          refine r_lstore_n X [(2, .long ((stB (fun k => cb (ml 2 k) (ml 87) (mi 88) s) (i)) ||| (shl (1) (i)))), (0, .ref (ads o (86))), (1, .ref (ads o (1))), (4, .int (nI (i)))] d_Si_fitting_34 rfl (Nat.le_of_ble_eq_true rfl) rfl ?_
          refine r_iinc X 3 (v := nI (i + 1)) [(4, .int (nI (i + 1))), (2, .long ((stB (fun k => cb (ml 2 k) (ml 87) (mi 88) s) (i)) ||| (shl (1) (i)))), (0, .ref (ads o (86))), (1, .ref (ads o (1)))] d_Si_fitting_35 rfl (nI_add _ 1) (Nat.le_of_ble_eq_true rfl) rfl ?_
          refine r_goto X (tgt := 5) d_Si_fitting_38 (by decide) ?_
          refine V.wk [2, 3, 1, 0] (V.eq (ih_L5_1 (i + 1) (by omega) ) ?_ ?_ ?_ rfl) (rfl : lv_pick _ [2, 3, 1, 0] = [(0, .ref (ads o (86))), (1, .ref (ads o (1))), (2, .long ((stB (fun k => cb (ml 2 k) (ml 87) (mi 88) s) (i)) ||| (shl (1) (i)))), (4, .int (nI (i + 1)))])
          · rfl
          · rfl
          · first | (rw [stB_y (by assumption)]; done) | (rw [stB_n (by assumption)]; done) | (rw [stB_y] <;> simp_all; done) | (rw [stB_n] <;> simp_all; done)
  refine V.wk [2, 3, 1, 0] (V.eq (L5_1 (n - 0) 0 (by omega) ) ?_ ?_ ?_ rfl) (rfl : lv_pick _ [2, 3, 1, 0] = [(0, .ref (ads o (86))), (1, .ref (ads o (1))), (2, .long (0)), (4, .int (nI (0)))])
  · rfl
  · rfl
  · rfl

set_option maxHeartbeats 4000000 in
set_option maxRecDepth 100000 in
theorem m_Si_leastFitting (l : Launch) (o : OM) (mi : MI) (ml : ML) (n : Nat) (s : Nat) (hn : mi 1 2 = nI n) (hn40 : n ≤ 40) (hs : mi 86 3 = nI s) (hs6 : s ≤ 6) : ConD l y_Si_leastFitting c_Si_leastFitting 2 (some .int) 4 91 o [.ref (ads o (86)), .ref (ads o (1))] mi ml (some (.int ((fromB (bt (stB (fun k => cb (ml 2 k) (ml 87) (mi 88) s) n)) 64 0)))) mi ml := by
  refine Con.mk (by decide) (Nat.le_of_ble_eq_true rfl) (fun γ X => ?_)
  show V γ o 2 mi ml 0 [(0, .ref (ads o (86))), (1, .ref (ads o (1)))] []
  refine r_aload_n X 0 d_Si_leastFitting_0 rfl rfl ?_
  refine r_aload_n X 1 d_Si_leastFitting_1 rfl rfl ?_
  refine r_callV X (m_Si_fitting l o mi ml n s (hn) hn40 (hs) hs6) ok_Si_fitting w_Si_40 rfl b_86 e_86 rfl ⟨Nat.le_of_ble_eq_true rfl, Nat.le_of_ble_eq_true rfl⟩ (rest := []) rfl (Nat.le_of_ble_eq_true rfl) d_Si_leastFitting_2 ?_
  refine kD (st' := [.long (stB (fun k => cb (ml 2 k) (ml 87) (mi 88) s) n)]) rfl ?_
  refine r_callN X (m_Nm_leastOf l o mi ml (stB (fun k => cb (ml 2 k) (ml 87) (mi 88) s) n)) ok_Nm_leastOf (host := "NearMarks") (by decide +kernel) rfl ⟨Nat.le_of_ble_eq_true rfl, Nat.le_of_ble_eq_true rfl⟩ (rest := []) rfl (Nat.le_of_ble_eq_true rfl) d_Si_leastFitting_5 ?_
  refine kD (st' := [.int ((fromB (bt (stB (fun k => cb (ml 2 k) (ml 87) (mi 88) s) n)) 64 0))]) rfl ?_
  refine r_end_i X d_Si_leastFitting_8 ?_
  first | exact ⟨rfl, rfl, rfl⟩ | (refine ⟨?_, rfl, rfl⟩; simp_all)

set_option maxHeartbeats 4000000 in
set_option maxRecDepth 100000 in
theorem m_Si_greatestLeft (l : Launch) (o : OM) (mi : MI) (ml : ML) (x : Int64) (k : Nat) (n : Nat) (hn : mi 1 2 = nI n) (hn40 : n ≤ 40) (hk : k < n) : Con l y_Si_greatestLeft c_Si_greatestLeft 8 (some .int) 3 66 o [.ref (ads o (86)), .ref (ads o (1)), .long (x), .int (nI (k))] mi ml (fun v m z => v = some (.int (nI (mstC (fun q => ds (ml 2 q) (ml 2 k)) (bt x) n))) ∧ (∀ q, q ≠ 89 → m q = mi q) ∧ z = ml) := by
  refine Con.mk (by decide) (Nat.le_of_ble_eq_true rfl) (fun γ X => ?_)
  show V γ o 8 mi ml 0 [(0, .ref (ads o (86))), (1, .ref (ads o (1))), (2, .long (x)), (4, .int (nI (k)))] []
  refine r_iconst X (v := nI (0)) d_Si_greatestLeft_0 (by decide) ?_
  refine r_istore X [(5, .int (nI (0))), (0, .ref (ads o (86))), (1, .ref (ads o (1))), (2, .long (x)), (4, .int (nI (k)))] d_Si_greatestLeft_1 (Nat.le_of_ble_eq_true rfl) rfl ?_
  have L3_1 : ∀ (d_t t : Nat), t + d_t = 65 → ∀ (mi_L3_1 : MI), (∀ q, q ≠ 89 → mi_L3_1 q = mi q) → (∀ q, q < t → mi_L3_1 89 q = nI 0) → V γ o 8 mi_L3_1 ml 3 [(0, .ref (ads o (86))), (1, .ref (ads o (1))), (2, .long (x)), (4, .int (nI (k))), (5, .int (nI (t)))] [] := by
    intro d_t
    induction d_t with
    | zero =>
      intro t hi_L3_1 mi_L3_1 hf1 hz1
      have he_L3_1 : 65 = t := by omega
      subst he_L3_1
      refine r_iload X 4 d_Si_greatestLeft_3 rfl ?_
      refine r_bipush X (v := nI (64)) d_Si_greatestLeft_5 (by decide) ?_
      refine r_icgt X (tgt := 24) (c := 64 < 65) d_Si_greatestLeft_7 (by decide) (nI_ltI (Nat.le_of_ble_eq_true rfl) (by omega)) (fun c_7 => ?_) (fun c_7 => ?_)
      · -- taken
        refine r_iconst X (v := nI (0)) d_Si_greatestLeft_24 (by decide) ?_
        refine r_istore X [(5, .int (nI (0))), (0, .ref (ads o (86))), (1, .ref (ads o (1))), (2, .long (x)), (4, .int (nI (k)))] d_Si_greatestLeft_25 (Nat.le_of_ble_eq_true rfl) rfl ?_
        refine r_iconst X (v := nI (0)) d_Si_greatestLeft_27 (by decide) ?_
        refine r_istore X [(6, .int (nI (0))), (5, .int (nI (0))), (0, .ref (ads o (86))), (1, .ref (ads o (1))), (2, .long (x)), (4, .int (nI (k)))] d_Si_greatestLeft_28 (Nat.le_of_ble_eq_true rfl) rfl ?_
        have L30_2 : ∀ (d_j j : Nat), j + d_j = n → ∀ (mi_L30_2 : MI), (∀ q, q ≠ 89 → mi_L30_2 q = mi q) → (∀ t, t < 65 → mi_L30_2 89 t = nI (cn (fun q => ds (ml 2 q) (ml 2 k)) (bt x) t (j))) → V γ o 8 mi_L30_2 ml 30 [(0, .ref (ads o (86))), (1, .ref (ads o (1))), (2, .long (x)), (4, .int (nI (k))), (5, .int (nI (mstC (fun q => ds (ml 2 q) (ml 2 k)) (bt x) (j)))), (6, .int (nI (j)))] [] := by
          intro d_j
          induction d_j with
          | zero =>
            intro j hi_L30_2 mi_L30_2 hf2 hc2
            have he_L30_2 : n = j := by omega
            subst he_L30_2
            refine r_iload X 5 d_Si_greatestLeft_30 rfl ?_
            refine r_aload_n X 1 d_Si_greatestLeft_32 rfl rfl ?_
            refine r_get X f_Si_30 b_1 e_1 (v := .int (nI (n))) (congrArg (fun z => some (Value.int z)) ((by rw [hf2 1 (by decide)]; exact hn))) d_Si_greatestLeft_33 ?_
            refine r_icge X (tgt := 89) (c := n ≤ n) d_Si_greatestLeft_36 (by decide) (nI_leI (by omega) (by omega)) (fun c_36 => ?_) (fun c_36 => ?_)
            · -- taken
              refine r_iload X 4 d_Si_greatestLeft_89 rfl ?_
              refine r_end_i X d_Si_greatestLeft_91 ?_
              exact ⟨rfl, hf2, rfl⟩
            · -- not taken
              exact False.elim (by omega)
          | succ d_j ih_L30_2 =>
            intro j hi_L30_2 mi_L30_2 hf2 hc2
            have hlt_L30_2 : j < n := by omega
            have hm := mstC_le (fun q => ds (ml 2 q) (ml 2 k)) (bt x) j
            have hcn := cn_le (fun q => ds (ml 2 q) (ml 2 k)) (bt x) (ds (ml 2 j) (ml 2 k)) j
            refine r_iload X 5 d_Si_greatestLeft_30 rfl ?_
            refine r_aload_n X 1 d_Si_greatestLeft_32 rfl rfl ?_
            refine r_get X f_Si_30 b_1 e_1 (v := .int (nI (n))) (congrArg (fun z => some (Value.int z)) ((by rw [hf2 1 (by decide)]; exact hn))) d_Si_greatestLeft_33 ?_
            refine r_icge X (tgt := 89) (c := n ≤ j) d_Si_greatestLeft_36 (by decide) (nI_leI (by omega) (by omega)) (fun c_36_3 => ?_) (fun c_36_3 => ?_)
            · -- taken
              exact False.elim (by omega)
            · -- not taken
              refine r_lload_n X 2 d_Si_greatestLeft_39 rfl rfl ?_
              refine r_iload X 5 d_Si_greatestLeft_40 rfl ?_
              refine r_callN X (m_Nm_hasBit l o mi_L30_2 ml x j (by omega)) ok_Nm_hasBit (host := "NearMarks") (by decide +kernel) rfl ⟨Nat.le_of_ble_eq_true rfl, Nat.le_of_ble_eq_true rfl⟩ (rest := []) rfl (Nat.le_of_ble_eq_true rfl) d_Si_greatestLeft_42 ?_
              refine kD (st' := [.int (bI (bt x j))]) rfl ?_
              refine r_ifeqB X (tgt := 83) (b := bt x j) d_Si_greatestLeft_45 (by decide) (fun c_45 => ?_) (fun c_45 => ?_)
              · -- taken
                refine r_iinc X 5 (v := nI (j + 1)) [(6, .int (nI (j + 1))), (0, .ref (ads o (86))), (1, .ref (ads o (1))), (2, .long (x)), (4, .int (nI (k))), (5, .int (nI (mstC (fun q => ds (ml 2 q) (ml 2 k)) (bt x) (j))))] d_Si_greatestLeft_83 rfl (nI_add _ 1) (Nat.le_of_ble_eq_true rfl) rfl ?_
                refine r_goto X (tgt := 30) d_Si_greatestLeft_86 (by decide) ?_
                refine V.wk [1, 2, 3, 4, 5, 0] (V.eq (ih_L30_2 (j + 1) (by omega) (mi_L30_2) (fun q hq => by first | exact hf2 q hq | (rw [u2_n _ _ _ hq]; exact hf2 q hq)) (by first | exact cn_noA (by assumption) hc2 | exact cn_yesA (by assumption) rfl hc2)) ?_ ?_ ?_ rfl) (rfl : lv_pick _ [1, 2, 3, 4, 5, 0] = [(0, .ref (ads o (86))), (1, .ref (ads o (1))), (2, .long (x)), (4, .int (nI (k))), (5, .int (nI (mstC (fun q => ds (ml 2 q) (ml 2 k)) (bt x) (j)))), (6, .int (nI (j + 1)))])
                · rfl
                · rfl
                · first | (rw [mstC_y (by assumption)]; first | done | rfl) | (rw [mstC_n (by assumption)]; first | done | rfl)
              · -- not taken
                refine r_aload_n X 1 d_Si_greatestLeft_48 rfl rfl ?_
                refine r_iload X 5 d_Si_greatestLeft_49 rfl ?_
                refine r_iload X 3 d_Si_greatestLeft_51 rfl ?_
                refine r_callV X (m_St_between l o mi_L30_2 ml 1 j k isSt.now (by omega) (by omega)) ok_St_between w_Si_61 rfl b_1 e_1 rfl ⟨Nat.le_of_ble_eq_true rfl, Nat.le_of_ble_eq_true rfl⟩ (rest := []) rfl (Nat.le_of_ble_eq_true rfl) d_Si_greatestLeft_53 ?_
                refine kD (st' := [.int (nI (ds (ml 2 j) (ml 2 k)))]) rfl ?_
                refine r_istore X [(7, .int (nI (ds (ml 2 j) (ml 2 k)))), (0, .ref (ads o (86))), (1, .ref (ads o (1))), (2, .long (x)), (4, .int (nI (k))), (5, .int (nI (mstC (fun q => ds (ml 2 q) (ml 2 k)) (bt x) (j)))), (6, .int (nI (j)))] d_Si_greatestLeft_56 (Nat.le_of_ble_eq_true rfl) rfl ?_
                refine r_aload_n X 1 d_Si_greatestLeft_58 rfl rfl ?_
                refine r_get X f_Si_19 b_86 e_86 (v := .ref (ads o (89))) rfl d_Si_greatestLeft_59 ?_
                refine r_iload X 0 d_Si_greatestLeft_62 rfl ?_
                refine r_dup2_11 X d_Si_greatestLeft_64 rfl rfl ?_
                refine r_iald X (v := nI (cn (fun q => ds (ml 2 q) (ml 2 k)) (bt x) (ds (ml 2 j) (ml 2 k)) j)) b_89 e_89 (Nat.le_of_ble_eq_true rfl) (Nat.lt_succ_of_le (ds_le _ _)) (hc2 _ (Nat.lt_succ_of_le (ds_le _ _))) d_Si_greatestLeft_65 ?_
                refine r_iconst X (v := nI (1)) d_Si_greatestLeft_66 (by decide) ?_
                refine r_iadd X (v := nI (cn (fun q => ds (ml 2 q) (ml 2 k)) (bt x) (ds (ml 2 j) (ml 2 k)) j + 1)) d_Si_greatestLeft_67 (nI_add _ _) ?_
                refine r_iast X b_89 e_89 (Nat.le_of_ble_eq_true rfl) (Nat.lt_succ_of_le (ds_le _ _)) d_Si_greatestLeft_68 ?_
                refine r_iload X 5 d_Si_greatestLeft_69 rfl ?_
                refine r_aload_n X 1 d_Si_greatestLeft_71 rfl rfl ?_
                refine r_get X f_Si_19 b_86 e_86 (v := .ref (ads o (89))) rfl d_Si_greatestLeft_72 ?_
                refine r_iload X 0 d_Si_greatestLeft_75 rfl ?_
                refine r_iald X (v := nI (cn (fun q => ds (ml 2 q) (ml 2 k)) (bt x) (ds (ml 2 j) (ml 2 k)) j + 1)) b_89 e_89 (Nat.le_of_ble_eq_true rfl) (Nat.lt_succ_of_le (ds_le _ _)) ((by rw [u2_s, uf_s])) d_Si_greatestLeft_77 ?_
                refine r_max X (by omega) (by omega) w_Si_65 (Nat.le_of_ble_eq_true rfl) (Nat.le_of_ble_eq_true rfl) d_Si_greatestLeft_78 ?_
                refine r_istore X [(5, .int (nI (if decide ((mstC (fun q => ds (ml 2 q) (ml 2 k)) (bt x) (j)) < (cn (fun q => ds (ml 2 q) (ml 2 k)) (bt x) (ds (ml 2 j) (ml 2 k)) j + 1)) then cn (fun q => ds (ml 2 q) (ml 2 k)) (bt x) (ds (ml 2 j) (ml 2 k)) j + 1 else mstC (fun q => ds (ml 2 q) (ml 2 k)) (bt x) (j)))), (7, .int (nI (ds (ml 2 j) (ml 2 k)))), (0, .ref (ads o (86))), (1, .ref (ads o (1))), (2, .long (x)), (4, .int (nI (k))), (6, .int (nI (j)))] d_Si_greatestLeft_81 (Nat.le_of_ble_eq_true rfl) rfl ?_
                refine r_iinc X 6 (v := nI (j + 1)) [(6, .int (nI (j + 1))), (5, .int (nI (if decide ((mstC (fun q => ds (ml 2 q) (ml 2 k)) (bt x) (j)) < (cn (fun q => ds (ml 2 q) (ml 2 k)) (bt x) (ds (ml 2 j) (ml 2 k)) j + 1)) then cn (fun q => ds (ml 2 q) (ml 2 k)) (bt x) (ds (ml 2 j) (ml 2 k)) j + 1 else mstC (fun q => ds (ml 2 q) (ml 2 k)) (bt x) (j)))), (7, .int (nI (ds (ml 2 j) (ml 2 k)))), (0, .ref (ads o (86))), (1, .ref (ads o (1))), (2, .long (x)), (4, .int (nI (k)))] d_Si_greatestLeft_83 rfl (nI_add _ 1) (Nat.le_of_ble_eq_true rfl) rfl ?_
                refine r_goto X (tgt := 30) d_Si_greatestLeft_86 (by decide) ?_
                refine V.wk [3, 4, 5, 6, 1, 0] (V.eq (ih_L30_2 (j + 1) (by omega) ((u2 mi_L30_2 89 (ds (ml 2 j) (ml 2 k)) (nI (cn (fun q => ds (ml 2 q) (ml 2 k)) (bt x) (ds (ml 2 j) (ml 2 k)) j + 1)))) (fun q hq => by first | exact hf2 q hq | (rw [u2_n _ _ _ hq]; exact hf2 q hq)) (by first | exact cn_noA (by assumption) hc2 | exact cn_yesA (by assumption) rfl hc2)) ?_ ?_ ?_ rfl) (rfl : lv_pick _ [3, 4, 5, 6, 1, 0] = [(0, .ref (ads o (86))), (1, .ref (ads o (1))), (2, .long (x)), (4, .int (nI (k))), (5, .int (nI (if decide ((mstC (fun q => ds (ml 2 q) (ml 2 k)) (bt x) (j)) < (cn (fun q => ds (ml 2 q) (ml 2 k)) (bt x) (ds (ml 2 j) (ml 2 k)) j + 1)) then cn (fun q => ds (ml 2 q) (ml 2 k)) (bt x) (ds (ml 2 j) (ml 2 k)) j + 1 else mstC (fun q => ds (ml 2 q) (ml 2 k)) (bt x) (j)))), (6, .int (nI (j + 1)))])
                · rfl
                · rfl
                · first | (rw [mstC_y (by assumption)]; first | done | rfl) | (rw [mstC_n (by assumption)]; first | done | rfl)
        refine V.wk [2, 3, 4, 5, 1, 0] (V.eq (L30_2 (n - 0) 0 (by omega) (mi_L3_1) (hf1) (fun t ht => hz1 t ht)) ?_ ?_ ?_ rfl) (rfl : lv_pick _ [2, 3, 4, 5, 1, 0] = [(0, .ref (ads o (86))), (1, .ref (ads o (1))), (2, .long (x)), (4, .int (nI (k))), (5, .int (nI (0))), (6, .int (nI (0)))])
        · rfl
        · rfl
        · rfl
      · -- not taken
        exact False.elim (by omega)
    | succ d_t ih_L3_1 =>
      intro t hi_L3_1 mi_L3_1 hf1 hz1
      have hlt_L3_1 : t < 65 := by omega
      refine r_iload X 4 d_Si_greatestLeft_3 rfl ?_
      refine r_bipush X (v := nI (64)) d_Si_greatestLeft_5 (by decide) ?_
      refine r_icgt X (tgt := 24) (c := 64 < t) d_Si_greatestLeft_7 (by decide) (nI_ltI (Nat.le_of_ble_eq_true rfl) (by omega)) (fun c_7_4 => ?_) (fun c_7_4 => ?_)
      · -- taken
        exact False.elim (by omega)
      · -- not taken
        refine r_aload_n X 0 d_Si_greatestLeft_10 rfl rfl ?_
        refine r_get X f_Si_19 b_86 e_86 (v := .ref (ads o (89))) rfl d_Si_greatestLeft_11 ?_
        refine r_iload X 4 d_Si_greatestLeft_14 rfl ?_
        refine r_iconst X (v := nI (0)) d_Si_greatestLeft_16 (by decide) ?_
        refine r_iast X b_89 e_89 (Nat.le_of_ble_eq_true rfl) (by omega) d_Si_greatestLeft_17 ?_
        refine r_iinc X 4 (v := nI (t + 1)) [(5, .int (nI (t + 1))), (0, .ref (ads o (86))), (1, .ref (ads o (1))), (2, .long (x)), (4, .int (nI (k)))] d_Si_greatestLeft_18 rfl (nI_add _ 1) (Nat.le_of_ble_eq_true rfl) rfl ?_
        refine r_goto X (tgt := 3) d_Si_greatestLeft_21 (by decide) ?_
        refine V.wk [1, 2, 3, 4, 0] (V.eq (ih_L3_1 (t + 1) (by omega) ((u2 mi_L3_1 89 t (nI (0)))) (fun q hq => by rw [u2_n _ _ _ hq]; exact hf1 q hq) (zf_step hz1)) ?_ ?_ ?_ rfl) (rfl : lv_pick _ [1, 2, 3, 4, 0] = [(0, .ref (ads o (86))), (1, .ref (ads o (1))), (2, .long (x)), (4, .int (nI (k))), (5, .int (nI (t + 1)))])
        · rfl
        · rfl
        · first | rfl | (simp_all [ct, lastB, alB, fromB]; done)
  refine V.wk [1, 2, 3, 4, 0] (V.eq (L3_1 (65 - 0) 0 (by omega) (mi) (fun _ _ => rfl) (fun q hq => absurd hq (by omega))) ?_ ?_ ?_ rfl) (rfl : lv_pick _ [1, 2, 3, 4, 0] = [(0, .ref (ads o (86))), (1, .ref (ads o (1))), (2, .long (x)), (4, .int (nI (k))), (5, .int (nI (0)))])
  · rfl
  · rfl
  · rfl

set_option maxHeartbeats 4000000 in
set_option maxRecDepth 100000 in
theorem m_Si_bestToAsk (l : Launch) (o : OM) (mi : MI) (ml : ML) (n : Nat) (s : Nat) (hn : mi 1 2 = nI n) (hn40 : n ≤ 40) (hs : mi 86 3 = nI s) (hs6 : s ≤ 6) : Con l y_Si_bestToAsk c_Si_bestToAsk 8 (some .int) 4 93 o [.ref (ads o (86)), .ref (ads o (1))] mi ml (fun v m z => v = some (.int (askS (fun k => mstC (fun q => ds (ml 2 q) (ml 2 k)) (bt (stB (fun k => cb (ml 2 k) (ml 87) (mi 88) s) n)) n) (pop (stB (fun k => cb (ml 2 k) (ml 87) (mi 88) s) n)) (n)).2) ∧ (∀ q, q ≠ 89 → m q = mi q) ∧ z = ml) := by
  refine Con.mk (by decide) (Nat.le_of_ble_eq_true rfl) (fun γ X => ?_)
  show V γ o 8 mi ml 0 [(0, .ref (ads o (86))), (1, .ref (ads o (1)))] []
  refine r_aload_n X 0 d_Si_bestToAsk_0 rfl rfl ?_
  refine r_aload_n X 1 d_Si_bestToAsk_1 rfl rfl ?_
  refine r_callV X (m_Si_fitting l o mi ml n s (hn) hn40 (hs) hs6) ok_Si_fitting w_Si_40 rfl b_86 e_86 rfl ⟨Nat.le_of_ble_eq_true rfl, Nat.le_of_ble_eq_true rfl⟩ (rest := []) rfl (Nat.le_of_ble_eq_true rfl) d_Si_bestToAsk_2 ?_
  refine kD (st' := [.long (stB (fun k => cb (ml 2 k) (ml 87) (mi 88) s) n)]) rfl ?_
  refine r_lstore_n X [(2, .long (stB (fun k => cb (ml 2 k) (ml 87) (mi 88) s) n)), (0, .ref (ads o (86))), (1, .ref (ads o (1)))] d_Si_bestToAsk_5 rfl (Nat.le_of_ble_eq_true rfl) rfl ?_
  refine r_lload_n X 0 d_Si_bestToAsk_6 rfl rfl ?_
  refine r_callS X (m_Lg_bitCount l o mi ml (stB (fun k => cb (ml 2 k) (ml 87) (mi 88) s) n)) ok_Lg_bitCount w_Si_48 rfl ⟨Nat.le_of_ble_eq_true rfl, Nat.le_of_ble_eq_true rfl⟩ (rest := []) rfl (Nat.le_of_ble_eq_true rfl) d_Si_bestToAsk_7 ?_
  refine kD (st' := [.int (nI (pop (stB (fun k => cb (ml 2 k) (ml 87) (mi 88) s) n)))]) rfl ?_
  refine r_istore X [(4, .int (nI (pop (stB (fun k => cb (ml 2 k) (ml 87) (mi 88) s) n)))), (2, .long (stB (fun k => cb (ml 2 k) (ml 87) (mi 88) s) n)), (0, .ref (ads o (86))), (1, .ref (ads o (1)))] d_Si_bestToAsk_10 (Nat.le_of_ble_eq_true rfl) rfl ?_
  refine r_iconst X (v := ((-1 : Int32))) d_Si_bestToAsk_12 (by decide) ?_
  refine r_istore X [(5, .int (((-1 : Int32)))), (4, .int (nI (pop (stB (fun k => cb (ml 2 k) (ml 87) (mi 88) s) n)))), (2, .long (stB (fun k => cb (ml 2 k) (ml 87) (mi 88) s) n)), (0, .ref (ads o (86))), (1, .ref (ads o (1)))] d_Si_bestToAsk_13 (Nat.le_of_ble_eq_true rfl) rfl ?_
  refine r_iconst X (v := nI (0)) d_Si_bestToAsk_15 (by decide) ?_
  refine r_istore X [(6, .int (nI (0))), (5, .int (((-1 : Int32)))), (4, .int (nI (pop (stB (fun k => cb (ml 2 k) (ml 87) (mi 88) s) n)))), (2, .long (stB (fun k => cb (ml 2 k) (ml 87) (mi 88) s) n)), (0, .ref (ads o (86))), (1, .ref (ads o (1)))] d_Si_bestToAsk_16 (Nat.le_of_ble_eq_true rfl) rfl ?_
  have L18_1 : ∀ (d_i i : Nat), i + d_i = n → ∀ (mi_L18_1 : MI), (∀ q, q ≠ 89 → mi_L18_1 q = mi q) → V γ o 8 mi_L18_1 ml 18 [(0, .ref (ads o (86))), (1, .ref (ads o (1))), (2, .long (stB (fun k => cb (ml 2 k) (ml 87) (mi 88) s) n)), (4, .int (nI ((askS (fun k => mstC (fun q => ds (ml 2 q) (ml 2 k)) (bt (stB (fun k => cb (ml 2 k) (ml 87) (mi 88) s) n)) n) (pop (stB (fun k => cb (ml 2 k) (ml 87) (mi 88) s) n)) (i)).1))), (5, .int (((askS (fun k => mstC (fun q => ds (ml 2 q) (ml 2 k)) (bt (stB (fun k => cb (ml 2 k) (ml 87) (mi 88) s) n)) n) (pop (stB (fun k => cb (ml 2 k) (ml 87) (mi 88) s) n)) (i)).2))), (6, .int (nI (i)))] [] := by
    intro d_i
    induction d_i with
    | zero =>
      intro i hi_L18_1 mi_L18_1 hf
      have he_L18_1 : n = i := by omega
      subst he_L18_1
      refine r_iload X 5 d_Si_bestToAsk_18 rfl ?_
      refine r_aload_n X 1 d_Si_bestToAsk_20 rfl rfl ?_
      refine r_get X f_Si_30 b_1 e_1 (v := .int (nI (n))) (congrArg (fun z => some (Value.int z)) ((by rw [hf 1 (by decide)]; exact hn))) d_Si_bestToAsk_21 ?_
      refine r_icge X (tgt := 58) (c := n ≤ n) d_Si_bestToAsk_24 (by decide) (nI_leI (by omega) (by omega)) (fun c_24 => ?_) (fun c_24 => ?_)
      · -- taken
        refine r_iload X 4 d_Si_bestToAsk_58 rfl ?_
        refine r_end_i X d_Si_bestToAsk_60 ?_
        exact ⟨rfl, hf, rfl⟩
      · -- not taken
        exact False.elim (by omega)
    | succ d_i ih_L18_1 =>
      intro i hi_L18_1 mi_L18_1 hf
      have hlt_L18_1 : i < n := by omega
      have hA := askS_le (fun k => mstC (fun q => ds (ml 2 q) (ml 2 k)) (bt (stB (fun k => cb (ml 2 k) (ml 87) (mi 88) s) n)) n) (pop (stB (fun k => cb (ml 2 k) (ml 87) (mi 88) s) n)) i
      have hp := pop_le (stB (fun k => cb (ml 2 k) (ml 87) (mi 88) s) n)
      have hmc := mstC_le (fun q => ds (ml 2 q) (ml 2 i)) (bt (stB (fun k => cb (ml 2 k) (ml 87) (mi 88) s) n)) n
      refine r_iload X 5 d_Si_bestToAsk_18 rfl ?_
      refine r_aload_n X 1 d_Si_bestToAsk_20 rfl rfl ?_
      refine r_get X f_Si_30 b_1 e_1 (v := .int (nI (n))) (congrArg (fun z => some (Value.int z)) ((by rw [hf 1 (by decide)]; exact hn))) d_Si_bestToAsk_21 ?_
      refine r_icge X (tgt := 58) (c := n ≤ i) d_Si_bestToAsk_24 (by decide) (nI_leI (by omega) (by omega)) (fun c_24_2 => ?_) (fun c_24_2 => ?_)
      · -- taken
        exact False.elim (by omega)
      · -- not taken
        refine r_aload_n X 0 d_Si_bestToAsk_27 rfl rfl ?_
        refine r_aload_n X 1 d_Si_bestToAsk_28 rfl rfl ?_
        refine r_lload_n X 2 d_Si_bestToAsk_29 rfl rfl ?_
        refine r_iload X 5 d_Si_bestToAsk_30 rfl ?_
        refine r_callV X (m_Si_greatestLeft l o mi_L18_1 ml (stB (fun k => cb (ml 2 k) (ml 87) (mi 88) s) n) i n ((by rw [hf 1 (by decide)]; exact hn)) (by omega) (by omega)) ok_Si_greatestLeft w_Si_53 rfl b_86 e_86 rfl ⟨Nat.le_of_ble_eq_true rfl, Nat.le_of_ble_eq_true rfl⟩ (rest := []) rfl (Nat.le_of_ble_eq_true rfl) d_Si_bestToAsk_32 ?_
        rintro _ mi_e3 zz ⟨rfl, hfe, hz⟩
        have hz := hz.symm
        subst hz
        show V γ o 8 mi_e3 ml 35 [(0, .ref (ads o (86))), (1, .ref (ads o (1))), (2, .long (stB (fun k => cb (ml 2 k) (ml 87) (mi 88) s) n)), (4, .int (nI ((askS (fun k => mstC (fun q => ds (ml 2 q) (ml 2 k)) (bt (stB (fun k => cb (ml 2 k) (ml 87) (mi 88) s) n)) n) (pop (stB (fun k => cb (ml 2 k) (ml 87) (mi 88) s) n)) (i)).1))), (5, .int (((askS (fun k => mstC (fun q => ds (ml 2 q) (ml 2 k)) (bt (stB (fun k => cb (ml 2 k) (ml 87) (mi 88) s) n)) n) (pop (stB (fun k => cb (ml 2 k) (ml 87) (mi 88) s) n)) (i)).2))), (6, .int (nI (i)))] [.int (nI (mstC (fun q => ds (ml 2 q) (ml 2 i)) (bt (stB (fun k => cb (ml 2 k) (ml 87) (mi 88) s) n)) n))]
        refine r_istore X [(7, .int (nI (mstC (fun q => ds (ml 2 q) (ml 2 i)) (bt (stB (fun k => cb (ml 2 k) (ml 87) (mi 88) s) n)) n))), (0, .ref (ads o (86))), (1, .ref (ads o (1))), (2, .long (stB (fun k => cb (ml 2 k) (ml 87) (mi 88) s) n)), (4, .int (nI ((askS (fun k => mstC (fun q => ds (ml 2 q) (ml 2 k)) (bt (stB (fun k => cb (ml 2 k) (ml 87) (mi 88) s) n)) n) (pop (stB (fun k => cb (ml 2 k) (ml 87) (mi 88) s) n)) (i)).1))), (5, .int (((askS (fun k => mstC (fun q => ds (ml 2 q) (ml 2 k)) (bt (stB (fun k => cb (ml 2 k) (ml 87) (mi 88) s) n)) n) (pop (stB (fun k => cb (ml 2 k) (ml 87) (mi 88) s) n)) (i)).2))), (6, .int (nI (i)))] d_Si_bestToAsk_35 (Nat.le_of_ble_eq_true rfl) rfl ?_
        refine r_iload X 0 d_Si_bestToAsk_37 rfl ?_
        refine r_iload X 4 d_Si_bestToAsk_39 rfl ?_
        refine r_icge X (tgt := 52) (c := ((askS (fun k => mstC (fun q => ds (ml 2 q) (ml 2 k)) (bt (stB (fun k => cb (ml 2 k) (ml 87) (mi 88) s) n)) n) (pop (stB (fun k => cb (ml 2 k) (ml 87) (mi 88) s) n)) (i)).1) ≤ (mstC (fun q => ds (ml 2 q) (ml 2 i)) (bt (stB (fun k => cb (ml 2 k) (ml 87) (mi 88) s) n)) n)) d_Si_bestToAsk_41 (by decide) (nI_leI (by omega) (by omega)) (fun c_41 => ?_) (fun c_41 => ?_)
        · -- taken
          refine r_iinc X 6 (v := nI (i + 1)) [(6, .int (nI (i + 1))), (7, .int (nI (mstC (fun q => ds (ml 2 q) (ml 2 i)) (bt (stB (fun k => cb (ml 2 k) (ml 87) (mi 88) s) n)) n))), (0, .ref (ads o (86))), (1, .ref (ads o (1))), (2, .long (stB (fun k => cb (ml 2 k) (ml 87) (mi 88) s) n)), (4, .int (nI ((askS (fun k => mstC (fun q => ds (ml 2 q) (ml 2 k)) (bt (stB (fun k => cb (ml 2 k) (ml 87) (mi 88) s) n)) n) (pop (stB (fun k => cb (ml 2 k) (ml 87) (mi 88) s) n)) (i)).1))), (5, .int (((askS (fun k => mstC (fun q => ds (ml 2 q) (ml 2 k)) (bt (stB (fun k => cb (ml 2 k) (ml 87) (mi 88) s) n)) n) (pop (stB (fun k => cb (ml 2 k) (ml 87) (mi 88) s) n)) (i)).2)))] d_Si_bestToAsk_52 rfl (nI_add _ 1) (Nat.le_of_ble_eq_true rfl) rfl ?_
          refine r_goto X (tgt := 18) d_Si_bestToAsk_55 (by decide) ?_
          refine V.wk [2, 3, 4, 5, 6, 0] (V.eq (ih_L18_1 (i + 1) (by omega) (mi_e3) (fun q hq => by rw [hfe q hq]; exact hf q hq)) ?_ ?_ ?_ rfl) (rfl : lv_pick _ [2, 3, 4, 5, 6, 0] = [(0, .ref (ads o (86))), (1, .ref (ads o (1))), (2, .long (stB (fun k => cb (ml 2 k) (ml 87) (mi 88) s) n)), (4, .int (nI ((askS (fun k => mstC (fun q => ds (ml 2 q) (ml 2 k)) (bt (stB (fun k => cb (ml 2 k) (ml 87) (mi 88) s) n)) n) (pop (stB (fun k => cb (ml 2 k) (ml 87) (mi 88) s) n)) (i)).1))), (5, .int (((askS (fun k => mstC (fun q => ds (ml 2 q) (ml 2 k)) (bt (stB (fun k => cb (ml 2 k) (ml 87) (mi 88) s) n)) n) (pop (stB (fun k => cb (ml 2 k) (ml 87) (mi 88) s) n)) (i)).2))), (6, .int (nI (i + 1)))])
          · rfl
          · rfl
          · first | (rw [askS_y (by assumption)]; done) | (rw [askS_n (by assumption)]; done)
        · -- not taken
          refine r_iload X 0 d_Si_bestToAsk_44 rfl ?_
          refine r_istore X [(4, .int (nI (mstC (fun q => ds (ml 2 q) (ml 2 i)) (bt (stB (fun k => cb (ml 2 k) (ml 87) (mi 88) s) n)) n))), (7, .int (nI (mstC (fun q => ds (ml 2 q) (ml 2 i)) (bt (stB (fun k => cb (ml 2 k) (ml 87) (mi 88) s) n)) n))), (0, .ref (ads o (86))), (1, .ref (ads o (1))), (2, .long (stB (fun k => cb (ml 2 k) (ml 87) (mi 88) s) n)), (5, .int (((askS (fun k => mstC (fun q => ds (ml 2 q) (ml 2 k)) (bt (stB (fun k => cb (ml 2 k) (ml 87) (mi 88) s) n)) n) (pop (stB (fun k => cb (ml 2 k) (ml 87) (mi 88) s) n)) (i)).2))), (6, .int (nI (i)))] d_Si_bestToAsk_46 (Nat.le_of_ble_eq_true rfl) rfl ?_
          refine r_iload X 6 d_Si_bestToAsk_48 rfl ?_
          refine r_istore X [(5, .int (nI (i))), (4, .int (nI (mstC (fun q => ds (ml 2 q) (ml 2 i)) (bt (stB (fun k => cb (ml 2 k) (ml 87) (mi 88) s) n)) n))), (7, .int (nI (mstC (fun q => ds (ml 2 q) (ml 2 i)) (bt (stB (fun k => cb (ml 2 k) (ml 87) (mi 88) s) n)) n))), (0, .ref (ads o (86))), (1, .ref (ads o (1))), (2, .long (stB (fun k => cb (ml 2 k) (ml 87) (mi 88) s) n)), (6, .int (nI (i)))] d_Si_bestToAsk_50 (Nat.le_of_ble_eq_true rfl) rfl ?_
          refine r_iinc X 6 (v := nI (i + 1)) [(6, .int (nI (i + 1))), (5, .int (nI (i))), (4, .int (nI (mstC (fun q => ds (ml 2 q) (ml 2 i)) (bt (stB (fun k => cb (ml 2 k) (ml 87) (mi 88) s) n)) n))), (7, .int (nI (mstC (fun q => ds (ml 2 q) (ml 2 i)) (bt (stB (fun k => cb (ml 2 k) (ml 87) (mi 88) s) n)) n))), (0, .ref (ads o (86))), (1, .ref (ads o (1))), (2, .long (stB (fun k => cb (ml 2 k) (ml 87) (mi 88) s) n))] d_Si_bestToAsk_52 rfl (nI_add _ 1) (Nat.le_of_ble_eq_true rfl) rfl ?_
          refine r_goto X (tgt := 18) d_Si_bestToAsk_55 (by decide) ?_
          refine V.wk [4, 5, 6, 2, 1, 0] (V.eq (ih_L18_1 (i + 1) (by omega) (mi_e3) (fun q hq => by rw [hfe q hq]; exact hf q hq)) ?_ ?_ ?_ rfl) (rfl : lv_pick _ [4, 5, 6, 2, 1, 0] = [(0, .ref (ads o (86))), (1, .ref (ads o (1))), (2, .long (stB (fun k => cb (ml 2 k) (ml 87) (mi 88) s) n)), (4, .int (nI (mstC (fun q => ds (ml 2 q) (ml 2 i)) (bt (stB (fun k => cb (ml 2 k) (ml 87) (mi 88) s) n)) n))), (5, .int (nI (i))), (6, .int (nI (i + 1)))])
          · rfl
          · rfl
          · first | (rw [askS_y (by assumption)]; done) | (rw [askS_n (by assumption)]; done)
  refine V.wk [4, 5, 3, 2, 1, 0] (V.eq (L18_1 (n - 0) 0 (by omega) (mi) (fun _ _ => rfl)) ?_ ?_ ?_ rfl) (rfl : lv_pick _ [4, 5, 3, 2, 1, 0] = [(0, .ref (ads o (86))), (1, .ref (ads o (1))), (2, .long (stB (fun k => cb (ml 2 k) (ml 87) (mi 88) s) n)), (4, .int (nI (pop (stB (fun k => cb (ml 2 k) (ml 87) (mi 88) s) n)))), (5, .int (((-1 : Int32)))), (6, .int (nI (0)))])
  · rfl
  · rfl
  · rfl

set_option maxHeartbeats 4000000 in
set_option maxRecDepth 100000 in
theorem m_Si_add (l : Launch) (o : OM) (mi : MI) (ml : ML) (x : Int64) (q : Nat) (s : Nat) (hs : mi 86 3 = nI s) (hs6 : s < 6) : ConD l y_Si_add c_Si_add 4 none 0 0 o [.ref (ads o (86)), .long (x), .int (nI (q))] mi ml none (u2 (u2 mi 88 s (nI q)) 86 3 (nI (s + 1))) (u2 ml 87 s x) := by
  refine Con.mk (by decide) (Nat.le_of_ble_eq_true rfl) (fun γ X => ?_)
  show V γ o 4 mi ml 0 [(0, .ref (ads o (86))), (1, .long (x)), (3, .int (nI (q)))] []
  refine r_aload_n X 0 d_Si_add_0 rfl rfl ?_
  refine r_get X f_Si_22 b_86 e_86 (v := .int (nI (s))) (congrArg (fun z => some (Value.int z)) (hs)) d_Si_add_1 ?_
  refine r_bipush X (v := nI (6)) d_Si_add_4 (by decide) ?_
  refine r_icge X (tgt := 39) (c := 6 ≤ s) d_Si_add_6 (by decide) (nI_leI (Nat.le_of_ble_eq_true rfl) (by omega)) (fun c_6 => ?_) (fun c_6 => ?_)
  · -- taken
    exact False.elim (by omega)
  · -- not taken
    refine r_aload_n X 0 d_Si_add_9 rfl rfl ?_
    refine r_get X f_Si_9 b_86 e_86 (v := .ref (ads o (87))) rfl d_Si_add_10 ?_
    refine r_aload_n X 0 d_Si_add_13 rfl rfl ?_
    refine r_get X f_Si_22 b_86 e_86 (v := .int (nI (s))) (congrArg (fun z => some (Value.int z)) (hs)) d_Si_add_14 ?_
    refine r_lload_n X 1 d_Si_add_17 rfl rfl ?_
    refine r_last X b_87 e_87 (Nat.le_of_ble_eq_true rfl) (by omega) d_Si_add_18 ?_
    refine r_aload_n X 0 d_Si_add_19 rfl rfl ?_
    refine r_get X f_Si_15 b_86 e_86 (v := .ref (ads o (88))) rfl d_Si_add_20 ?_
    refine r_aload_n X 0 d_Si_add_23 rfl rfl ?_
    refine r_get X f_Si_22 b_86 e_86 (v := .int (nI (s))) (congrArg (fun z => some (Value.int z)) (hs)) d_Si_add_24 ?_
    refine r_iload_n X 2 d_Si_add_27 rfl rfl ?_
    refine r_iast X b_88 e_88 (Nat.le_of_ble_eq_true rfl) (by omega) d_Si_add_28 ?_
    refine r_aload_n X 0 d_Si_add_29 rfl rfl ?_
    refine r_dup X d_Si_add_30 rfl ?_
    refine r_get X f_Si_22 b_86 e_86 (v := .int (nI (s))) (congrArg (fun z => some (Value.int z)) ((by rw [u2_n _ _ _ (by decide)] <;> exact hs))) d_Si_add_31 ?_
    refine r_iconst X (v := nI (1)) d_Si_add_34 (by decide) ?_
    refine r_iadd X (v := nI (s + 1)) d_Si_add_35 (nI_add _ _) ?_
    refine r_putI X fw_Si_22 b_86 e_86 (fun _ _ => rfl) (Nat.le_of_ble_eq_true rfl) d_Si_add_36 ?_
    refine r_end_v X d_Si_add_39 ?_
    exact ⟨rfl, rfl, rfl⟩

set_option maxHeartbeats 4000000 in
set_option maxRecDepth 100000 in
theorem m_Bk_isRight (l : Launch) (o : OM) (mi : MI) (ml : ML) (e : Nat) (n : Nat) (E : Nat) (B1 : Nat → Nat) (B2 : Nat → Nat) (hn : mi 1 2 = nI n) (hn40 : n ≤ 40) (hE : mi 90 3 = nI E) (hE20 : E ≤ 20) (hB1 : ∀ e, e < E → mi 91 e = nI (B1 e) ∧ B1 e < 40) (hB2 : ∀ e, e < E → mi 92 e = nI (B2 e) ∧ B2 e < 40) (he : e < E) : ConD l y_Bk_isRight c_Bk_isRight 3 (some .boolean) 3 66 o [.ref (ads o (90)), .ref (ads o (1)), .int (nI (e))] mi ml (some (.int (bI (rgC mi ml n B1 B2 e)))) mi ml := by
  refine Con.mk (by decide) (Nat.le_of_ble_eq_true rfl) (fun γ X => ?_)
  show V γ o 3 mi ml 0 [(0, .ref (ads o (90))), (1, .ref (ads o (1))), (2, .int (nI (e)))] []
  refine r_aload_n X 1 d_Bk_isRight_0 rfl rfl ?_
  refine r_aload_n X 0 d_Bk_isRight_1 rfl rfl ?_
  refine r_get X f_Bk_9 b_90 e_90 (v := .ref (ads o (91))) rfl d_Bk_isRight_2 ?_
  refine r_iload_n X 2 d_Bk_isRight_5 rfl rfl ?_
  refine r_iald X (v := nI (B1 e)) b_91 e_91 (Nat.le_of_ble_eq_true rfl) (by omega) ((hB1 _ (by omega)).1) d_Bk_isRight_6 ?_
  refine r_aload_n X 0 d_Bk_isRight_7 rfl rfl ?_
  refine r_get X f_Bk_15 b_90 e_90 (v := .ref (ads o (92))) rfl d_Bk_isRight_8 ?_
  refine r_iload_n X 2 d_Bk_isRight_11 rfl rfl ?_
  refine r_iald X (v := nI (B2 e)) b_92 e_92 (Nat.le_of_ble_eq_true rfl) (by omega) ((hB2 _ (by omega)).1) d_Bk_isRight_12 ?_
  refine r_callV X (m_St_hasBoth l o mi ml 1 (nI (B1 e)) (nI (B2 e)) n isSt.now (hn) hn40) ok_St_hasBoth w_Bk_29 rfl b_1 e_1 rfl ⟨Nat.le_of_ble_eq_true rfl, Nat.le_of_ble_eq_true rfl⟩ (rest := []) rfl (Nat.le_of_ble_eq_true rfl) d_Bk_isRight_13 ?_
  refine kD (st' := [.int (bI ((isMk n (nI (B1 e)) && (isMk n (nI (B2 e)) && !decide ((nI (B1 e)) = (nI (B2 e)))))))]) rfl ?_
  have hJ_1 : V γ o 3 mi ml 49 [(0, .ref (ads o (90))), (1, .ref (ads o (1))), (2, .int (nI (e)))] [.int (bI (((isMk n (nI (B1 e)) && (isMk n (nI (B2 e)) && !decide ((nI (B1 e)) = (nI (B2 e))))) && decide ((nI (ds (ml 2 (B1 e)) (ml 2 (B2 e)))) = (mi 93 e)))))] := by
    refine r_end_z X (bI_nar _) d_Bk_isRight_49 ?_
    first | exact ⟨rfl, rfl, rfl⟩ | (refine ⟨?_, rfl, rfl⟩; simp_all)
  refine r_ifeqB X (tgt := 48) (b := (isMk n (nI (B1 e)) && (isMk n (nI (B2 e)) && !decide ((nI (B1 e)) = (nI (B2 e)))))) d_Bk_isRight_16 (by decide) (fun c_16 => ?_) (fun c_16 => ?_)
  · -- taken
    refine r_iconst X (v := nI (0)) d_Bk_isRight_48 (by decide) ?_
    exact V.eq hJ_1 rfl rfl rfl (by rw [show (((isMk n (nI (B1 e)) && (isMk n (nI (B2 e)) && !decide ((nI (B1 e)) = (nI (B2 e))))) && decide ((nI (ds (ml 2 (B1 e)) (ml 2 (B2 e)))) = (mi 93 e)))) = false from by first | (simp only [c_16, decide_true, decide_false, Bool.not_true, Bool.not_false, Bool.true_and, Bool.false_and, Bool.and_true, Bool.and_false, Bool.true_or, Bool.false_or, Bool.or_true, Bool.or_false, if_true, if_false, ite_true, ite_false, cond_true, cond_false, Bool.false_eq_true, reduceIte]; done) | (simp [c_16]; done) | (simp_all; done)]; rfl)
  · -- not taken
    refine r_aload_n X 1 d_Bk_isRight_19 rfl rfl ?_
    refine r_aload_n X 0 d_Bk_isRight_20 rfl rfl ?_
    refine r_get X f_Bk_9 b_90 e_90 (v := .ref (ads o (91))) rfl d_Bk_isRight_21 ?_
    refine r_iload_n X 2 d_Bk_isRight_24 rfl rfl ?_
    refine r_iald X (v := nI (B1 e)) b_91 e_91 (Nat.le_of_ble_eq_true rfl) (by omega) ((hB1 _ (by omega)).1) d_Bk_isRight_25 ?_
    refine r_aload_n X 0 d_Bk_isRight_26 rfl rfl ?_
    refine r_get X f_Bk_15 b_90 e_90 (v := .ref (ads o (92))) rfl d_Bk_isRight_27 ?_
    refine r_iload_n X 2 d_Bk_isRight_30 rfl rfl ?_
    refine r_iald X (v := nI (B2 e)) b_92 e_92 (Nat.le_of_ble_eq_true rfl) (by omega) ((hB2 _ (by omega)).1) d_Bk_isRight_31 ?_
    refine r_callV X (m_St_between l o mi ml 1 (B1 e) (B2 e) isSt.now ((hB1 _ (by omega)).2) ((hB2 _ (by omega)).2)) ok_St_between w_Bk_35 rfl b_1 e_1 rfl ⟨Nat.le_of_ble_eq_true rfl, Nat.le_of_ble_eq_true rfl⟩ (rest := []) rfl (Nat.le_of_ble_eq_true rfl) d_Bk_isRight_32 ?_
    refine kD (st' := [.int (nI (ds (ml 2 (B1 e)) (ml 2 (B2 e))))]) rfl ?_
    refine r_aload_n X 0 d_Bk_isRight_35 rfl rfl ?_
    refine r_get X f_Bk_18 b_90 e_90 (v := .ref (ads o (93))) rfl d_Bk_isRight_36 ?_
    refine r_iload_n X 2 d_Bk_isRight_39 rfl rfl ?_
    refine r_iald X (v := (mi 93 e)) b_93 e_93 (Nat.le_of_ble_eq_true rfl) (by omega) rfl d_Bk_isRight_40 ?_
    refine r_icneP X (tgt := 48) (c := (nI (ds (ml 2 (B1 e)) (ml 2 (B2 e)))) = (mi 93 e)) d_Bk_isRight_41 (by decide) (Iff.rfl) (fun c_41 => ?_) (fun c_41 => ?_)
    · -- taken
      refine r_iconst X (v := nI (0)) d_Bk_isRight_48 (by decide) ?_
      exact V.eq hJ_1 rfl rfl rfl (by rw [show (((isMk n (nI (B1 e)) && (isMk n (nI (B2 e)) && !decide ((nI (B1 e)) = (nI (B2 e))))) && decide ((nI (ds (ml 2 (B1 e)) (ml 2 (B2 e)))) = (mi 93 e)))) = false from by first | (simp only [c_16, eq_false c_41, decide_true, decide_false, Bool.not_true, Bool.not_false, Bool.true_and, Bool.false_and, Bool.and_true, Bool.and_false, Bool.true_or, Bool.false_or, Bool.or_true, Bool.or_false, if_true, if_false, ite_true, ite_false, cond_true, cond_false, Bool.false_eq_true, reduceIte]; done) | (simp [c_16, c_41]; done) | (simp_all; done)]; rfl)
    · -- not taken
      refine r_iconst X (v := nI (1)) d_Bk_isRight_44 (by decide) ?_
      refine r_goto X (tgt := 49) d_Bk_isRight_45 (by decide) ?_
      exact V.eq hJ_1 rfl rfl rfl (by rw [show (((isMk n (nI (B1 e)) && (isMk n (nI (B2 e)) && !decide ((nI (B1 e)) = (nI (B2 e))))) && decide ((nI (ds (ml 2 (B1 e)) (ml 2 (B2 e)))) = (mi 93 e)))) = true from by first | (simp only [c_16, eq_true c_41, decide_true, decide_false, Bool.not_true, Bool.not_false, Bool.true_and, Bool.false_and, Bool.and_true, Bool.and_false, Bool.true_or, Bool.false_or, Bool.or_true, Bool.or_false, if_true, if_false, ite_true, ite_false, cond_true, cond_false, Bool.false_eq_true, reduceIte]; done) | (simp [c_16, c_41]; done) | (simp_all; done)]; rfl)

set_option maxHeartbeats 4000000 in
set_option maxRecDepth 100000 in
theorem m_Bk_firstWrong (l : Launch) (o : OM) (mi : MI) (ml : ML) (n : Nat) (E : Nat) (B1 : Nat → Nat) (B2 : Nat → Nat) (hn : mi 1 2 = nI n) (hn40 : n ≤ 40) (hE : mi 90 3 = nI E) (hE20 : E ≤ 20) (hB1 : ∀ e, e < E → mi 91 e = nI (B1 e) ∧ B1 e < 40) (hB2 : ∀ e, e < E → mi 92 e = nI (B2 e) ∧ B2 e < 40) : ConD l y_Bk_firstWrong c_Bk_firstWrong 3 (some .int) 4 88 o [.ref (ads o (90)), .ref (ads o (1))] mi ml (some (.int ((fromB (fun e => !rgC mi ml n B1 B2 e) E 0)))) mi ml := by
  refine Con.mk (by decide) (Nat.le_of_ble_eq_true rfl) (fun γ X => ?_)
  show V γ o 3 mi ml 0 [(0, .ref (ads o (90))), (1, .ref (ads o (1)))] []
  refine r_iconst X (v := nI (0)) d_Bk_firstWrong_0 (by decide) ?_
  refine r_istore_n X [(2, .int (nI (0))), (0, .ref (ads o (90))), (1, .ref (ads o (1)))] d_Bk_firstWrong_1 rfl (Nat.le_of_ble_eq_true rfl) rfl ?_
  have L2_1 : ∀ (d_i i : Nat), i + d_i = E → (fromB (fun e => !rgC mi ml n B1 B2 e) E 0 = fromB (fun e => !rgC mi ml n B1 B2 e) d_i (i)) → V γ o 3 mi ml 2 [(0, .ref (ads o (90))), (1, .ref (ads o (1))), (2, .int (nI (i)))] [] := by
    intro d_i
    induction d_i with
    | zero =>
      intro i hi_L2_1 hr
      have he_L2_1 : E = i := by omega
      subst he_L2_1
      refine r_iload_n X 2 d_Bk_firstWrong_2 rfl rfl ?_
      refine r_aload_n X 0 d_Bk_firstWrong_3 rfl rfl ?_
      refine r_get X f_Bk_21 b_90 e_90 (v := .int (nI (E))) (congrArg (fun z => some (Value.int z)) (hE)) d_Bk_firstWrong_4 ?_
      refine r_icge X (tgt := 27) (c := E ≤ E) d_Bk_firstWrong_7 (by decide) (nI_leI (by omega) (by omega)) (fun c_7 => ?_) (fun c_7 => ?_)
      · -- taken
        refine r_iconst X (v := ((-1 : Int32))) d_Bk_firstWrong_27 (by decide) ?_
        refine r_end_i X d_Bk_firstWrong_28 ?_
        refine ⟨?_, rfl, rfl⟩; rw [hr]; rfl
      · -- not taken
        exact False.elim (by omega)
    | succ d_i ih_L2_1 =>
      intro i hi_L2_1 hr
      have hlt_L2_1 : i < E := by omega
      refine r_iload_n X 2 d_Bk_firstWrong_2 rfl rfl ?_
      refine r_aload_n X 0 d_Bk_firstWrong_3 rfl rfl ?_
      refine r_get X f_Bk_21 b_90 e_90 (v := .int (nI (E))) (congrArg (fun z => some (Value.int z)) (hE)) d_Bk_firstWrong_4 ?_
      refine r_icge X (tgt := 27) (c := E ≤ i) d_Bk_firstWrong_7 (by decide) (nI_leI (by omega) (by omega)) (fun c_7_2 => ?_) (fun c_7_2 => ?_)
      · -- taken
        exact False.elim (by omega)
      · -- not taken
        refine r_aload_n X 0 d_Bk_firstWrong_10 rfl rfl ?_
        refine r_aload_n X 1 d_Bk_firstWrong_11 rfl rfl ?_
        refine r_iload_n X 2 d_Bk_firstWrong_12 rfl rfl ?_
        refine r_callV X (m_Bk_isRight l o mi ml i n E B1 B2 (hn) hn40 (hE) hE20 (by omega) (by omega) (by omega)) ok_Bk_isRight w_Bk_25 rfl b_90 e_90 rfl ⟨Nat.le_of_ble_eq_true rfl, Nat.le_of_ble_eq_true rfl⟩ (rest := []) rfl (Nat.le_of_ble_eq_true rfl) d_Bk_firstWrong_13 ?_
        refine kD (st' := [.int (bI (rgC mi ml n B1 B2 i))]) rfl ?_
        refine r_ifneB X (tgt := 21) (b := rgC mi ml n B1 B2 i) d_Bk_firstWrong_16 (by decide) (fun c_16 => ?_) (fun c_16 => ?_)
        · -- taken
          refine r_iinc X 2 (v := nI (i + 1)) [(2, .int (nI (i + 1))), (0, .ref (ads o (90))), (1, .ref (ads o (1)))] d_Bk_firstWrong_21 rfl (nI_add _ 1) (Nat.le_of_ble_eq_true rfl) rfl ?_
          refine r_goto X (tgt := 2) d_Bk_firstWrong_24 (by decide) ?_
          refine V.wk [1, 2, 0] (V.eq (ih_L2_1 (i + 1) (by omega) (hr.trans (fromB_miss (by simp_all)))) ?_ ?_ ?_ rfl) (rfl : lv_pick _ [1, 2, 0] = [(0, .ref (ads o (90))), (1, .ref (ads o (1))), (2, .int (nI (i + 1)))])
          · rfl
          · rfl
          · first | rfl | (simp_all [ct, lastB, alB, fromB]; done)
        · -- not taken
          refine r_iload_n X 2 d_Bk_firstWrong_19 rfl rfl ?_
          refine r_end_i X d_Bk_firstWrong_20 ?_
          refine ⟨?_, rfl, rfl⟩; exact congrArg (fun z => some (Value.int z)) (hr.trans (fromB_hit (by simp_all))).symm
  refine V.wk [1, 2, 0] (V.eq (L2_1 (E - 0) 0 (by omega) (rfl)) ?_ ?_ ?_ rfl) (rfl : lv_pick _ [1, 2, 0] = [(0, .ref (ads o (90))), (1, .ref (ads o (1))), (2, .int (nI (0)))])
  · rfl
  · rfl
  · rfl

set_option maxHeartbeats 4000000 in
set_option maxRecDepth 100000 in
theorem m_Bk_add (l : Launch) (o : OM) (mi : MI) (ml : ML) (j : Nat) (k : Nat) (q : Nat) (E : Nat) (hE : mi 90 3 = nI E) (hE20 : E < 20) : ConD l y_Bk_add c_Bk_add 4 none 0 0 o [.ref (ads o (90)), .int (nI (j)), .int (nI (k)), .int (nI (q))] mi ml none (u2 (u2 (u2 (u2 mi 91 E (nI j)) 92 E (nI k)) 93 E (nI q)) 90 3 (nI (E + 1))) ml := by
  refine Con.mk (by decide) (Nat.le_of_ble_eq_true rfl) (fun γ X => ?_)
  show V γ o 4 mi ml 0 [(0, .ref (ads o (90))), (1, .int (nI (j))), (2, .int (nI (k))), (3, .int (nI (q)))] []
  refine r_aload_n X 0 d_Bk_add_0 rfl rfl ?_
  refine r_get X f_Bk_21 b_90 e_90 (v := .int (nI (E))) (congrArg (fun z => some (Value.int z)) (hE)) d_Bk_add_1 ?_
  refine r_bipush X (v := nI (20)) d_Bk_add_4 (by decide) ?_
  refine r_icge X (tgt := 49) (c := 20 ≤ E) d_Bk_add_6 (by decide) (nI_leI (Nat.le_of_ble_eq_true rfl) (by omega)) (fun c_6 => ?_) (fun c_6 => ?_)
  · -- taken
    exact False.elim (by omega)
  · -- not taken
    refine r_aload_n X 0 d_Bk_add_9 rfl rfl ?_
    refine r_get X f_Bk_9 b_90 e_90 (v := .ref (ads o (91))) rfl d_Bk_add_10 ?_
    refine r_aload_n X 0 d_Bk_add_13 rfl rfl ?_
    refine r_get X f_Bk_21 b_90 e_90 (v := .int (nI (E))) (congrArg (fun z => some (Value.int z)) (hE)) d_Bk_add_14 ?_
    refine r_iload_n X 1 d_Bk_add_17 rfl rfl ?_
    refine r_iast X b_91 e_91 (Nat.le_of_ble_eq_true rfl) (by omega) d_Bk_add_18 ?_
    refine r_aload_n X 0 d_Bk_add_19 rfl rfl ?_
    refine r_get X f_Bk_15 b_90 e_90 (v := .ref (ads o (92))) rfl d_Bk_add_20 ?_
    refine r_aload_n X 0 d_Bk_add_23 rfl rfl ?_
    refine r_get X f_Bk_21 b_90 e_90 (v := .int (nI (E))) (congrArg (fun z => some (Value.int z)) ((by rw [u2_n _ _ _ (by decide)] <;> exact hE))) d_Bk_add_24 ?_
    refine r_iload_n X 2 d_Bk_add_27 rfl rfl ?_
    refine r_iast X b_92 e_92 (Nat.le_of_ble_eq_true rfl) (by omega) d_Bk_add_28 ?_
    refine r_aload_n X 0 d_Bk_add_29 rfl rfl ?_
    refine r_get X f_Bk_18 b_90 e_90 (v := .ref (ads o (93))) rfl d_Bk_add_30 ?_
    refine r_aload_n X 0 d_Bk_add_33 rfl rfl ?_
    refine r_get X f_Bk_21 b_90 e_90 (v := .int (nI (E))) (congrArg (fun z => some (Value.int z)) ((by rw [u2_n _ _ _ (by decide)] <;> exact (by rw [u2_n _ _ _ (by decide)] <;> exact hE)))) d_Bk_add_34 ?_
    refine r_iload_n X 3 d_Bk_add_37 rfl rfl ?_
    refine r_iast X b_93 e_93 (Nat.le_of_ble_eq_true rfl) (by omega) d_Bk_add_38 ?_
    refine r_aload_n X 0 d_Bk_add_39 rfl rfl ?_
    refine r_dup X d_Bk_add_40 rfl ?_
    refine r_get X f_Bk_21 b_90 e_90 (v := .int (nI (E))) (congrArg (fun z => some (Value.int z)) ((by rw [u2_n _ _ _ (by decide)] <;> exact (by rw [u2_n _ _ _ (by decide)] <;> exact (by rw [u2_n _ _ _ (by decide)] <;> exact hE))))) d_Bk_add_41 ?_
    refine r_iconst X (v := nI (1)) d_Bk_add_44 (by decide) ?_
    refine r_iadd X (v := nI (E + 1)) d_Bk_add_45 (nI_add _ _) ?_
    refine r_putI X fw_Bk_21 b_90 e_90 (fun _ _ => rfl) (Nat.le_of_ble_eq_true rfl) d_Bk_add_46 ?_
    refine r_end_v X d_Bk_add_49 ?_
    exact ⟨rfl, rfl, rfl⟩

set_option maxHeartbeats 4000000 in
set_option maxRecDepth 100000 in
theorem m_Co_read (l : Launch) (o : OM) (mi : MI) (ml : ML) (n : Nat) (hn : mi 1 2 = nI n) (hn40 : n ≤ 40) : Con l y_Co_read c_Co_read 4 none 0 0 o [.ref (ads o (84)), .ref (ads o (1))] mi ml (fun v m z => v = none ∧ m = mi ∧ z 84 1 = allS n ∧ (∀ b, b < 64 → z 85 b = colS (ml 2) b n) ∧ ∀ t, t ≠ 84 → t ≠ 85 → z t = ml t) := by
  refine Con.mk (by decide) (Nat.le_of_ble_eq_true rfl) (fun γ X => ?_)
  show V γ o 4 mi ml 0 [(0, .ref (ads o (84))), (1, .ref (ads o (1)))] []
  refine r_aload_n X 0 d_Co_read_0 rfl rfl ?_
  refine r_lconst X (v := 1) d_Co_read_1 (by decide) ?_
  refine r_aload_n X 1 d_Co_read_2 rfl rfl ?_
  refine r_get X f_Co_15 b_1 e_1 (v := .int (nI (n))) (congrArg (fun z => some (Value.int z)) (hn)) d_Co_read_3 ?_
  refine r_lshl X (v := shl (1) (n)) d_Co_read_6 (rfl) ?_
  refine r_lconst X (v := 1) d_Co_read_7 (by decide) ?_
  refine r_lsub X (v := (shl (1) (n)) - (1)) d_Co_read_8 (rfl) ?_
  refine r_putL X fw_Co_21 b_84 e_84 (fun _ _ => rfl) (Nat.le_of_ble_eq_true rfl) d_Co_read_9 ?_
  refine r_iconst X (v := nI (0)) d_Co_read_12 (by decide) ?_
  refine r_istore_n X [(2, .int (nI (0))), (0, .ref (ads o (84))), (1, .ref (ads o (1)))] d_Co_read_13 rfl (Nat.le_of_ble_eq_true rfl) rfl ?_
  have L14_1 : ∀ (d_i i : Nat), i + d_i = 64 → ∀ (ml_L14_1 : ML), (∀ t, t ≠ 84 → t ≠ 85 → ml_L14_1 t = ml t) → (ml_L14_1 84 1 = allS n) → (∀ b, b < i → ml_L14_1 85 b = colS (ml 2) b n) → V γ o 4 mi ml_L14_1 14 [(0, .ref (ads o (84))), (1, .ref (ads o (1))), (2, .int (nI (i)))] [] := by
    intro d_i
    induction d_i with
    | zero =>
      intro i hi_L14_1 ml_L14_1 hg hall hcol
      have he_L14_1 : 64 = i := by omega
      subst he_L14_1
      refine r_iload_n X 2 d_Co_read_14 rfl rfl ?_
      refine r_bipush X (v := nI (64)) d_Co_read_15 (by decide) ?_
      refine r_icge X (tgt := 70) (c := 64 ≤ 64) d_Co_read_17 (by decide) (nI_leI (Nat.le_of_ble_eq_true rfl) (by omega)) (fun c_17 => ?_) (fun c_17 => ?_)
      · -- taken
        refine r_end_v X d_Co_read_70 ?_
        exact ⟨rfl, rfl, hall, hcol, hg⟩
      · -- not taken
        exact False.elim (by omega)
    | succ d_i ih_L14_1 =>
      intro i hi_L14_1 ml_L14_1 hg hall hcol
      have hlt_L14_1 : i < 64 := by omega
      refine r_iload_n X 2 d_Co_read_14 rfl rfl ?_
      refine r_bipush X (v := nI (64)) d_Co_read_15 (by decide) ?_
      refine r_icge X (tgt := 70) (c := 64 ≤ i) d_Co_read_17 (by decide) (nI_leI (Nat.le_of_ble_eq_true rfl) (by omega)) (fun c_17_2 => ?_) (fun c_17_2 => ?_)
      · -- taken
        exact False.elim (by omega)
      · -- not taken
        refine r_aload_n X 0 d_Co_read_20 rfl rfl ?_
        refine r_get X f_Co_9 b_84 e_84 (v := .ref (ads o (85))) rfl d_Co_read_21 ?_
        refine r_iload_n X 2 d_Co_read_24 rfl rfl ?_
        refine r_lconst X (v := 0) d_Co_read_25 (by decide) ?_
        refine r_last X b_85 e_85 (Nat.le_of_ble_eq_true rfl) (by omega) d_Co_read_26 ?_
        refine r_iconst X (v := nI (0)) d_Co_read_27 (by decide) ?_
        refine r_istore_n X [(3, .int (nI (0))), (0, .ref (ads o (84))), (1, .ref (ads o (1))), (2, .int (nI (i)))] d_Co_read_28 rfl (Nat.le_of_ble_eq_true rfl) rfl ?_
        have L29_3 : ∀ (d_j j : Nat), j + d_j = n → ∀ (ml_L29_3 : ML), (∀ t, t ≠ 84 → t ≠ 85 → ml_L29_3 t = ml t) → (ml_L29_3 84 1 = allS n) → (∀ b, b < i → ml_L29_3 85 b = colS (ml 2) b n) → (ml_L29_3 85 i = colS (ml 2) i j) → V γ o 4 mi ml_L29_3 29 [(0, .ref (ads o (84))), (1, .ref (ads o (1))), (2, .int (nI (i))), (3, .int (nI (j)))] [] := by
          intro d_j
          induction d_j with
          | zero =>
            intro j hi_L29_3 ml_L29_3 hg2 hall2 hcol2 hcur
            have he_L29_3 : n = j := by omega
            subst he_L29_3
            refine r_iload_n X 3 d_Co_read_29 rfl rfl ?_
            refine r_aload_n X 1 d_Co_read_30 rfl rfl ?_
            refine r_get X f_Co_15 b_1 e_1 (v := .int (nI (n))) (congrArg (fun z => some (Value.int z)) (hn)) d_Co_read_31 ?_
            refine r_icge X (tgt := 64) (c := n ≤ n) d_Co_read_34 (by decide) (nI_leI (by omega) (by omega)) (fun c_34 => ?_) (fun c_34 => ?_)
            · -- taken
              refine r_iinc X 2 (v := nI (i + 1)) [(2, .int (nI (i + 1))), (0, .ref (ads o (84))), (1, .ref (ads o (1))), (3, .int (nI (n)))] d_Co_read_64 rfl (nI_add _ 1) (Nat.le_of_ble_eq_true rfl) rfl ?_
              refine r_goto X (tgt := 14) d_Co_read_67 (by decide) ?_
              refine V.wk [1, 2, 0] (V.eq (ih_L14_1 (i + 1) (by omega) (ml_L29_3) (hg2) (hall2) (col_st hcol2 hcur)) ?_ ?_ ?_ rfl) (rfl : lv_pick _ [1, 2, 0] = [(0, .ref (ads o (84))), (1, .ref (ads o (1))), (2, .int (nI (i + 1)))])
              · rfl
              · rfl
              · first | rfl | (simp_all [ct, lastB, alB, fromB]; done)
            · -- not taken
              exact False.elim (by omega)
          | succ d_j ih_L29_3 =>
            intro j hi_L29_3 ml_L29_3 hg2 hall2 hcol2 hcur
            have hlt_L29_3 : j < n := by omega
            refine r_iload_n X 3 d_Co_read_29 rfl rfl ?_
            refine r_aload_n X 1 d_Co_read_30 rfl rfl ?_
            refine r_get X f_Co_15 b_1 e_1 (v := .int (nI (n))) (congrArg (fun z => some (Value.int z)) (hn)) d_Co_read_31 ?_
            refine r_icge X (tgt := 64) (c := n ≤ j) d_Co_read_34 (by decide) (nI_leI (by omega) (by omega)) (fun c_34_4 => ?_) (fun c_34_4 => ?_)
            · -- taken
              exact False.elim (by omega)
            · -- not taken
              refine r_aload_n X 0 d_Co_read_37 rfl rfl ?_
              refine r_get X f_Co_9 b_84 e_84 (v := .ref (ads o (85))) rfl d_Co_read_38 ?_
              refine r_iload_n X 2 d_Co_read_41 rfl rfl ?_
              refine r_dup2_11 X d_Co_read_42 rfl rfl ?_
              refine r_lald X (v := colS (ml 2) i j) b_85 e_85 (Nat.le_of_ble_eq_true rfl) (by omega) (hcur) d_Co_read_43 ?_
              refine r_aload_n X 1 d_Co_read_44 rfl rfl ?_
              refine r_get X f_Co_25 b_1 e_1 (v := .ref (ads o (2))) rfl d_Co_read_45 ?_
              refine r_iload_n X 3 d_Co_read_48 rfl rfl ?_
              refine r_lald X (v := ml 2 j) b_2 e_2 (Nat.le_of_ble_eq_true rfl) (by omega) (by rw [hg2 2 (by decide) (by decide)]) d_Co_read_49 ?_
              refine r_iload_n X 2 d_Co_read_50 rfl rfl ?_
              refine r_lushr X (v := ushr (ml 2 j) (i)) d_Co_read_51 (rfl) ?_
              refine r_lconst X (v := 1) d_Co_read_52 (by decide) ?_
              refine r_land X (v := (ushr (ml 2 j) (i)) &&& (1)) d_Co_read_53 (rfl) ?_
              refine r_iload_n X 3 d_Co_read_54 rfl rfl ?_
              refine r_lshl X (v := shl ((ushr (ml 2 j) (i)) &&& (1)) (j)) d_Co_read_55 (rfl) ?_
              refine r_lor X (v := (colS (ml 2) i j) ||| (shl ((ushr (ml 2 j) (i)) &&& (1)) (j))) d_Co_read_56 (rfl) ?_
              refine r_last X b_85 e_85 (Nat.le_of_ble_eq_true rfl) (by omega) d_Co_read_57 ?_
              refine r_iinc X 3 (v := nI (j + 1)) [(3, .int (nI (j + 1))), (0, .ref (ads o (84))), (1, .ref (ads o (1))), (2, .int (nI (i)))] d_Co_read_58 rfl (nI_add _ 1) (Nat.le_of_ble_eq_true rfl) rfl ?_
              refine r_goto X (tgt := 29) d_Co_read_61 (by decide) ?_
              refine V.wk [1, 2, 3, 0] (V.eq (ih_L29_3 (j + 1) (by omega) ((u2 ml_L29_3 85 i ((colS (ml 2) i j) ||| (shl ((ushr (ml 2 j) (i)) &&& (1)) (j))))) (fun t h1 h2 => by rw [u2_n _ _ _ h2]; exact hg2 t h1 h2) (by rw [u2_n _ _ _ (by decide)]; exact hall2) (row_kept hcol2) (by rw [u2_s, uf_s]; rfl)) ?_ ?_ ?_ rfl) (rfl : lv_pick _ [1, 2, 3, 0] = [(0, .ref (ads o (84))), (1, .ref (ads o (1))), (2, .int (nI (i))), (3, .int (nI (j + 1)))])
              · rfl
              · rfl
              · first | rfl | (simp_all [ct, lastB, alB, fromB]; done)
        refine V.wk [1, 2, 3, 0] (V.eq (L29_3 (n - 0) 0 (by omega) ((u2 ml_L14_1 85 i (0))) (fun t h1 h2 => by rw [u2_n _ _ _ h2]; exact hg t h1 h2) (by rw [u2_n _ _ _ (by decide)]; exact hall) (row_kept hcol) (by rw [u2_s, uf_s]; rfl)) ?_ ?_ ?_ rfl) (rfl : lv_pick _ [1, 2, 3, 0] = [(0, .ref (ads o (84))), (1, .ref (ads o (1))), (2, .int (nI (i))), (3, .int (nI (0)))])
        · rfl
        · rfl
        · rfl
  refine V.wk [1, 2, 0] (V.eq (L14_1 (64 - 0) 0 (by omega) ((u2 ml 84 1 ((shl (1) (n)) - (1)))) (fun t h1 h2 => by rw [u2_n _ _ _ h1]) (by rw [u2_s, uf_s]; rfl) (fun b hb => absurd hb (by omega))) ?_ ?_ ?_ rfl) (rfl : lv_pick _ [1, 2, 0] = [(0, .ref (ads o (84))), (1, .ref (ads o (1))), (2, .int (nI (0)))])
  · rfl
  · rfl
  · rfl

set_option maxHeartbeats 4000000 in
set_option maxRecDepth 100000 in
theorem m_Co_isDead (l : Launch) (o : OM) (mi : MI) (ml : ML) (b : Nat) (v : Int64) (w : Int64) (hv : ml 85 b = v) (hw : ml 84 1 = w) (hb : b < 64) : ConD l y_Co_isDead c_Co_isDead 2 (some .boolean) 0 0 o [.ref (ads o (84)), .int (nI (b))] mi ml (some (.int (bI (decide (v = 0) || decide (v = w))))) mi ml := by
  refine Con.mk (by decide) (Nat.le_of_ble_eq_true rfl) (fun γ X => ?_)
  show V γ o 2 mi ml 0 [(0, .ref (ads o (84))), (1, .int (nI (b)))] []
  refine r_aload_n X 0 d_Co_isDead_0 rfl rfl ?_
  refine r_get X f_Co_9 b_84 e_84 (v := .ref (ads o (85))) rfl d_Co_isDead_1 ?_
  refine r_iload_n X 1 d_Co_isDead_4 rfl rfl ?_
  refine r_lald X (v := v) b_85 e_85 (Nat.le_of_ble_eq_true rfl) (by omega) (hv) d_Co_isDead_5 ?_
  refine r_lconst X (v := 0) d_Co_isDead_6 (by decide) ?_
  refine r_lcmp X d_Co_isDead_7 ?_
  have hJ_1 : V γ o 2 mi ml 30 [(0, .ref (ads o (84))), (1, .int (nI (b)))] [.int (bI ((decide (v = 0) || decide (v = w))))] := by
    refine r_end_z X (bI_nar _) d_Co_isDead_30 ?_
    first | exact ⟨rfl, rfl, rfl⟩ | (refine ⟨?_, rfl, rfl⟩; simp_all)
  refine r_ifeq X (tgt := 25) (c := v = 0) d_Co_isDead_8 (by decide) (lg_cmp_eq _ _) (fun c_8 => ?_) (fun c_8 => ?_)
  · -- taken
    refine r_iconst X (v := nI (1)) d_Co_isDead_25 (by decide) ?_
    refine r_goto X (tgt := 30) d_Co_isDead_26 (by decide) ?_
    exact V.eq hJ_1 rfl rfl rfl (by rw [show ((decide (v = 0) || decide (v = w))) = true from by first | (simp only [eq_true c_8, decide_true, decide_false, Bool.not_true, Bool.not_false, Bool.true_and, Bool.false_and, Bool.and_true, Bool.and_false, Bool.true_or, Bool.false_or, Bool.or_true, Bool.or_false, if_true, if_false, ite_true, ite_false, cond_true, cond_false, Bool.false_eq_true, reduceIte]; done) | (simp [c_8]; done) | (simp_all; done)]; rfl)
  · -- not taken
    refine r_aload_n X 0 d_Co_isDead_11 rfl rfl ?_
    refine r_get X f_Co_9 b_84 e_84 (v := .ref (ads o (85))) rfl d_Co_isDead_12 ?_
    refine r_iload_n X 1 d_Co_isDead_15 rfl rfl ?_
    refine r_lald X (v := v) b_85 e_85 (Nat.le_of_ble_eq_true rfl) (by omega) (hv) d_Co_isDead_16 ?_
    refine r_aload_n X 0 d_Co_isDead_17 rfl rfl ?_
    refine r_get X f_Co_21 b_84 e_84 (v := .long (w)) (congrArg (fun z => some (Value.long z)) (hw)) d_Co_isDead_18 ?_
    refine r_lcmp X d_Co_isDead_21 ?_
    refine r_ifneP X (tgt := 29) (c := v = w) d_Co_isDead_22 (by decide) (lg_cmp_eq _ _) (fun c_22 => ?_) (fun c_22 => ?_)
    · -- taken
      refine r_iconst X (v := nI (0)) d_Co_isDead_29 (by decide) ?_
      exact V.eq hJ_1 rfl rfl rfl (by rw [show ((decide (v = 0) || decide (v = w))) = false from by first | (simp only [eq_false c_8, eq_false c_22, decide_true, decide_false, Bool.not_true, Bool.not_false, Bool.true_and, Bool.false_and, Bool.and_true, Bool.and_false, Bool.true_or, Bool.false_or, Bool.or_true, Bool.or_false, if_true, if_false, ite_true, ite_false, cond_true, cond_false, Bool.false_eq_true, reduceIte]; done) | (simp [c_8, c_22]; done) | (simp_all; done)]; rfl)
    · -- not taken
      refine r_iconst X (v := nI (1)) d_Co_isDead_25 (by decide) ?_
      refine r_goto X (tgt := 30) d_Co_isDead_26 (by decide) ?_
      exact V.eq hJ_1 rfl rfl rfl (by rw [show ((decide (v = 0) || decide (v = w))) = true from by first | (simp only [eq_false c_8, eq_true c_22, decide_true, decide_false, Bool.not_true, Bool.not_false, Bool.true_and, Bool.false_and, Bool.and_true, Bool.and_false, Bool.true_or, Bool.false_or, Bool.or_true, Bool.or_false, if_true, if_false, ite_true, ite_false, cond_true, cond_false, Bool.false_eq_true, reduceIte]; done) | (simp [c_8, c_22]; done) | (simp_all; done)]; rfl)

set_option maxHeartbeats 4000000 in
set_option maxRecDepth 100000 in
theorem m_Co_goTogether (l : Launch) (o : OM) (mi : MI) (ml : ML) (a : Nat) (b : Nat) (u : Int64) (v : Int64) (w : Int64) (hu : ml 85 a = u) (hv : ml 85 b = v) (hw : ml 84 1 = w) (ha : a < 64) (hb : b < 64) : ConD l y_Co_goTogether c_Co_goTogether 3 (some .boolean) 1 21 o [.ref (ads o (84)), .int (nI (a)), .int (nI (b))] mi ml (some (.int (bI (!(decide (u = 0) || decide (u = w)) && (decide (u = v) || decide (u = w ^^^ v)))))) mi ml := by
  refine Con.mk (by decide) (Nat.le_of_ble_eq_true rfl) (fun γ X => ?_)
  show V γ o 3 mi ml 0 [(0, .ref (ads o (84))), (1, .int (nI (a))), (2, .int (nI (b)))] []
  refine r_aload_n X 0 d_Co_goTogether_0 rfl rfl ?_
  refine r_iload_n X 1 d_Co_goTogether_1 rfl rfl ?_
  refine r_callV X (m_Co_isDead l o mi ml a u w (hu) (hw) (by omega)) ok_Co_isDead w_Co_32 rfl b_84 e_84 rfl ⟨Nat.le_of_ble_eq_true rfl, Nat.le_of_ble_eq_true rfl⟩ (rest := []) rfl (Nat.le_of_ble_eq_true rfl) d_Co_goTogether_2 ?_
  refine kD (st' := [.int (bI (decide (u = 0) || decide (u = w)))]) rfl ?_
  have hJ_1 : V γ o 3 mi ml 50 [(0, .ref (ads o (84))), (1, .int (nI (a))), (2, .int (nI (b)))] [.int (bI ((!(decide (u = 0) || decide (u = w)) && (decide (u = v) || decide (u = ((w) ^^^ (v)))))))] := by
    refine r_end_z X (bI_nar _) d_Co_goTogether_50 ?_
    first | exact ⟨rfl, rfl, rfl⟩ | (refine ⟨?_, rfl, rfl⟩; simp_all)
  refine r_ifneB X (tgt := 49) (b := decide (u = 0) || decide (u = w)) d_Co_goTogether_5 (by decide) (fun c_5 => ?_) (fun c_5 => ?_)
  · -- taken
    refine r_iconst X (v := nI (0)) d_Co_goTogether_49 (by decide) ?_
    exact V.eq hJ_1 rfl rfl rfl (by rw [show ((!(decide (u = 0) || decide (u = w)) && (decide (u = v) || decide (u = ((w) ^^^ (v)))))) = false from by first | (simp only [c_5, decide_true, decide_false, Bool.not_true, Bool.not_false, Bool.true_and, Bool.false_and, Bool.and_true, Bool.and_false, Bool.true_or, Bool.false_or, Bool.or_true, Bool.or_false, if_true, if_false, ite_true, ite_false, cond_true, cond_false, Bool.false_eq_true, reduceIte]; done) | (simp [c_5]; done) | (simp_all; done)]; rfl)
  · -- not taken
    refine r_aload_n X 0 d_Co_goTogether_8 rfl rfl ?_
    refine r_get X f_Co_9 b_84 e_84 (v := .ref (ads o (85))) rfl d_Co_goTogether_9 ?_
    refine r_iload_n X 1 d_Co_goTogether_12 rfl rfl ?_
    refine r_lald X (v := u) b_85 e_85 (Nat.le_of_ble_eq_true rfl) (by omega) (hu) d_Co_goTogether_13 ?_
    refine r_aload_n X 0 d_Co_goTogether_14 rfl rfl ?_
    refine r_get X f_Co_9 b_84 e_84 (v := .ref (ads o (85))) rfl d_Co_goTogether_15 ?_
    refine r_iload_n X 2 d_Co_goTogether_18 rfl rfl ?_
    refine r_lald X (v := v) b_85 e_85 (Nat.le_of_ble_eq_true rfl) (by omega) (hv) d_Co_goTogether_19 ?_
    refine r_lcmp X d_Co_goTogether_20 ?_
    refine r_ifeq X (tgt := 45) (c := u = v) d_Co_goTogether_21 (by decide) (lg_cmp_eq _ _) (fun c_21 => ?_) (fun c_21 => ?_)
    · -- taken
      refine r_iconst X (v := nI (1)) d_Co_goTogether_45 (by decide) ?_
      refine r_goto X (tgt := 50) d_Co_goTogether_46 (by decide) ?_
      exact V.eq hJ_1 rfl rfl rfl (by rw [show ((!(decide (u = 0) || decide (u = w)) && (decide (u = v) || decide (u = ((w) ^^^ (v)))))) = true from by first | (simp only [c_5, eq_true c_21, decide_true, decide_false, Bool.not_true, Bool.not_false, Bool.true_and, Bool.false_and, Bool.and_true, Bool.and_false, Bool.true_or, Bool.false_or, Bool.or_true, Bool.or_false, if_true, if_false, ite_true, ite_false, cond_true, cond_false, Bool.false_eq_true, reduceIte]; done) | (simp [c_5, c_21]; done) | (simp_all; done)]; rfl)
    · -- not taken
      refine r_aload_n X 0 d_Co_goTogether_24 rfl rfl ?_
      refine r_get X f_Co_9 b_84 e_84 (v := .ref (ads o (85))) rfl d_Co_goTogether_25 ?_
      refine r_iload_n X 1 d_Co_goTogether_28 rfl rfl ?_
      refine r_lald X (v := u) b_85 e_85 (Nat.le_of_ble_eq_true rfl) (by omega) (hu) d_Co_goTogether_29 ?_
      refine r_aload_n X 0 d_Co_goTogether_30 rfl rfl ?_
      refine r_get X f_Co_21 b_84 e_84 (v := .long (w)) (congrArg (fun z => some (Value.long z)) (hw)) d_Co_goTogether_31 ?_
      refine r_aload_n X 0 d_Co_goTogether_34 rfl rfl ?_
      refine r_get X f_Co_9 b_84 e_84 (v := .ref (ads o (85))) rfl d_Co_goTogether_35 ?_
      refine r_iload_n X 2 d_Co_goTogether_38 rfl rfl ?_
      refine r_lald X (v := v) b_85 e_85 (Nat.le_of_ble_eq_true rfl) (by omega) (hv) d_Co_goTogether_39 ?_
      refine r_lxor X (v := (w) ^^^ (v)) d_Co_goTogether_40 (rfl) ?_
      refine r_lcmp X d_Co_goTogether_41 ?_
      refine r_ifneP X (tgt := 49) (c := u = ((w) ^^^ (v))) d_Co_goTogether_42 (by decide) (lg_cmp_eq _ _) (fun c_42 => ?_) (fun c_42 => ?_)
      · -- taken
        refine r_iconst X (v := nI (0)) d_Co_goTogether_49 (by decide) ?_
        exact V.eq hJ_1 rfl rfl rfl (by rw [show ((!(decide (u = 0) || decide (u = w)) && (decide (u = v) || decide (u = ((w) ^^^ (v)))))) = false from by first | (simp only [c_5, eq_false c_21, eq_false c_42, decide_true, decide_false, Bool.not_true, Bool.not_false, Bool.true_and, Bool.false_and, Bool.and_true, Bool.and_false, Bool.true_or, Bool.false_or, Bool.or_true, Bool.or_false, if_true, if_false, ite_true, ite_false, cond_true, cond_false, Bool.false_eq_true, reduceIte]; done) | (simp [c_5, c_21, c_42]; done) | (simp_all; done)]; rfl)
      · -- not taken
        refine r_iconst X (v := nI (1)) d_Co_goTogether_45 (by decide) ?_
        refine r_goto X (tgt := 50) d_Co_goTogether_46 (by decide) ?_
        exact V.eq hJ_1 rfl rfl rfl (by rw [show ((!(decide (u = 0) || decide (u = w)) && (decide (u = v) || decide (u = ((w) ^^^ (v)))))) = true from by first | (simp only [c_5, eq_false c_21, eq_true c_42, decide_true, decide_false, Bool.not_true, Bool.not_false, Bool.true_and, Bool.false_and, Bool.and_true, Bool.and_false, Bool.true_or, Bool.false_or, Bool.or_true, Bool.or_false, if_true, if_false, ite_true, ite_false, cond_true, cond_false, Bool.false_eq_true, reduceIte]; done) | (simp [c_5, c_21, c_42]; done) | (simp_all; done)]; rfl)

set_option maxHeartbeats 4000000 in
set_option maxRecDepth 100000 in
theorem m_Co_countDead (l : Launch) (o : OM) (mi : MI) (ml : ML) (n : Nat) (hn : mi 1 2 = nI n) (hn40 : n ≤ 40) : Con l y_Co_countDead c_Co_countDead 4 (some .int) 1 23 o [.ref (ads o (84)), .ref (ads o (1))] mi ml (fun v m z => v = some (.int (nI (ct (deadC (ml 2) n) 64))) ∧ m = mi ∧ ∀ t, t ≠ 84 → t ≠ 85 → z t = ml t) := by
  refine Con.mk (by decide) (Nat.le_of_ble_eq_true rfl) (fun γ X => ?_)
  show V γ o 4 mi ml 0 [(0, .ref (ads o (84))), (1, .ref (ads o (1)))] []
  refine r_aload_n X 0 d_Co_countDead_0 rfl rfl ?_
  refine r_aload_n X 1 d_Co_countDead_1 rfl rfl ?_
  refine r_callV X (m_Co_read l o mi ml n (hn) hn40) ok_Co_read w_Co_28 rfl b_84 e_84 rfl ⟨Nat.le_of_ble_eq_true rfl, Nat.le_of_ble_eq_true rfl⟩ (rest := []) rfl (Nat.le_of_ble_eq_true rfl) d_Co_countDead_2 ?_
  rintro _ mm zc ⟨rfl, hmm, hall, hcol, hg⟩
  have hmm := hmm.symm
  subst hmm
  show V γ o 4 mi zc 5 [(0, .ref (ads o (84))), (1, .ref (ads o (1)))] []
  refine r_iconst X (v := nI (0)) d_Co_countDead_5 (by decide) ?_
  refine r_istore_n X [(2, .int (nI (0))), (0, .ref (ads o (84))), (1, .ref (ads o (1)))] d_Co_countDead_6 rfl (Nat.le_of_ble_eq_true rfl) rfl ?_
  refine r_iconst X (v := nI (0)) d_Co_countDead_7 (by decide) ?_
  refine r_istore_n X [(3, .int (nI (0))), (2, .int (nI (0))), (0, .ref (ads o (84))), (1, .ref (ads o (1)))] d_Co_countDead_8 rfl (Nat.le_of_ble_eq_true rfl) rfl ?_
  have L9_1 : ∀ (d_i i : Nat), i + d_i = 64 → V γ o 4 mi zc 9 [(0, .ref (ads o (84))), (1, .ref (ads o (1))), (2, .int (nI (ct (deadC (ml 2) n) (i)))), (3, .int (nI (i)))] [] := by
    intro d_i
    induction d_i with
    | zero =>
      intro i hi_L9_1 
      have he_L9_1 : 64 = i := by omega
      subst he_L9_1
      refine r_iload_n X 3 d_Co_countDead_9 rfl rfl ?_
      refine r_bipush X (v := nI (64)) d_Co_countDead_10 (by decide) ?_
      refine r_icge X (tgt := 32) (c := 64 ≤ 64) d_Co_countDead_12 (by decide) (nI_leI (Nat.le_of_ble_eq_true rfl) (by omega)) (fun c_12 => ?_) (fun c_12 => ?_)
      · -- taken
        refine r_iload_n X 2 d_Co_countDead_32 rfl rfl ?_
        refine r_end_i X d_Co_countDead_33 ?_
        exact ⟨rfl, rfl, hg⟩
      · -- not taken
        exact False.elim (by omega)
    | succ d_i ih_L9_1 =>
      intro i hi_L9_1 
      have hlt_L9_1 : i < 64 := by omega
      refine r_iload_n X 3 d_Co_countDead_9 rfl rfl ?_
      refine r_bipush X (v := nI (64)) d_Co_countDead_10 (by decide) ?_
      refine r_icge X (tgt := 32) (c := 64 ≤ i) d_Co_countDead_12 (by decide) (nI_leI (Nat.le_of_ble_eq_true rfl) (by omega)) (fun c_12_2 => ?_) (fun c_12_2 => ?_)
      · -- taken
        exact False.elim (by omega)
      · -- not taken
        refine r_aload_n X 0 d_Co_countDead_15 rfl rfl ?_
        refine r_iload_n X 3 d_Co_countDead_16 rfl rfl ?_
        refine r_callV X (m_Co_isDead l o mi zc i (colS (ml 2) i n) (allS n) (hcol i (by omega)) (hall) (by omega)) ok_Co_isDead w_Co_32 rfl b_84 e_84 rfl ⟨Nat.le_of_ble_eq_true rfl, Nat.le_of_ble_eq_true rfl⟩ (rest := []) rfl (Nat.le_of_ble_eq_true rfl) d_Co_countDead_17 ?_
        refine kD (st' := [.int (bI (decide ((colS (ml 2) i n) = 0) || decide ((colS (ml 2) i n) = (allS n))))]) rfl ?_
        refine r_ifeqB X (tgt := 26) (b := decide ((colS (ml 2) i n) = 0) || decide ((colS (ml 2) i n) = (allS n))) d_Co_countDead_20 (by decide) (fun c_20 => ?_) (fun c_20 => ?_)
        · -- taken
          refine r_iinc X 3 (v := nI (i + 1)) [(3, .int (nI (i + 1))), (0, .ref (ads o (84))), (1, .ref (ads o (1))), (2, .int (nI (ct (deadC (ml 2) n) (i))))] d_Co_countDead_26 rfl (nI_add _ 1) (Nat.le_of_ble_eq_true rfl) rfl ?_
          refine r_goto X (tgt := 9) d_Co_countDead_29 (by decide) ?_
          refine V.wk [1, 2, 3, 0] (V.eq (ih_L9_1 (i + 1) (by omega) ) ?_ ?_ ?_ rfl) (rfl : lv_pick _ [1, 2, 3, 0] = [(0, .ref (ads o (84))), (1, .ref (ads o (1))), (2, .int (nI (ct (deadC (ml 2) n) (i)))), (3, .int (nI (i + 1)))])
          · rfl
          · rfl
          · first | (rw [ct_t (by assumption)]; done) | (rw [ct_f (by assumption)]; done)
        · -- not taken
          refine r_iinc X 2 (v := nI (ct (deadC (ml 2) n) (i) + 1)) [(2, .int (nI (ct (deadC (ml 2) n) (i) + 1))), (0, .ref (ads o (84))), (1, .ref (ads o (1))), (3, .int (nI (i)))] d_Co_countDead_23 rfl (nI_add _ 1) (Nat.le_of_ble_eq_true rfl) rfl ?_
          refine r_iinc X 3 (v := nI (i + 1)) [(3, .int (nI (i + 1))), (2, .int (nI (ct (deadC (ml 2) n) (i) + 1))), (0, .ref (ads o (84))), (1, .ref (ads o (1)))] d_Co_countDead_26 rfl (nI_add _ 1) (Nat.le_of_ble_eq_true rfl) rfl ?_
          refine r_goto X (tgt := 9) d_Co_countDead_29 (by decide) ?_
          refine V.wk [2, 3, 1, 0] (V.eq (ih_L9_1 (i + 1) (by omega) ) ?_ ?_ ?_ rfl) (rfl : lv_pick _ [2, 3, 1, 0] = [(0, .ref (ads o (84))), (1, .ref (ads o (1))), (2, .int (nI (ct (deadC (ml 2) n) (i) + 1))), (3, .int (nI (i + 1)))])
          · rfl
          · rfl
          · first | (rw [ct_t (by assumption)]; done) | (rw [ct_f (by assumption)]; done)
  refine V.wk [2, 3, 1, 0] (V.eq (L9_1 (64 - 0) 0 (by omega) ) ?_ ?_ ?_ rfl) (rfl : lv_pick _ [2, 3, 1, 0] = [(0, .ref (ads o (84))), (1, .ref (ads o (1))), (2, .int (nI (0))), (3, .int (nI (0)))])
  · rfl
  · rfl
  · rfl

set_option maxHeartbeats 4000000 in
set_option maxRecDepth 100000 in
theorem m_Co_firstPair (l : Launch) (o : OM) (mi : MI) (ml : ML) (n : Nat) (hn : mi 1 2 = nI n) (hn40 : n ≤ 40) : Con l y_Co_firstPair c_Co_firstPair 4 (some .int) 2 43 o [.ref (ads o (84)), .ref (ads o (1))] mi ml (fun v m z => v = some (.int (togR (goC (ml 2) n) 64 0)) ∧ m = mi ∧ ∀ t, t ≠ 84 → t ≠ 85 → z t = ml t) := by
  refine Con.mk (by decide) (Nat.le_of_ble_eq_true rfl) (fun γ X => ?_)
  show V γ o 4 mi ml 0 [(0, .ref (ads o (84))), (1, .ref (ads o (1)))] []
  refine r_aload_n X 0 d_Co_firstPair_0 rfl rfl ?_
  refine r_aload_n X 1 d_Co_firstPair_1 rfl rfl ?_
  refine r_callV X (m_Co_read l o mi ml n (hn) hn40) ok_Co_read w_Co_28 rfl b_84 e_84 rfl ⟨Nat.le_of_ble_eq_true rfl, Nat.le_of_ble_eq_true rfl⟩ (rest := []) rfl (Nat.le_of_ble_eq_true rfl) d_Co_firstPair_2 ?_
  rintro _ mm zc ⟨rfl, hmm, hall, hcol, hg⟩
  have hmm := hmm.symm
  subst hmm
  show V γ o 4 mi zc 5 [(0, .ref (ads o (84))), (1, .ref (ads o (1)))] []
  refine r_iconst X (v := nI (0)) d_Co_firstPair_5 (by decide) ?_
  refine r_istore_n X [(2, .int (nI (0))), (0, .ref (ads o (84))), (1, .ref (ads o (1)))] d_Co_firstPair_6 rfl (Nat.le_of_ble_eq_true rfl) rfl ?_
  have L7_1 : ∀ (d_i i : Nat), i + d_i = 64 → (togR (goC (ml 2) n) 64 0 = togR (goC (ml 2) n) d_i (i)) → V γ o 4 mi zc 7 [(0, .ref (ads o (84))), (1, .ref (ads o (1))), (2, .int (nI (i)))] [] := by
    intro d_i
    induction d_i with
    | zero =>
      intro i hi_L7_1 hr
      have he_L7_1 : 64 = i := by omega
      subst he_L7_1
      refine r_iload_n X 2 d_Co_firstPair_7 rfl rfl ?_
      refine r_bipush X (v := nI (64)) d_Co_firstPair_8 (by decide) ?_
      refine r_icge X (tgt := 51) (c := 64 ≤ 64) d_Co_firstPair_10 (by decide) (nI_leI (Nat.le_of_ble_eq_true rfl) (by omega)) (fun c_10 => ?_) (fun c_10 => ?_)
      · -- taken
        refine r_iconst X (v := ((-1 : Int32))) d_Co_firstPair_51 (by decide) ?_
        refine r_end_i X d_Co_firstPair_52 ?_
        refine ⟨?_, rfl, hg⟩; rw [hr]; rfl
      · -- not taken
        exact False.elim (by omega)
    | succ d_i ih_L7_1 =>
      intro i hi_L7_1 hr
      have hlt_L7_1 : i < 64 := by omega
      refine r_iload_n X 2 d_Co_firstPair_7 rfl rfl ?_
      refine r_bipush X (v := nI (64)) d_Co_firstPair_8 (by decide) ?_
      refine r_icge X (tgt := 51) (c := 64 ≤ i) d_Co_firstPair_10 (by decide) (nI_leI (Nat.le_of_ble_eq_true rfl) (by omega)) (fun c_10_2 => ?_) (fun c_10_2 => ?_)
      · -- taken
        exact False.elim (by omega)
      · -- not taken
        refine r_iload_n X 2 d_Co_firstPair_13 rfl rfl ?_
        refine r_iconst X (v := nI (1)) d_Co_firstPair_14 (by decide) ?_
        refine r_iadd X (v := nI (i + 1)) d_Co_firstPair_15 (nI_add _ _) ?_
        refine r_istore_n X [(3, .int (nI (i + 1))), (0, .ref (ads o (84))), (1, .ref (ads o (1))), (2, .int (nI (i)))] d_Co_firstPair_16 rfl (Nat.le_of_ble_eq_true rfl) rfl ?_
        have L17_3 : ∀ (d_j j : Nat), j + d_j = 64 → (togR (goC (ml 2) n) 64 0 = fromC (goC (ml 2) n i) (fun b => nI (64 * i + b)) (togR (goC (ml 2) n) d_i (i + 1)) d_j (j)) → V γ o 4 mi zc 17 [(0, .ref (ads o (84))), (1, .ref (ads o (1))), (2, .int (nI (i))), (3, .int (nI (j)))] [] := by
          intro d_j
          induction d_j with
          | zero =>
            intro j hi_L17_3 hq
            have he_L17_3 : 64 = j := by omega
            subst he_L17_3
            refine r_iload_n X 3 d_Co_firstPair_17 rfl rfl ?_
            refine r_bipush X (v := nI (64)) d_Co_firstPair_18 (by decide) ?_
            refine r_icge X (tgt := 45) (c := 64 ≤ 64) d_Co_firstPair_20 (by decide) (nI_leI (Nat.le_of_ble_eq_true rfl) (by omega)) (fun c_20 => ?_) (fun c_20 => ?_)
            · -- taken
              refine r_iinc X 2 (v := nI (i + 1)) [(2, .int (nI (i + 1))), (0, .ref (ads o (84))), (1, .ref (ads o (1))), (3, .int (nI (64)))] d_Co_firstPair_45 rfl (nI_add _ 1) (Nat.le_of_ble_eq_true rfl) rfl ?_
              refine r_goto X (tgt := 7) d_Co_firstPair_48 (by decide) ?_
              refine V.wk [1, 2, 0] (V.eq (ih_L7_1 (i + 1) (by omega) (hq)) ?_ ?_ ?_ rfl) (rfl : lv_pick _ [1, 2, 0] = [(0, .ref (ads o (84))), (1, .ref (ads o (1))), (2, .int (nI (i + 1)))])
              · rfl
              · rfl
              · first | rfl | (simp_all [ct, lastB, alB, fromB]; done)
            · -- not taken
              exact False.elim (by omega)
          | succ d_j ih_L17_3 =>
            intro j hi_L17_3 hq
            have hlt_L17_3 : j < 64 := by omega
            refine r_iload_n X 3 d_Co_firstPair_17 rfl rfl ?_
            refine r_bipush X (v := nI (64)) d_Co_firstPair_18 (by decide) ?_
            refine r_icge X (tgt := 45) (c := 64 ≤ j) d_Co_firstPair_20 (by decide) (nI_leI (Nat.le_of_ble_eq_true rfl) (by omega)) (fun c_20_4 => ?_) (fun c_20_4 => ?_)
            · -- taken
              exact False.elim (by omega)
            · -- not taken
              refine r_aload_n X 0 d_Co_firstPair_23 rfl rfl ?_
              refine r_iload_n X 2 d_Co_firstPair_24 rfl rfl ?_
              refine r_iload_n X 3 d_Co_firstPair_25 rfl rfl ?_
              refine r_callV X (m_Co_goTogether l o mi zc i j (colS (ml 2) i n) (colS (ml 2) j n) (allS n) (hcol i (by omega)) (hcol j (by omega)) (hall) (by omega) (by omega)) ok_Co_goTogether w_Co_36 rfl b_84 e_84 rfl ⟨Nat.le_of_ble_eq_true rfl, Nat.le_of_ble_eq_true rfl⟩ (rest := []) rfl (Nat.le_of_ble_eq_true rfl) d_Co_firstPair_26 ?_
              refine kD (st' := [.int (bI (!(decide ((colS (ml 2) i n) = 0) || decide ((colS (ml 2) i n) = (allS n))) && (decide ((colS (ml 2) i n) = (colS (ml 2) j n)) || decide ((colS (ml 2) i n) = (allS n) ^^^ (colS (ml 2) j n)))))]) rfl ?_
              refine r_ifeqB X (tgt := 39) (b := !(decide ((colS (ml 2) i n) = 0) || decide ((colS (ml 2) i n) = (allS n))) && (decide ((colS (ml 2) i n) = (colS (ml 2) j n)) || decide ((colS (ml 2) i n) = (allS n) ^^^ (colS (ml 2) j n)))) d_Co_firstPair_29 (by decide) (fun c_29 => ?_) (fun c_29 => ?_)
              · -- taken
                refine r_iinc X 3 (v := nI (j + 1)) [(3, .int (nI (j + 1))), (0, .ref (ads o (84))), (1, .ref (ads o (1))), (2, .int (nI (i)))] d_Co_firstPair_39 rfl (nI_add _ 1) (Nat.le_of_ble_eq_true rfl) rfl ?_
                refine r_goto X (tgt := 17) d_Co_firstPair_42 (by decide) ?_
                refine V.wk [1, 2, 3, 0] (V.eq (ih_L17_3 (j + 1) (by omega) (hq.trans (fromC_miss (by assumption)))) ?_ ?_ ?_ rfl) (rfl : lv_pick _ [1, 2, 3, 0] = [(0, .ref (ads o (84))), (1, .ref (ads o (1))), (2, .int (nI (i))), (3, .int (nI (j + 1)))])
                · rfl
                · rfl
                · first | rfl | (simp_all [ct, lastB, alB, fromB]; done)
              · -- not taken
                refine r_bipush X (v := nI (64)) d_Co_firstPair_32 (by decide) ?_
                refine r_iload_n X 2 d_Co_firstPair_34 rfl rfl ?_
                refine r_imul X (v := nI (64 * i)) d_Co_firstPair_35 (pk_mul _ _) ?_
                refine r_iload_n X 3 d_Co_firstPair_36 rfl rfl ?_
                refine r_iadd X (v := nI (64 * i + j)) d_Co_firstPair_37 (nI_add _ _) ?_
                refine r_end_i X d_Co_firstPair_38 ?_
                refine ⟨?_, rfl, hg⟩; exact congrArg (fun z => some (Value.int z)) (hq.trans (fromC_hit (by assumption))).symm
        refine V.wk [1, 2, 3, 0] (V.eq (L17_3 (64 - (i + 1)) (i + 1) (by omega) (by rw [hr, togR, show 63 - i = 64 - (i + 1) from by omega])) ?_ ?_ ?_ rfl) (rfl : lv_pick _ [1, 2, 3, 0] = [(0, .ref (ads o (84))), (1, .ref (ads o (1))), (2, .int (nI (i))), (3, .int (nI (i + 1)))])
        · rfl
        · rfl
        · rfl
  refine V.wk [1, 2, 0] (V.eq (L7_1 (64 - 0) 0 (by omega) (rfl)) ?_ ?_ ?_ rfl) (rfl : lv_pick _ [1, 2, 0] = [(0, .ref (ads o (84))), (1, .ref (ads o (1))), (2, .int (nI (0)))])
  · rfl
  · rfl
  · rfl

set_option maxHeartbeats 4000000 in
set_option maxRecDepth 100000 in
theorem m_Co_mostOf (l : Launch) (o : OM) (mi : MI) (ml : ML) (x : Int64) (n : Nat) (hn : mi 1 2 = nI n) (hn40 : n ≤ 40) : Con l y_Co_mostOf c_Co_mostOf 8 (some .long) 1 23 o [.ref (ads o (84)), .ref (ads o (1)), .long (x)] mi ml (fun v m z => v = some (.long (stB (fun b => !decide (2 * pop ((colS (ml 2) b n) &&& x) ≤ pop x)) 64)) ∧ m = mi ∧ ∀ t, t ≠ 84 → t ≠ 85 → z t = ml t) := by
  refine Con.mk (by decide) (Nat.le_of_ble_eq_true rfl) (fun γ X => ?_)
  show V γ o 8 mi ml 0 [(0, .ref (ads o (84))), (1, .ref (ads o (1))), (2, .long (x))] []
  refine r_aload_n X 0 d_Co_mostOf_0 rfl rfl ?_
  refine r_aload_n X 1 d_Co_mostOf_1 rfl rfl ?_
  refine r_callV X (m_Co_read l o mi ml n (hn) hn40) ok_Co_read w_Co_28 rfl b_84 e_84 rfl ⟨Nat.le_of_ble_eq_true rfl, Nat.le_of_ble_eq_true rfl⟩ (rest := []) rfl (Nat.le_of_ble_eq_true rfl) d_Co_mostOf_2 ?_
  rintro _ mm zc ⟨rfl, hmm, hall, hcol, hg⟩
  have hmm := hmm.symm
  subst hmm
  show V γ o 8 mi zc 5 [(0, .ref (ads o (84))), (1, .ref (ads o (1))), (2, .long (x))] []
  refine r_lload_n X 2 d_Co_mostOf_5 rfl rfl ?_
  refine r_callS X (m_Lg_bitCount l o mi zc x) ok_Lg_bitCount w_Co_40 rfl ⟨Nat.le_of_ble_eq_true rfl, Nat.le_of_ble_eq_true rfl⟩ (rest := []) rfl (Nat.le_of_ble_eq_true rfl) d_Co_mostOf_6 ?_
  refine kD (st' := [.int (nI (pop x))]) rfl ?_
  refine r_istore X [(4, .int (nI (pop x))), (0, .ref (ads o (84))), (1, .ref (ads o (1))), (2, .long (x))] d_Co_mostOf_9 (Nat.le_of_ble_eq_true rfl) rfl ?_
  refine r_lconst X (v := 0) d_Co_mostOf_11 (by decide) ?_
  refine r_lstore X [(5, .long (0)), (4, .int (nI (pop x))), (0, .ref (ads o (84))), (1, .ref (ads o (1))), (2, .long (x))] d_Co_mostOf_12 (Nat.le_of_ble_eq_true rfl) rfl ?_
  refine r_iconst X (v := nI (0)) d_Co_mostOf_14 (by decide) ?_
  refine r_istore X [(7, .int (nI (0))), (5, .long (0)), (4, .int (nI (pop x))), (0, .ref (ads o (84))), (1, .ref (ads o (1))), (2, .long (x))] d_Co_mostOf_15 (Nat.le_of_ble_eq_true rfl) rfl ?_
  have L17_1 : ∀ (d_i i : Nat), i + d_i = 64 → V γ o 8 mi zc 17 [(0, .ref (ads o (84))), (1, .ref (ads o (1))), (2, .long (x)), (4, .int (nI (pop x))), (5, .long (stB (fun b => !decide (2 * pop ((colS (ml 2) b n) &&& x) ≤ pop x)) (i))), (7, .int (nI (i)))] [] := by
    intro d_i
    induction d_i with
    | zero =>
      intro i hi_L17_1 
      have he_L17_1 : 64 = i := by omega
      subst he_L17_1
      refine r_iload X 5 d_Co_mostOf_17 rfl ?_
      refine r_bipush X (v := nI (64)) d_Co_mostOf_19 (by decide) ?_
      refine r_icge X (tgt := 58) (c := 64 ≤ 64) d_Co_mostOf_21 (by decide) (nI_leI (Nat.le_of_ble_eq_true rfl) (by omega)) (fun c_21 => ?_) (fun c_21 => ?_)
      · -- taken
        refine r_lload X 4 d_Co_mostOf_58 rfl ?_
        refine r_end_l X d_Co_mostOf_60 ?_
        exact ⟨rfl, rfl, hg⟩
      · -- not taken
        exact False.elim (by omega)
    | succ d_i ih_L17_1 =>
      intro i hi_L17_1 
      have hlt_L17_1 : i < 64 := by omega
      have hp1 := pop_le x
      have hp2 := pop_le ((colS (ml 2) i n) &&& (x))
      refine r_iload X 5 d_Co_mostOf_17 rfl ?_
      refine r_bipush X (v := nI (64)) d_Co_mostOf_19 (by decide) ?_
      refine r_icge X (tgt := 58) (c := 64 ≤ i) d_Co_mostOf_21 (by decide) (nI_leI (Nat.le_of_ble_eq_true rfl) (by omega)) (fun c_21_2 => ?_) (fun c_21_2 => ?_)
      · -- taken
        exact False.elim (by omega)
      · -- not taken
        refine r_iconst X (v := nI (2)) d_Co_mostOf_24 (by decide) ?_
        refine r_aload_n X 0 d_Co_mostOf_25 rfl rfl ?_
        refine r_get X f_Co_9 b_84 e_84 (v := .ref (ads o (85))) rfl d_Co_mostOf_26 ?_
        refine r_iload X 5 d_Co_mostOf_29 rfl ?_
        refine r_lald X (v := colS (ml 2) i n) b_85 e_85 (Nat.le_of_ble_eq_true rfl) (by omega) (hcol i (by omega)) d_Co_mostOf_31 ?_
        refine r_lload_n X 2 d_Co_mostOf_32 rfl rfl ?_
        refine r_land X (v := (colS (ml 2) i n) &&& (x)) d_Co_mostOf_33 (rfl) ?_
        refine r_callS X (m_Lg_bitCount l o mi zc ((colS (ml 2) i n) &&& (x))) ok_Lg_bitCount w_Co_40 rfl ⟨Nat.le_of_ble_eq_true rfl, Nat.le_of_ble_eq_true rfl⟩ (rest := [.int (nI (2))]) rfl (Nat.le_of_ble_eq_true rfl) d_Co_mostOf_34 ?_
        refine kD (st' := [.int (nI (pop ((colS (ml 2) i n) &&& (x)))), .int (nI (2))]) rfl ?_
        refine r_imul X (v := nI (2 * (pop ((colS (ml 2) i n) &&& (x))))) d_Co_mostOf_37 (pk_mul _ _) ?_
        refine r_iload X 3 d_Co_mostOf_38 rfl ?_
        refine r_icle X (tgt := 52) (c := (2 * (pop ((colS (ml 2) i n) &&& (x)))) ≤ (pop x)) d_Co_mostOf_40 (by decide) (nI_leI (by omega) (pop_lt _)) (fun c_40 => ?_) (fun c_40 => ?_)
        · -- taken
          refine r_iinc X 5 (v := nI (i + 1)) [(7, .int (nI (i + 1))), (0, .ref (ads o (84))), (1, .ref (ads o (1))), (2, .long (x)), (4, .int (nI (pop x))), (5, .long (stB (fun b => !decide (2 * pop ((colS (ml 2) b n) &&& x) ≤ pop x)) (i)))] d_Co_mostOf_52 rfl (nI_add _ 1) (Nat.le_of_ble_eq_true rfl) rfl ?_
          refine r_goto X (tgt := 17) d_Co_mostOf_55 (by decide) ?_
          refine V.wk [1, 2, 3, 4, 5, 0] (V.eq (ih_L17_1 (i + 1) (by omega) ) ?_ ?_ ?_ rfl) (rfl : lv_pick _ [1, 2, 3, 4, 5, 0] = [(0, .ref (ads o (84))), (1, .ref (ads o (1))), (2, .long (x)), (4, .int (nI (pop x))), (5, .long (stB (fun b => !decide (2 * pop ((colS (ml 2) b n) &&& x) ≤ pop x)) (i))), (7, .int (nI (i + 1)))])
          · rfl
          · rfl
          · first | (rw [stB_n (by simp_all)]; done) | (rw [stB_y (by simp_all)]; done) | (rw [stB_n] <;> simp_all; done) | (rw [stB_y] <;> simp_all; done)
        · -- not taken
          refine r_lload X 4 d_Co_mostOf_43 rfl ?_
          refine r_lconst X (v := 1) d_Co_mostOf_45 (by decide) ?_
          refine r_iload X 5 d_Co_mostOf_46 rfl ?_
          refine r_lshl X (v := shl (1) (i)) d_Co_mostOf_48 (rfl) ?_
          refine r_lor X (v := (stB (fun b => !decide (2 * pop ((colS (ml 2) b n) &&& x) ≤ pop x)) (i)) ||| (shl (1) (i))) d_Co_mostOf_49 (rfl) ?_
          refine r_lstore X [(5, .long ((stB (fun b => !decide (2 * pop ((colS (ml 2) b n) &&& x) ≤ pop x)) (i)) ||| (shl (1) (i)))), (0, .ref (ads o (84))), (1, .ref (ads o (1))), (2, .long (x)), (4, .int (nI (pop x))), (7, .int (nI (i)))] d_Co_mostOf_50 (Nat.le_of_ble_eq_true rfl) rfl ?_
          refine r_iinc X 5 (v := nI (i + 1)) [(7, .int (nI (i + 1))), (5, .long ((stB (fun b => !decide (2 * pop ((colS (ml 2) b n) &&& x) ≤ pop x)) (i)) ||| (shl (1) (i)))), (0, .ref (ads o (84))), (1, .ref (ads o (1))), (2, .long (x)), (4, .int (nI (pop x)))] d_Co_mostOf_52 rfl (nI_add _ 1) (Nat.le_of_ble_eq_true rfl) rfl ?_
          refine r_goto X (tgt := 17) d_Co_mostOf_55 (by decide) ?_
          refine V.wk [2, 3, 4, 5, 1, 0] (V.eq (ih_L17_1 (i + 1) (by omega) ) ?_ ?_ ?_ rfl) (rfl : lv_pick _ [2, 3, 4, 5, 1, 0] = [(0, .ref (ads o (84))), (1, .ref (ads o (1))), (2, .long (x)), (4, .int (nI (pop x))), (5, .long ((stB (fun b => !decide (2 * pop ((colS (ml 2) b n) &&& x) ≤ pop x)) (i)) ||| (shl (1) (i)))), (7, .int (nI (i + 1)))])
          · rfl
          · rfl
          · first | (rw [stB_n (by simp_all)]; done) | (rw [stB_y (by simp_all)]; done) | (rw [stB_n] <;> simp_all; done) | (rw [stB_y] <;> simp_all; done)
  refine V.wk [3, 4, 5, 2, 1, 0] (V.eq (L17_1 (64 - 0) 0 (by omega) ) ?_ ?_ ?_ rfl) (rfl : lv_pick _ [3, 4, 5, 2, 1, 0] = [(0, .ref (ads o (84))), (1, .ref (ads o (1))), (2, .long (x)), (4, .int (nI (pop x))), (5, .long (0)), (7, .int (nI (0)))])
  · rfl
  · rfl
  · rfl
