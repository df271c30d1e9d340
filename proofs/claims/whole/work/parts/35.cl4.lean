set_option maxHeartbeats 4000000 in
set_option maxRecDepth 100000 in
theorem m_Gr_has (l : Launch) (o : OM) (mi : MI) (ml : ML) (g : Int32) (c : Nat) (hc : mi 81 2 = nI c) (hc40 : c ≤ 40) : ConD l y_Gr_has c_Gr_has 2 (some .boolean) 0 0 o [.ref (ads o (81)), .int (g)] mi ml (some (.int (bI (isMk c g)))) mi ml := by
  refine Con.mk (by decide) (Nat.le_of_ble_eq_true rfl) (fun γ X => ?_)
  show V γ o 2 mi ml 0 [(0, .ref (ads o (81))), (1, .int (g))] []
  refine r_iload_n X 1 d_Gr_has_0 rfl rfl ?_
  have hJ_1 : V γ o 2 mi ml 17 [(0, .ref (ads o (81))), (1, .int (g))] [.int (bI ((!decide (g < 0) && !decide ((nI (c)) ≤ g))))] := by
    refine r_end_z X (bI_nar _) d_Gr_has_17 ?_
    refine ⟨?_, rfl, rfl⟩; rw [isMk_cl]
  refine r_iflt X (tgt := 16) (c := g < 0) d_Gr_has_1 (by decide) (Iff.rfl) (fun c_1 => ?_) (fun c_1 => ?_)
  · -- taken
    refine r_iconst X (v := nI (0)) d_Gr_has_16 (by decide) ?_
    exact V.eq hJ_1 rfl rfl rfl (by rw [show ((!decide (g < 0) && !decide ((nI (c)) ≤ g))) = false from by first | (simp only [eq_true c_1, decide_true, decide_false, Bool.not_true, Bool.not_false, Bool.true_and, Bool.false_and, Bool.and_true, Bool.and_false, Bool.true_or, Bool.false_or, Bool.or_true, Bool.or_false, if_true, if_false, ite_true, ite_false, cond_true, cond_false, Bool.false_eq_true, reduceIte]; done) | (simp [c_1]; done) | (simp_all; done)]; rfl)
  · -- not taken
    refine r_iload_n X 1 d_Gr_has_4 rfl rfl ?_
    refine r_aload_n X 0 d_Gr_has_5 rfl rfl ?_
    refine r_get X f_Gr_18 b_81 e_81 (v := .int (nI (c))) (congrArg (fun z => some (Value.int z)) (hc)) d_Gr_has_6 ?_
    refine r_icge X (tgt := 16) (c := (nI (c)) ≤ g) d_Gr_has_9 (by decide) (Iff.rfl) (fun c_9 => ?_) (fun c_9 => ?_)
    · -- taken
      refine r_iconst X (v := nI (0)) d_Gr_has_16 (by decide) ?_
      exact V.eq hJ_1 rfl rfl rfl (by rw [show ((!decide (g < 0) && !decide ((nI (c)) ≤ g))) = false from by first | (simp only [eq_false c_1, eq_true c_9, decide_true, decide_false, Bool.not_true, Bool.not_false, Bool.true_and, Bool.false_and, Bool.and_true, Bool.and_false, Bool.true_or, Bool.false_or, Bool.or_true, Bool.or_false, if_true, if_false, ite_true, ite_false, cond_true, cond_false, Bool.false_eq_true, reduceIte]; done) | (simp [c_1, c_9]; done) | (simp_all; done)]; rfl)
    · -- not taken
      refine r_iconst X (v := nI (1)) d_Gr_has_12 (by decide) ?_
      refine r_goto X (tgt := 17) d_Gr_has_13 (by decide) ?_
      exact V.eq hJ_1 rfl rfl rfl (by rw [show ((!decide (g < 0) && !decide ((nI (c)) ≤ g))) = true from by first | (simp only [eq_false c_1, eq_false c_9, decide_true, decide_false, Bool.not_true, Bool.not_false, Bool.true_and, Bool.false_and, Bool.and_true, Bool.and_false, Bool.true_or, Bool.false_or, Bool.or_true, Bool.or_false, if_true, if_false, ite_true, ite_false, cond_true, cond_false, Bool.false_eq_true, reduceIte]; done) | (simp [c_1, c_9]; done) | (simp_all; done)]; rfl)

set_option maxHeartbeats 4000000 in
set_option maxRecDepth 100000 in
theorem m_Gr_findClose (l : Launch) (o : OM) (mi : MI) (ml : ML) (b : Nat) (n : Nat) (hn : mi 1 2 = nI n) (hn40 : n ≤ 40) (hb : b ≤ 64) : Con l y_Gr_findClose c_Gr_findClose 5 none 3 66 o [.ref (ads o (81)), .ref (ads o (1)), .int (nI (b))] mi ml (fun v m z => v = none ∧ m = mi ∧ (∀ j, j < n → z 83 j = clS (ml 2) n b j) ∧ ∀ t, t ≠ 83 → z t = ml t) := by
  refine Con.mk (by decide) (Nat.le_of_ble_eq_true rfl) (fun γ X => ?_)
  show V γ o 5 mi ml 0 [(0, .ref (ads o (81))), (1, .ref (ads o (1))), (2, .int (nI (b)))] []
  refine r_iconst X (v := nI (0)) d_Gr_findClose_0 (by decide) ?_
  refine r_istore_n X [(3, .int (nI (0))), (0, .ref (ads o (81))), (1, .ref (ads o (1))), (2, .int (nI (b)))] d_Gr_findClose_1 rfl (Nat.le_of_ble_eq_true rfl) rfl ?_
  have L2_1 : ∀ (d_i i : Nat), i + d_i = n → ∀ (ml_L2_1 : ML), (∀ t, t ≠ 83 → ml_L2_1 t = ml t) → (∀ q, q < i → ml_L2_1 83 q = clS (ml 2) n b q) → V γ o 5 mi ml_L2_1 2 [(0, .ref (ads o (81))), (1, .ref (ads o (1))), (2, .int (nI (b))), (3, .int (nI (i)))] [] := by
    intro d_i
    induction d_i with
    | zero =>
      intro i hi_L2_1 ml_L2_1 hg hcl
      have he_L2_1 : n = i := by omega
      subst he_L2_1
      refine r_iload_n X 3 d_Gr_findClose_2 rfl rfl ?_
      refine r_aload_n X 1 d_Gr_findClose_3 rfl rfl ?_
      refine r_get X f_Gr_26 b_1 e_1 (v := .int (nI (n))) (congrArg (fun z => some (Value.int z)) (hn)) d_Gr_findClose_4 ?_
      refine r_icge X (tgt := 65) (c := n ≤ n) d_Gr_findClose_7 (by decide) (nI_leI (by omega) (by omega)) (fun c_7 => ?_) (fun c_7 => ?_)
      · -- taken
        refine r_end_v X d_Gr_findClose_65 ?_
        exact ⟨rfl, rfl, hcl, hg⟩
      · -- not taken
        exact False.elim (by omega)
    | succ d_i ih_L2_1 =>
      intro i hi_L2_1 ml_L2_1 hg hcl
      have hlt_L2_1 : i < n := by omega
      refine r_iload_n X 3 d_Gr_findClose_2 rfl rfl ?_
      refine r_aload_n X 1 d_Gr_findClose_3 rfl rfl ?_
      refine r_get X f_Gr_26 b_1 e_1 (v := .int (nI (n))) (congrArg (fun z => some (Value.int z)) (hn)) d_Gr_findClose_4 ?_
      refine r_icge X (tgt := 65) (c := n ≤ i) d_Gr_findClose_7 (by decide) (nI_leI (by omega) (by omega)) (fun c_7_2 => ?_) (fun c_7_2 => ?_)
      · -- taken
        exact False.elim (by omega)
      · -- not taken
        refine r_aload_n X 0 d_Gr_findClose_10 rfl rfl ?_
        refine r_get X f_Gr_15 b_81 e_81 (v := .ref (ads o (83))) rfl d_Gr_findClose_11 ?_
        refine r_iload_n X 3 d_Gr_findClose_14 rfl rfl ?_
        refine r_lconst X (v := 0) d_Gr_findClose_15 (by decide) ?_
        refine r_last X b_83 e_83 (Nat.le_of_ble_eq_true rfl) (by omega) d_Gr_findClose_16 ?_
        refine r_iconst X (v := nI (0)) d_Gr_findClose_17 (by decide) ?_
        refine r_istore X [(4, .int (nI (0))), (0, .ref (ads o (81))), (1, .ref (ads o (1))), (2, .int (nI (b))), (3, .int (nI (i)))] d_Gr_findClose_18 (Nat.le_of_ble_eq_true rfl) rfl ?_
        have L20_3 : ∀ (d_j j : Nat), j + d_j = n → ∀ (ml_L20_3 : ML), (∀ t, t ≠ 83 → ml_L20_3 t = ml t) → (∀ q, q < i → ml_L20_3 83 q = clS (ml 2) n b q) → (ml_L20_3 83 i = stB (fun k => !decide (b < ds (ml 2 i) (ml 2 k))) j) → V γ o 5 mi ml_L20_3 20 [(0, .ref (ads o (81))), (1, .ref (ads o (1))), (2, .int (nI (b))), (3, .int (nI (i))), (4, .int (nI (j)))] [] := by
          intro d_j
          induction d_j with
          | zero =>
            intro j hi_L20_3 ml_L20_3 hg2 hcl2 hcur
            have he_L20_3 : n = j := by omega
            subst he_L20_3
            refine r_iload X 4 d_Gr_findClose_20 rfl ?_
            refine r_aload_n X 1 d_Gr_findClose_22 rfl rfl ?_
            refine r_get X f_Gr_26 b_1 e_1 (v := .int (nI (n))) (congrArg (fun z => some (Value.int z)) (hn)) d_Gr_findClose_23 ?_
            refine r_icge X (tgt := 59) (c := n ≤ n) d_Gr_findClose_26 (by decide) (nI_leI (by omega) (by omega)) (fun c_26 => ?_) (fun c_26 => ?_)
            · -- taken
              refine r_iinc X 3 (v := nI (i + 1)) [(3, .int (nI (i + 1))), (0, .ref (ads o (81))), (1, .ref (ads o (1))), (2, .int (nI (b))), (4, .int (nI (n)))] d_Gr_findClose_59 rfl (nI_add _ 1) (Nat.le_of_ble_eq_true rfl) rfl ?_
              refine r_goto X (tgt := 2) d_Gr_findClose_62 (by decide) ?_
              refine V.wk [1, 2, 3, 0] (V.eq (ih_L2_1 (i + 1) (by omega) (ml_L20_3) (hg2) (cl_st hcl2 hcur)) ?_ ?_ ?_ rfl) (rfl : lv_pick _ [1, 2, 3, 0] = [(0, .ref (ads o (81))), (1, .ref (ads o (1))), (2, .int (nI (b))), (3, .int (nI (i + 1)))])
              · rfl
              · rfl
              · first | rfl | (simp_all [ct, lastB, alB, fromB]; done)
            · -- not taken
              exact False.elim (by omega)
          | succ d_j ih_L20_3 =>
            intro j hi_L20_3 ml_L20_3 hg2 hcl2 hcur
            have hlt_L20_3 : j < n := by omega
            refine r_iload X 4 d_Gr_findClose_20 rfl ?_
            refine r_aload_n X 1 d_Gr_findClose_22 rfl rfl ?_
            refine r_get X f_Gr_26 b_1 e_1 (v := .int (nI (n))) (congrArg (fun z => some (Value.int z)) (hn)) d_Gr_findClose_23 ?_
            refine r_icge X (tgt := 59) (c := n ≤ j) d_Gr_findClose_26 (by decide) (nI_leI (by omega) (by omega)) (fun c_26_4 => ?_) (fun c_26_4 => ?_)
            · -- taken
              exact False.elim (by omega)
            · -- not taken
              refine r_aload_n X 1 d_Gr_findClose_29 rfl rfl ?_
              refine r_iload_n X 3 d_Gr_findClose_30 rfl rfl ?_
              refine r_iload X 4 d_Gr_findClose_31 rfl ?_
              refine r_callV X (m_St_between l o mi ml_L20_3 1 i j isSt.now (by omega) (by omega)) ok_St_between w_Gr_37 rfl b_1 e_1 rfl ⟨Nat.le_of_ble_eq_true rfl, Nat.le_of_ble_eq_true rfl⟩ (rest := []) rfl (Nat.le_of_ble_eq_true rfl) d_Gr_findClose_33 ?_
              refine kD (st' := [.int (nI (ds (ml_L20_3 2 i) (ml_L20_3 2 j)))]) rfl ?_
              rw [hg2 2 (by decide)]
              refine r_iload_n X 2 d_Gr_findClose_36 rfl rfl ?_
              refine r_icgt X (tgt := 53) (c := b < (ds (ml 2 i) (ml 2 j))) d_Gr_findClose_37 (by decide) (nI_ltI (by omega) (ds_lt _ _)) (fun c_37 => ?_) (fun c_37 => ?_)
              · -- taken
                refine r_iinc X 4 (v := nI (j + 1)) [(4, .int (nI (j + 1))), (0, .ref (ads o (81))), (1, .ref (ads o (1))), (2, .int (nI (b))), (3, .int (nI (i)))] d_Gr_findClose_53 rfl (nI_add _ 1) (Nat.le_of_ble_eq_true rfl) rfl ?_
                refine r_goto X (tgt := 20) d_Gr_findClose_56 (by decide) ?_
                refine V.wk [1, 2, 3, 4, 0] (V.eq (ih_L20_3 (j + 1) (by omega) (ml_L20_3) (hg2) (hcl2) (hcur.trans (stB_n (p := (fun k => !decide (b < ds (ml 2 i) (ml 2 k)))) (by simp; omega)).symm)) ?_ ?_ ?_ rfl) (rfl : lv_pick _ [1, 2, 3, 4, 0] = [(0, .ref (ads o (81))), (1, .ref (ads o (1))), (2, .int (nI (b))), (3, .int (nI (i))), (4, .int (nI (j + 1)))])
                · rfl
                · rfl
                · first | rfl | (simp_all [ct, lastB, alB, fromB]; done)
              · -- not taken
                refine r_aload_n X 0 d_Gr_findClose_40 rfl rfl ?_
                refine r_get X f_Gr_15 b_81 e_81 (v := .ref (ads o (83))) rfl d_Gr_findClose_41 ?_
                refine r_iload_n X 3 d_Gr_findClose_44 rfl rfl ?_
                refine r_dup2_11 X d_Gr_findClose_45 rfl rfl ?_
                refine r_lald X (v := stB (fun k => !decide (b < ds (ml 2 i) (ml 2 k))) j) b_83 e_83 (Nat.le_of_ble_eq_true rfl) (by omega) (hcur) d_Gr_findClose_46 ?_
                refine r_lconst X (v := 1) d_Gr_findClose_47 (by decide) ?_
                refine r_iload X 4 d_Gr_findClose_48 rfl ?_
                refine r_lshl X (v := shl (1) (j)) d_Gr_findClose_50 (rfl) ?_
                refine r_lor X (v := (stB (fun k => !decide (b < ds (ml 2 i) (ml 2 k))) j) ||| (shl (1) (j))) d_Gr_findClose_51 (rfl) ?_
                refine r_last X b_83 e_83 (Nat.le_of_ble_eq_true rfl) (by omega) d_Gr_findClose_52 ?_
                refine r_iinc X 4 (v := nI (j + 1)) [(4, .int (nI (j + 1))), (0, .ref (ads o (81))), (1, .ref (ads o (1))), (2, .int (nI (b))), (3, .int (nI (i)))] d_Gr_findClose_53 rfl (nI_add _ 1) (Nat.le_of_ble_eq_true rfl) rfl ?_
                refine r_goto X (tgt := 20) d_Gr_findClose_56 (by decide) ?_
                refine V.wk [1, 2, 3, 4, 0] (V.eq (ih_L20_3 (j + 1) (by omega) ((u2 ml_L20_3 83 i ((stB (fun k => !decide (b < ds (ml 2 i) (ml 2 k))) j) ||| (shl (1) (j))))) (fun t h1 => by rw [u2_n _ _ _ h1]; exact hg2 t h1) (row_kept hcl2) ((by rw [u2_s, uf_s]; exact (stB_y (p := (fun k => !decide (b < ds (ml 2 i) (ml 2 k)))) (by simp; omega)).symm))) ?_ ?_ ?_ rfl) (rfl : lv_pick _ [1, 2, 3, 4, 0] = [(0, .ref (ads o (81))), (1, .ref (ads o (1))), (2, .int (nI (b))), (3, .int (nI (i))), (4, .int (nI (j + 1)))])
                · rfl
                · rfl
                · first | rfl | (simp_all [ct, lastB, alB, fromB]; done)
        refine V.wk [1, 2, 3, 4, 0] (V.eq (L20_3 (n - 0) 0 (by omega) ((u2 ml_L2_1 83 i (0))) (fun t h1 => by rw [u2_n _ _ _ h1]; exact hg t h1) (row_kept hcl) (by rw [u2_s, uf_s]; rfl)) ?_ ?_ ?_ rfl) (rfl : lv_pick _ [1, 2, 3, 4, 0] = [(0, .ref (ads o (81))), (1, .ref (ads o (1))), (2, .int (nI (b))), (3, .int (nI (i))), (4, .int (nI (0)))])
        · rfl
        · rfl
        · rfl
  refine V.wk [1, 2, 3, 0] (V.eq (L2_1 (n - 0) 0 (by omega) (ml) (fun _ _ => rfl) (fun q hq => absurd hq (by omega))) ?_ ?_ ?_ rfl) (rfl : lv_pick _ [1, 2, 3, 0] = [(0, .ref (ads o (81))), (1, .ref (ads o (1))), (2, .int (nI (b))), (3, .int (nI (0)))])
  · rfl
  · rfl
  · rfl

set_option maxHeartbeats 4000000 in
set_option maxRecDepth 100000 in
theorem m_Gr_spread (l : Launch) (o : OM) (mi : MI) (ml : ML) (f : Nat) (n : Nat) (cl : Nat → Int64) (hn40 : n ≤ 40) (hf : f < n) (hcl : ∀ j, j < n → ml 83 j = cl j) : ConD l y_Gr_spread c_Gr_spread 9 (some .long) 1 22 o [.ref (ads o (81)), .int (nI (f)), .int (nI (n))] mi ml (some (.long (sprS cl n (cl f) n))) mi ml := by
  refine Con.mk (by decide) (Nat.le_of_ble_eq_true rfl) (fun γ X => ?_)
  show V γ o 9 mi ml 0 [(0, .ref (ads o (81))), (1, .int (nI (f))), (2, .int (nI (n)))] []
  refine r_aload_n X 0 d_Gr_spread_0 rfl rfl ?_
  refine r_get X f_Gr_15 b_81 e_81 (v := .ref (ads o (83))) rfl d_Gr_spread_1 ?_
  refine r_iload_n X 1 d_Gr_spread_4 rfl rfl ?_
  refine r_lald X (v := cl f) b_83 e_83 (Nat.le_of_ble_eq_true rfl) (by omega) (hcl _ (by omega)) d_Gr_spread_5 ?_
  refine r_lstore_n X [(3, .long (cl f)), (0, .ref (ads o (81))), (1, .int (nI (f))), (2, .int (nI (n)))] d_Gr_spread_6 rfl (Nat.le_of_ble_eq_true rfl) rfl ?_
  refine r_iconst X (v := nI (0)) d_Gr_spread_7 (by decide) ?_
  refine r_istore X [(5, .int (nI (0))), (3, .long (cl f)), (0, .ref (ads o (81))), (1, .int (nI (f))), (2, .int (nI (n)))] d_Gr_spread_8 (Nat.le_of_ble_eq_true rfl) rfl ?_
  have L10_1 : ∀ (d_r r : Nat), r + d_r = n → V γ o 9 mi ml 10 [(0, .ref (ads o (81))), (1, .int (nI (f))), (2, .int (nI (n))), (3, .long (sprS cl n (cl f) r)), (5, .int (nI (r)))] [] := by
    intro d_r
    induction d_r with
    | zero =>
      intro r hi_L10_1 
      have he_L10_1 : n = r := by omega
      subst he_L10_1
      refine r_iload X 4 d_Gr_spread_10 rfl ?_
      refine r_iload_n X 2 d_Gr_spread_12 rfl rfl ?_
      refine r_icge X (tgt := 69) (c := n ≤ n) d_Gr_spread_13 (by decide) (nI_leI (by omega) (by omega)) (fun c_13 => ?_) (fun c_13 => ?_)
      · -- taken
        refine r_lload_n X 3 d_Gr_spread_69 rfl rfl ?_
        refine r_end_l X d_Gr_spread_70 ?_
        exact ⟨rfl, rfl, rfl⟩
      · -- not taken
        exact False.elim (by omega)
    | succ d_r ih_L10_1 =>
      intro r hi_L10_1 
      have hlt_L10_1 : r < n := by omega
      refine r_iload X 4 d_Gr_spread_10 rfl ?_
      refine r_iload_n X 2 d_Gr_spread_12 rfl rfl ?_
      refine r_icge X (tgt := 69) (c := n ≤ r) d_Gr_spread_13 (by decide) (nI_leI (by omega) (by omega)) (fun c_13_2 => ?_) (fun c_13_2 => ?_)
      · -- taken
        exact False.elim (by omega)
      · -- not taken
        refine r_lload_n X 3 d_Gr_spread_16 rfl rfl ?_
        refine r_lstore X [(6, .long (sprS cl n (cl f) r)), (0, .ref (ads o (81))), (1, .int (nI (f))), (2, .int (nI (n))), (3, .long (sprS cl n (cl f) r)), (5, .int (nI (r)))] d_Gr_spread_17 (Nat.le_of_ble_eq_true rfl) rfl ?_
        refine r_iconst X (v := nI (0)) d_Gr_spread_19 (by decide) ?_
        refine r_istore X [(8, .int (nI (0))), (6, .long (sprS cl n (cl f) r)), (0, .ref (ads o (81))), (1, .int (nI (f))), (2, .int (nI (n))), (3, .long (sprS cl n (cl f) r)), (5, .int (nI (r)))] d_Gr_spread_20 (Nat.le_of_ble_eq_true rfl) rfl ?_
        have L22_3 : ∀ (d_k k : Nat), k + d_k = n → V γ o 9 mi ml 22 [(0, .ref (ads o (81))), (1, .int (nI (f))), (2, .int (nI (n))), (3, .long (psS cl (sprS cl n (cl f) r) k)), (5, .int (nI (r))), (6, .long (sprS cl n (cl f) r)), (8, .int (nI (k)))] [] := by
          intro d_k
          induction d_k with
          | zero =>
            intro k hi_L22_3 
            have he_L22_3 : n = k := by omega
            subst he_L22_3
            refine r_iload X 6 d_Gr_spread_22 rfl ?_
            refine r_iload_n X 2 d_Gr_spread_24 rfl rfl ?_
            refine r_icge X (tgt := 53) (c := n ≤ n) d_Gr_spread_25 (by decide) (nI_leI (by omega) (by omega)) (fun c_25 => ?_) (fun c_25 => ?_)
            · -- taken
              refine r_lload_n X 3 d_Gr_spread_53 rfl rfl ?_
              refine r_lload X 5 d_Gr_spread_54 rfl ?_
              refine r_lcmp X d_Gr_spread_56 ?_
              refine r_ifneP X (tgt := 63) (c := (psS cl (sprS cl n (cl f) r) n) = (sprS cl n (cl f) r)) d_Gr_spread_57 (by decide) (lg_cmp_eq _ _) (fun c_57 => ?_) (fun c_57 => ?_)
              · -- taken
                refine r_iinc X 4 (v := nI (r + 1)) [(5, .int (nI (r + 1))), (0, .ref (ads o (81))), (1, .int (nI (f))), (2, .int (nI (n))), (3, .long (psS cl (sprS cl n (cl f) r) n)), (6, .long (sprS cl n (cl f) r)), (8, .int (nI (n)))] d_Gr_spread_63 rfl (nI_add _ 1) (Nat.le_of_ble_eq_true rfl) rfl ?_
                refine r_goto X (tgt := 10) d_Gr_spread_66 (by decide) ?_
                refine V.wk [1, 2, 3, 4, 0] (V.eq (ih_L10_1 (r + 1) (by omega) ) ?_ ?_ ?_ rfl) (rfl : lv_pick _ [1, 2, 3, 4, 0] = [(0, .ref (ads o (81))), (1, .int (nI (f))), (2, .int (nI (n))), (3, .long (psS cl (sprS cl n (cl f) r) n)), (5, .int (nI (r + 1)))])
                · rfl
                · rfl
                · first | rfl | (simp_all [ct, lastB, alB, fromB]; done)
              · -- not taken
                refine r_goto X (tgt := 69) d_Gr_spread_60 (by decide) ?_
                refine r_lload_n X 3 d_Gr_spread_69 rfl rfl ?_
                refine r_end_l X d_Gr_spread_70 ?_
                refine ⟨?_, rfl, rfl⟩; have hfx2 := sprS_fix (by assumption) (n - r); rw [show r + (n - r) = n by omega] at hfx2; rw [hfx2]; exact congrArg (fun z => some (Value.long z)) (by assumption)
            · -- not taken
              exact False.elim (by omega)
          | succ d_k ih_L22_3 =>
            intro k hi_L22_3 
            have hlt_L22_3 : k < n := by omega
            refine r_iload X 6 d_Gr_spread_22 rfl ?_
            refine r_iload_n X 2 d_Gr_spread_24 rfl rfl ?_
            refine r_icge X (tgt := 53) (c := n ≤ k) d_Gr_spread_25 (by decide) (nI_leI (by omega) (by omega)) (fun c_25_4 => ?_) (fun c_25_4 => ?_)
            · -- taken
              exact False.elim (by omega)
            · -- not taken
              refine r_lload_n X 3 d_Gr_spread_28 rfl rfl ?_
              refine r_iload X 6 d_Gr_spread_29 rfl ?_
              refine r_callN X (m_Nm_hasBit l o mi ml (psS cl (sprS cl n (cl f) r) k) k (by omega)) ok_Nm_hasBit (host := "NearMarks") (by decide +kernel) rfl ⟨Nat.le_of_ble_eq_true rfl, Nat.le_of_ble_eq_true rfl⟩ (rest := []) rfl (Nat.le_of_ble_eq_true rfl) d_Gr_spread_31 ?_
              refine kD (st' := [.int (bI (bt (psS cl (sprS cl n (cl f) r) k) k))]) rfl ?_
              refine r_ifeqB X (tgt := 47) (b := bt (psS cl (sprS cl n (cl f) r) k) k) d_Gr_spread_34 (by decide) (fun c_34 => ?_) (fun c_34 => ?_)
              · -- taken
                refine r_iinc X 6 (v := nI (k + 1)) [(8, .int (nI (k + 1))), (0, .ref (ads o (81))), (1, .int (nI (f))), (2, .int (nI (n))), (3, .long (psS cl (sprS cl n (cl f) r) k)), (5, .int (nI (r))), (6, .long (sprS cl n (cl f) r))] d_Gr_spread_47 rfl (nI_add _ 1) (Nat.le_of_ble_eq_true rfl) rfl ?_
                refine r_goto X (tgt := 22) d_Gr_spread_50 (by decide) ?_
                refine V.wk [1, 2, 3, 4, 5, 6, 0] (V.eq (ih_L22_3 (k + 1) (by omega) ) ?_ ?_ ?_ rfl) (rfl : lv_pick _ [1, 2, 3, 4, 5, 6, 0] = [(0, .ref (ads o (81))), (1, .int (nI (f))), (2, .int (nI (n))), (3, .long (psS cl (sprS cl n (cl f) r) k)), (5, .int (nI (r))), (6, .long (sprS cl n (cl f) r)), (8, .int (nI (k + 1)))])
                · rfl
                · rfl
                · first | (rw [psS_y (by assumption)]; done) | (rw [psS_n (by assumption)]; done)
              · -- not taken
                refine r_lload_n X 3 d_Gr_spread_37 rfl rfl ?_
                refine r_aload_n X 0 d_Gr_spread_38 rfl rfl ?_
                refine r_get X f_Gr_15 b_81 e_81 (v := .ref (ads o (83))) rfl d_Gr_spread_39 ?_
                refine r_iload X 6 d_Gr_spread_42 rfl ?_
                refine r_lald X (v := cl k) b_83 e_83 (Nat.le_of_ble_eq_true rfl) (by omega) (hcl _ (by omega)) d_Gr_spread_44 ?_
                refine r_lor X (v := (psS cl (sprS cl n (cl f) r) k) ||| (cl k)) d_Gr_spread_45 (rfl) ?_
                refine r_lstore_n X [(3, .long ((psS cl (sprS cl n (cl f) r) k) ||| (cl k))), (0, .ref (ads o (81))), (1, .int (nI (f))), (2, .int (nI (n))), (5, .int (nI (r))), (6, .long (sprS cl n (cl f) r)), (8, .int (nI (k)))] d_Gr_spread_46 rfl (Nat.le_of_ble_eq_true rfl) rfl ?_
                refine r_iinc X 6 (v := nI (k + 1)) [(8, .int (nI (k + 1))), (3, .long ((psS cl (sprS cl n (cl f) r) k) ||| (cl k))), (0, .ref (ads o (81))), (1, .int (nI (f))), (2, .int (nI (n))), (5, .int (nI (r))), (6, .long (sprS cl n (cl f) r))] d_Gr_spread_47 rfl (nI_add _ 1) (Nat.le_of_ble_eq_true rfl) rfl ?_
                refine r_goto X (tgt := 22) d_Gr_spread_50 (by decide) ?_
                refine V.wk [2, 3, 4, 1, 5, 6, 0] (V.eq (ih_L22_3 (k + 1) (by omega) ) ?_ ?_ ?_ rfl) (rfl : lv_pick _ [2, 3, 4, 1, 5, 6, 0] = [(0, .ref (ads o (81))), (1, .int (nI (f))), (2, .int (nI (n))), (3, .long ((psS cl (sprS cl n (cl f) r) k) ||| (cl k))), (5, .int (nI (r))), (6, .long (sprS cl n (cl f) r)), (8, .int (nI (k + 1)))])
                · rfl
                · rfl
                · first | (rw [psS_y (by assumption)]; done) | (rw [psS_n (by assumption)]; done)
        refine V.wk [2, 3, 4, 5, 6, 1, 0] (V.eq (L22_3 (n - 0) 0 (by omega) ) ?_ ?_ ?_ rfl) (rfl : lv_pick _ [2, 3, 4, 5, 6, 1, 0] = [(0, .ref (ads o (81))), (1, .int (nI (f))), (2, .int (nI (n))), (3, .long (sprS cl n (cl f) r)), (5, .int (nI (r))), (6, .long (sprS cl n (cl f) r)), (8, .int (nI (0)))])
        · rfl
        · rfl
        · rfl
  refine V.wk [2, 3, 4, 1, 0] (V.eq (L10_1 (n - 0) 0 (by omega) ) ?_ ?_ ?_ rfl) (rfl : lv_pick _ [2, 3, 4, 1, 0] = [(0, .ref (ads o (81))), (1, .int (nI (f))), (2, .int (nI (n))), (3, .long (cl f)), (5, .int (nI (0)))])
  · rfl
  · rfl
  · rfl

set_option maxHeartbeats 4000000 in
set_option maxRecDepth 100000 in
theorem m_Gr_join (l : Launch) (o : OM) (mi : MI) (ml : ML) (b : Nat) (n : Nat) (hn : mi 1 2 = nI n) (hn40 : n ≤ 40) (hb : b ≤ 64) : Con l y_Gr_join c_Gr_join 6 none 4 90 o [.ref (ads o (81)), .ref (ads o (1)), .int (nI (b))] mi ml (fun v m z => v = none ∧ m 81 2 = nI (jnS (clS (ml 2) n b) n n).2 ∧ jnOK z (clS (ml 2) n b) n n ∧ (∀ t, t ≠ 81 → m t = mi t) ∧ ∀ t, t ≠ 82 → t ≠ 83 → z t = ml t) := by
  refine Con.mk (by decide) (Nat.le_of_ble_eq_true rfl) (fun γ X => ?_)
  show V γ o 6 mi ml 0 [(0, .ref (ads o (81))), (1, .ref (ads o (1))), (2, .int (nI (b)))] []
  refine r_aload_n X 0 d_Gr_join_0 rfl rfl ?_
  refine r_aload_n X 1 d_Gr_join_1 rfl rfl ?_
  refine r_iload_n X 2 d_Gr_join_2 rfl rfl ?_
  refine r_callV X (m_Gr_findClose l o mi ml b n (hn) hn40 hb) ok_Gr_findClose w_Gr_22 rfl b_81 e_81 rfl ⟨Nat.le_of_ble_eq_true rfl, Nat.le_of_ble_eq_true rfl⟩ (rest := []) rfl (Nat.le_of_ble_eq_true rfl) d_Gr_join_3 ?_
  rintro _ mm zc ⟨rfl, hmm, hcl, hg⟩
  have hmm := hmm.symm
  subst hmm
  show V γ o 6 mi zc 6 [(0, .ref (ads o (81))), (1, .ref (ads o (1))), (2, .int (nI (b)))] []
  refine r_lconst X (v := 0) d_Gr_join_6 (by decide) ?_
  refine r_lstore_n X [(3, .long (0)), (0, .ref (ads o (81))), (1, .ref (ads o (1))), (2, .int (nI (b)))] d_Gr_join_7 rfl (Nat.le_of_ble_eq_true rfl) rfl ?_
  refine r_aload_n X 1 d_Gr_join_8 rfl rfl ?_
  refine r_iconst X (v := nI (0)) d_Gr_join_9 (by decide) ?_
  refine r_putI X fw_Gr_18 b_81 e_81 (fun _ _ => rfl) (Nat.le_of_ble_eq_true rfl) d_Gr_join_10 ?_
  refine r_iconst X (v := nI (0)) d_Gr_join_13 (by decide) ?_
  refine r_istore X [(5, .int (nI (0))), (3, .long (0)), (0, .ref (ads o (81))), (1, .ref (ads o (1))), (2, .int (nI (b)))] d_Gr_join_14 (Nat.le_of_ble_eq_true rfl) rfl ?_
  have L16_1 : ∀ (d_i i : Nat), i + d_i = n → ∀ (mi_L16_1 : MI), ∀ (ml_L16_1 : ML), (∀ t, t ≠ 81 → mi_L16_1 t = mi t) → (∀ t, t ≠ 82 → t ≠ 83 → ml_L16_1 t = ml t) → (∀ j, j < n → ml_L16_1 83 j = clS (ml 2) n b j) → (mi_L16_1 81 2 = nI (jnS (clS (ml 2) n b) n i).2) → (jnOK ml_L16_1 (clS (ml 2) n b) n i) → V γ o 6 mi_L16_1 ml_L16_1 16 [(0, .ref (ads o (81))), (1, .ref (ads o (1))), (2, .int (nI (b))), (3, .long ((jnS (clS (ml 2) n b) n i).1)), (5, .int (nI (i)))] [] := by
    intro d_i
    induction d_i with
    | zero =>
      intro i hi_L16_1 mi_L16_1 ml_L16_1 hfi hfl hcl2 hcnt hjn
      have he_L16_1 : n = i := by omega
      subst he_L16_1
      refine r_iload X 4 d_Gr_join_16 rfl ?_
      refine r_aload_n X 1 d_Gr_join_18 rfl rfl ?_
      refine r_get X f_Gr_26 b_1 e_1 (v := .int (nI (n))) (congrArg (fun z => some (Value.int z)) ((by rw [hfi 1 (by decide)]; exact hn))) d_Gr_join_19 ?_
      refine r_icge X (tgt := 81) (c := n ≤ n) d_Gr_join_22 (by decide) (nI_leI (by omega) (by omega)) (fun c_22 => ?_) (fun c_22 => ?_)
      · -- taken
        refine r_end_v X d_Gr_join_81 ?_
        exact ⟨rfl, hcnt, hjn, hfi, hfl⟩
      · -- not taken
        exact False.elim (by omega)
    | succ d_i ih_L16_1 =>
      intro i hi_L16_1 mi_L16_1 ml_L16_1 hfi hfl hcl2 hcnt hjn
      have hlt_L16_1 : i < n := by omega
      refine r_iload X 4 d_Gr_join_16 rfl ?_
      refine r_aload_n X 1 d_Gr_join_18 rfl rfl ?_
      refine r_get X f_Gr_26 b_1 e_1 (v := .int (nI (n))) (congrArg (fun z => some (Value.int z)) ((by rw [hfi 1 (by decide)]; exact hn))) d_Gr_join_19 ?_
      refine r_icge X (tgt := 81) (c := n ≤ i) d_Gr_join_22 (by decide) (nI_leI (by omega) (by omega)) (fun c_22_2 => ?_) (fun c_22_2 => ?_)
      · -- taken
        exact False.elim (by omega)
      · -- not taken
        refine r_lload_n X 3 d_Gr_join_25 rfl rfl ?_
        refine r_iload X 4 d_Gr_join_26 rfl ?_
        refine r_callN X (m_Nm_hasBit l o mi_L16_1 ml_L16_1 ((jnS (clS (ml 2) n b) n i).1) i (by omega)) ok_Nm_hasBit (host := "NearMarks") (by decide +kernel) rfl ⟨Nat.le_of_ble_eq_true rfl, Nat.le_of_ble_eq_true rfl⟩ (rest := []) rfl (Nat.le_of_ble_eq_true rfl) d_Gr_join_28 ?_
        refine kD (st' := [.int (bI (bt ((jnS (clS (ml 2) n b) n i).1) i))]) rfl ?_
        refine r_ifneB X (tgt := 75) (b := bt ((jnS (clS (ml 2) n b) n i).1) i) d_Gr_join_31 (by decide) (fun c_31 => ?_) (fun c_31 => ?_)
        · -- taken
          refine r_iinc X 4 (v := nI (i + 1)) [(5, .int (nI (i + 1))), (0, .ref (ads o (81))), (1, .ref (ads o (1))), (2, .int (nI (b))), (3, .long ((jnS (clS (ml 2) n b) n i).1))] d_Gr_join_75 rfl (nI_add _ 1) (Nat.le_of_ble_eq_true rfl) rfl ?_
          refine r_goto X (tgt := 16) d_Gr_join_78 (by decide) ?_
          refine V.wk [1, 2, 3, 4, 0] (V.eq (ih_L16_1 (i + 1) (by omega) (mi_L16_1) (ml_L16_1) (hfi) (hfl) (hcl2) (by rw [jnS_y (by assumption)]; exact hcnt) (jnOK_y (by assumption) hjn)) ?_ ?_ ?_ rfl) (rfl : lv_pick _ [1, 2, 3, 4, 0] = [(0, .ref (ads o (81))), (1, .ref (ads o (1))), (2, .int (nI (b))), (3, .long ((jnS (clS (ml 2) n b) n i).1)), (5, .int (nI (i + 1)))])
          · rfl
          · rfl
          · first | (rw [jnS_y (by assumption)]; done) | (rw [jnS_n (by assumption)]; done)
        · -- not taken
          refine r_aload_n X 0 d_Gr_join_34 rfl rfl ?_
          refine r_get X f_Gr_9 b_81 e_81 (v := .ref (ads o (82))) rfl d_Gr_join_35 ?_
          refine r_aload_n X 0 d_Gr_join_38 rfl rfl ?_
          refine r_get X f_Gr_18 b_81 e_81 (v := .int (nI ((jnS (clS (ml 2) n b) n i).2))) (congrArg (fun z => some (Value.int z)) (hcnt)) d_Gr_join_39 ?_
          refine r_aload_n X 0 d_Gr_join_42 rfl rfl ?_
          refine r_iload X 4 d_Gr_join_43 rfl ?_
          refine r_aload_n X 1 d_Gr_join_45 rfl rfl ?_
          refine r_get X f_Gr_26 b_1 e_1 (v := .int (nI (n))) (congrArg (fun z => some (Value.int z)) ((by rw [hfi 1 (by decide)]; exact hn))) d_Gr_join_46 ?_
          refine r_callV X (m_Gr_spread l o mi_L16_1 ml_L16_1 i n (clS (ml 2) n b) (by omega) (by omega) (hcl2)) ok_Gr_spread w_Gr_33 rfl b_81 e_81 rfl ⟨Nat.le_of_ble_eq_true rfl, Nat.le_of_ble_eq_true rfl⟩ (rest := [.int (nI ((jnS (clS (ml 2) n b) n i).2)), .ref (ads o (82))]) rfl (Nat.le_of_ble_eq_true rfl) d_Gr_join_49 ?_
          refine kD (st' := [.long (sprS (clS (ml 2) n b) n ((clS (ml 2) n b) i) n), .int (nI ((jnS (clS (ml 2) n b) n i).2)), .ref (ads o (82))]) rfl ?_
          refine r_last X b_82 e_82 (Nat.le_of_ble_eq_true rfl) (Nat.lt_of_le_of_lt (jnS_le _ _ _) (by omega)) d_Gr_join_52 ?_
          refine r_lload_n X 3 d_Gr_join_53 rfl rfl ?_
          refine r_aload_n X 0 d_Gr_join_54 rfl rfl ?_
          refine r_get X f_Gr_9 b_81 e_81 (v := .ref (ads o (82))) rfl d_Gr_join_55 ?_
          refine r_aload_n X 0 d_Gr_join_58 rfl rfl ?_
          refine r_get X f_Gr_18 b_81 e_81 (v := .int (nI ((jnS (clS (ml 2) n b) n i).2))) (congrArg (fun z => some (Value.int z)) (hcnt)) d_Gr_join_59 ?_
          refine r_lald X (v := sprS (clS (ml 2) n b) n ((clS (ml 2) n b) i) n) b_82 e_82 (Nat.le_of_ble_eq_true rfl) (Nat.lt_of_le_of_lt (jnS_le _ _ _) (by omega)) ((by rw [u2_s, uf_s])) d_Gr_join_62 ?_
          refine r_lor X (v := ((jnS (clS (ml 2) n b) n i).1) ||| (sprS (clS (ml 2) n b) n ((clS (ml 2) n b) i) n)) d_Gr_join_63 (rfl) ?_
          refine r_lstore_n X [(3, .long (((jnS (clS (ml 2) n b) n i).1) ||| (sprS (clS (ml 2) n b) n ((clS (ml 2) n b) i) n))), (0, .ref (ads o (81))), (1, .ref (ads o (1))), (2, .int (nI (b))), (5, .int (nI (i)))] d_Gr_join_64 rfl (Nat.le_of_ble_eq_true rfl) rfl ?_
          refine r_aload_n X 1 d_Gr_join_65 rfl rfl ?_
          refine r_dup X d_Gr_join_66 rfl ?_
          refine r_get X f_Gr_18 b_81 e_81 (v := .int (nI ((jnS (clS (ml 2) n b) n i).2))) (congrArg (fun z => some (Value.int z)) (hcnt)) d_Gr_join_67 ?_
          refine r_iconst X (v := nI (1)) d_Gr_join_70 (by decide) ?_
          refine r_iadd X (v := nI ((jnS (clS (ml 2) n b) n i).2 + 1)) d_Gr_join_71 (nI_add _ _) ?_
          refine r_putI X fw_Gr_18 b_81 e_81 (fun _ _ => rfl) (Nat.le_of_ble_eq_true rfl) d_Gr_join_72 ?_
          refine r_iinc X 4 (v := nI (i + 1)) [(5, .int (nI (i + 1))), (3, .long (((jnS (clS (ml 2) n b) n i).1) ||| (sprS (clS (ml 2) n b) n ((clS (ml 2) n b) i) n))), (0, .ref (ads o (81))), (1, .ref (ads o (1))), (2, .int (nI (b)))] d_Gr_join_75 rfl (nI_add _ 1) (Nat.le_of_ble_eq_true rfl) rfl ?_
          refine r_goto X (tgt := 16) d_Gr_join_78 (by decide) ?_
          refine V.wk [2, 3, 4, 1, 0] (V.eq (ih_L16_1 (i + 1) (by omega) ((u2 mi_L16_1 81 2 (nI ((jnS (clS (ml 2) n b) n i).2 + 1)))) ((u2 ml_L16_1 82 ((jnS (clS (ml 2) n b) n i).2) (sprS (clS (ml 2) n b) n ((clS (ml 2) n b) i) n))) (fun t h1 => by rw [u2_n _ _ _ h1]; exact hfi t h1) (fun t h1 h2 => by rw [u2_n _ _ _ h1]; exact hfl t h1 h2) (fun j hj => by rw [u2_n _ _ _ (by decide)]; exact hcl2 j hj) (by rw [u2_s, uf_s, jnS_n (by assumption)]) (jnOK_n (by assumption) hjn)) ?_ ?_ ?_ rfl) (rfl : lv_pick _ [2, 3, 4, 1, 0] = [(0, .ref (ads o (81))), (1, .ref (ads o (1))), (2, .int (nI (b))), (3, .long (((jnS (clS (ml 2) n b) n i).1) ||| (sprS (clS (ml 2) n b) n ((clS (ml 2) n b) i) n))), (5, .int (nI (i + 1)))])
          · rfl
          · rfl
          · first | (rw [jnS_y (by assumption)]; done) | (rw [jnS_n (by assumption)]; done)
  refine V.wk [2, 3, 4, 1, 0] (V.eq (L16_1 (n - 0) 0 (by omega) ((u2 mi 81 2 (nI (0)))) (zc) (fun t h1 => by rw [u2_n _ _ _ h1]) (fun t _ h2 => hg t h2) (hcl) (by rw [u2_s, uf_s]; rfl) (fun k hk => absurd hk (Nat.not_lt_zero k))) ?_ ?_ ?_ rfl) (rfl : lv_pick _ [2, 3, 4, 1, 0] = [(0, .ref (ads o (81))), (1, .ref (ads o (1))), (2, .int (nI (b))), (3, .long (0)), (5, .int (nI (0)))])
  · rfl
  · rfl
  · rfl

set_option maxHeartbeats 4000000 in
set_option maxRecDepth 100000 in
theorem m_Pt_beginEvenly (l : Launch) (o : OM) (mi : MI) (ml : ML) (P : Nat) (h : Nat) (hP1 : 1 ≤ P) (hP8 : P ≤ 8) (hh : h < 3) : Con l y_Pt_beginEvenly c_Pt_beginEvenly 9 none 2 45 o [.ref (ads o (78)), .int (nI (P)), .int (nI (h))] mi ml (fun v m z => v = none ∧ PtOK m z 78 (evS P h P).1 ∧ (∀ t, t ≠ 78 → t ≠ 79 → m t = mi t) ∧ ∀ t, t ≠ 80 → z t = ml t) := by
  refine Con.mk (by decide) (Nat.le_of_ble_eq_true rfl) (fun γ X => ?_)
  have hd := Nat.div_mul_le_self 64 P
  have he := ev_ok P (by omega) hP1 h hh
  have h64 : 64 / P ≤ 64 := Nat.div_le_self 64 P
  show V γ o 9 mi ml 0 [(0, .ref (ads o (78))), (1, .int (nI (P))), (2, .int (nI (h)))] []
  refine r_bipush X (v := nI (64)) d_Pt_beginEvenly_0 (by decide) ?_
  refine r_iload_n X 1 d_Pt_beginEvenly_2 rfl rfl ?_
  refine r_iconst X (v := nI (1)) d_Pt_beginEvenly_3 (by decide) ?_
  refine r_max X (by omega) (Nat.le_of_ble_eq_true rfl) w_Pt_27 (Nat.le_of_ble_eq_true rfl) (Nat.le_of_ble_eq_true rfl) d_Pt_beginEvenly_4 ?_
  refine V.eq (st' := [.int (nI (P)), .int (nI (64))]) ?_ rfl rfl rfl (congrArg (fun zq => Value.int (nI zq) :: [.int (nI (64))]) (show (P) = (if decide (P < 1) then 1 else P) from by rw [if_neg (by simp; omega)]))
  refine r_idiv X (v := nI ((64) / (P))) d_Pt_beginEvenly_7 (nI_ne0 (by omega) (by omega)) (pk_div (Nat.le_of_ble_eq_true rfl) (by omega) (by omega)) ?_
  refine r_istore_n X [(3, .int (nI ((64) / (P)))), (0, .ref (ads o (78))), (1, .int (nI (P))), (2, .int (nI (h)))] d_Pt_beginEvenly_8 rfl (Nat.le_of_ble_eq_true rfl) rfl ?_
  refine r_bipush X (v := nI (64)) d_Pt_beginEvenly_9 (by decide) ?_
  refine r_iload_n X 0 d_Pt_beginEvenly_11 rfl rfl ?_
  refine r_iload_n X 2 d_Pt_beginEvenly_12 rfl rfl ?_
  refine r_imul X (v := nI (((64) / (P)) * P)) d_Pt_beginEvenly_13 (pk_mul _ _) ?_
  refine r_isub X (v := nI (64 - (((64) / (P)) * P))) d_Pt_beginEvenly_14 (pk_sub (by omega)) ?_
  refine r_istore X [(4, .int (nI (64 - (((64) / (P)) * P)))), (3, .int (nI ((64) / (P)))), (0, .ref (ads o (78))), (1, .int (nI (P))), (2, .int (nI (h)))] d_Pt_beginEvenly_15 (Nat.le_of_ble_eq_true rfl) rfl ?_
  refine r_lconst X (v := 0) d_Pt_beginEvenly_17 (by decide) ?_
  refine r_lstore X [(5, .long (0)), (4, .int (nI (64 - (((64) / (P)) * P)))), (3, .int (nI ((64) / (P)))), (0, .ref (ads o (78))), (1, .int (nI (P))), (2, .int (nI (h)))] d_Pt_beginEvenly_18 (Nat.le_of_ble_eq_true rfl) rfl ?_
  refine r_iconst X (v := nI (0)) d_Pt_beginEvenly_20 (by decide) ?_
  refine r_istore X [(7, .int (nI (0))), (5, .long (0)), (4, .int (nI (64 - (((64) / (P)) * P)))), (3, .int (nI ((64) / (P)))), (0, .ref (ads o (78))), (1, .int (nI (P))), (2, .int (nI (h)))] d_Pt_beginEvenly_21 (Nat.le_of_ble_eq_true rfl) rfl ?_
  refine r_iconst X (v := nI (0)) d_Pt_beginEvenly_23 (by decide) ?_
  refine r_istore X [(8, .int (nI (0))), (7, .int (nI (0))), (5, .long (0)), (4, .int (nI (64 - (((64) / (P)) * P)))), (3, .int (nI ((64) / (P)))), (0, .ref (ads o (78))), (1, .int (nI (P))), (2, .int (nI (h)))] d_Pt_beginEvenly_24 (Nat.le_of_ble_eq_true rfl) rfl ?_
  have L26_1 : ∀ (d_i i : Nat), i + d_i = P → V γ o 9 mi ml 26 [(0, .ref (ads o (78))), (1, .int (nI (P))), (2, .int (nI (h))), (3, .int (nI ((64) / (P)))), (4, .int (nI (64 - (((64) / (P)) * P)))), (5, .long ((evS P h i).1)), (7, .int (nI ((evS P h i).2))), (8, .int (nI (i)))] [] := by
    intro d_i
    induction d_i with
    | zero =>
      intro i hi_L26_1 
      have he_L26_1 : P = i := by omega
      subst he_L26_1
      refine r_iload X 7 d_Pt_beginEvenly_26 rfl ?_
      refine r_iload_n X 1 d_Pt_beginEvenly_28 rfl rfl ?_
      refine r_icge X (tgt := 71) (c := P ≤ P) d_Pt_beginEvenly_29 (by decide) (nI_leI (by omega) (by omega)) (fun c_29 => ?_) (fun c_29 => ?_)
      · -- taken
        refine r_aload_n X 0 d_Pt_beginEvenly_71 rfl rfl ?_
        refine r_lload X 5 d_Pt_beginEvenly_72 rfl ?_
        refine r_callV X (m_Pt_beginAt l o mi ml 78 ((evS P h P).1) (Or.inr rfl) (he.1) (he.2)) ok_Pt_beginAt w_Pt_37 rfl b_78 e_78 rfl ⟨Nat.le_of_ble_eq_true rfl, Nat.le_of_ble_eq_true rfl⟩ (rest := []) rfl (Nat.le_of_ble_eq_true rfl) d_Pt_beginEvenly_74 ?_
        rintro _ mb2 zb2 ⟨rfl, hPt, hfb, hgb⟩
        show V γ o 9 mb2 zb2 77 [(0, .ref (ads o (78))), (1, .int (nI (P))), (2, .int (nI (h))), (3, .int (nI ((64) / (P)))), (4, .int (nI (64 - (((64) / (P)) * P)))), (5, .long ((evS P h P).1)), (7, .int (nI ((evS P h P).2))), (8, .int (nI (P)))] []
        refine r_end_v X d_Pt_beginEvenly_77 ?_
        exact ⟨rfl, hPt, hfb, hgb⟩
      · -- not taken
        exact False.elim (by omega)
    | succ d_i ih_L26_1 =>
      intro i hi_L26_1 
      have hlt_L26_1 : i < P := by omega
      refine r_iload X 7 d_Pt_beginEvenly_26 rfl ?_
      refine r_iload_n X 1 d_Pt_beginEvenly_28 rfl rfl ?_
      refine r_icge X (tgt := 71) (c := P ≤ i) d_Pt_beginEvenly_29 (by decide) (nI_leI (by omega) (by omega)) (fun c_29_3 => ?_) (fun c_29_3 => ?_)
      · -- taken
        exact False.elim (by omega)
      · -- not taken
        refine r_lload X 5 d_Pt_beginEvenly_32 rfl ?_
        refine r_lconst X (v := 1) d_Pt_beginEvenly_34 (by decide) ?_
        refine r_iload X 6 d_Pt_beginEvenly_35 rfl ?_
        refine r_lshl X (v := shl (1) ((evS P h i).2)) d_Pt_beginEvenly_37 (rfl) ?_
        refine r_lor X (v := ((evS P h i).1) ||| (shl (1) ((evS P h i).2))) d_Pt_beginEvenly_38 (rfl) ?_
        refine r_lstore X [(5, .long (((evS P h i).1) ||| (shl (1) ((evS P h i).2)))), (0, .ref (ads o (78))), (1, .int (nI (P))), (2, .int (nI (h))), (3, .int (nI ((64) / (P)))), (4, .int (nI (64 - (((64) / (P)) * P)))), (7, .int (nI ((evS P h i).2))), (8, .int (nI (i)))] d_Pt_beginEvenly_39 (Nat.le_of_ble_eq_true rfl) rfl ?_
        refine r_iload X 6 d_Pt_beginEvenly_41 rfl ?_
        refine r_iload X 7 d_Pt_beginEvenly_43 rfl ?_
        refine r_iload_n X 2 d_Pt_beginEvenly_45 rfl rfl ?_
        refine r_iload_n X 3 d_Pt_beginEvenly_46 rfl rfl ?_
        refine r_callS X (m_Pt_turnOf l o mi ml i P h hP1 hP8 (by omega) hh) ok_Pt_turnOf w_Pt_33 rfl ⟨Nat.le_of_ble_eq_true rfl, Nat.le_of_ble_eq_true rfl⟩ (rest := [.int (nI ((evS P h i).2))]) rfl (Nat.le_of_ble_eq_true rfl) d_Pt_beginEvenly_47 ?_
        refine kD (st' := [.int (nI (turnO i P h)), .int (nI ((evS P h i).2))]) rfl ?_
        refine r_iload X 5 d_Pt_beginEvenly_50 rfl ?_
        have hJ_4 : V γ o 9 mi ml 62 [(5, .long (((evS P h i).1) ||| (shl (1) ((evS P h i).2)))), (0, .ref (ads o (78))), (1, .int (nI (P))), (2, .int (nI (h))), (3, .int (nI ((64) / (P)))), (4, .int (nI (64 - (((64) / (P)) * P)))), (7, .int (nI ((evS P h i).2))), (8, .int (nI (i)))] [.int (nI (if decide ((64 - (((64) / (P)) * P)) ≤ (turnO i P h)) then (64) / (P) else (64) / (P) + 1)), .int (nI ((evS P h i).2))] := by
          refine r_iadd X (v := nI ((evS P h i).2 + (if decide ((64 - (((64) / (P)) * P)) ≤ (turnO i P h)) then (64) / (P) else (64) / (P) + 1))) d_Pt_beginEvenly_62 (nI_add _ _) ?_
          refine r_istore X [(7, .int (nI ((evS P h i).2 + (if decide ((64 - (((64) / (P)) * P)) ≤ (turnO i P h)) then (64) / (P) else (64) / (P) + 1)))), (5, .long (((evS P h i).1) ||| (shl (1) ((evS P h i).2)))), (0, .ref (ads o (78))), (1, .int (nI (P))), (2, .int (nI (h))), (3, .int (nI ((64) / (P)))), (4, .int (nI (64 - (((64) / (P)) * P)))), (8, .int (nI (i)))] d_Pt_beginEvenly_63 (Nat.le_of_ble_eq_true rfl) rfl ?_
          refine r_iinc X 7 (v := nI (i + 1)) [(8, .int (nI (i + 1))), (7, .int (nI ((evS P h i).2 + (if decide ((64 - (((64) / (P)) * P)) ≤ (turnO i P h)) then (64) / (P) else (64) / (P) + 1)))), (5, .long (((evS P h i).1) ||| (shl (1) ((evS P h i).2)))), (0, .ref (ads o (78))), (1, .int (nI (P))), (2, .int (nI (h))), (3, .int (nI ((64) / (P)))), (4, .int (nI (64 - (((64) / (P)) * P))))] d_Pt_beginEvenly_65 rfl (nI_add _ 1) (Nat.le_of_ble_eq_true rfl) rfl ?_
          refine r_goto X (tgt := 26) d_Pt_beginEvenly_68 (by decide) ?_
          refine V.wk [3, 4, 5, 6, 7, 2, 1, 0] (V.eq (ih_L26_1 (i + 1) (by omega) ) ?_ ?_ ?_ rfl) (rfl : lv_pick _ [3, 4, 5, 6, 7, 2, 1, 0] = [(0, .ref (ads o (78))), (1, .int (nI (P))), (2, .int (nI (h))), (3, .int (nI ((64) / (P)))), (4, .int (nI (64 - (((64) / (P)) * P)))), (5, .long (((evS P h i).1) ||| (shl (1) ((evS P h i).2)))), (7, .int (nI ((evS P h i).2 + (if decide ((64 - (((64) / (P)) * P)) ≤ (turnO i P h)) then (64) / (P) else (64) / (P) + 1)))), (8, .int (nI (i + 1)))])
          · rfl
          · rfl
          · first | rfl | (simp_all [ct, lastB, alB, fromB]; done)
        refine r_icge X (tgt := 61) (c := (64 - (((64) / (P)) * P)) ≤ (turnO i P h)) d_Pt_beginEvenly_52 (by decide) (nI_leI (by omega) (turnO_lt (by omega) (by omega))) (fun c_52 => ?_) (fun c_52 => ?_)
        · -- taken
          refine r_iload_n X 4 d_Pt_beginEvenly_61 rfl rfl ?_
          exact V.eq hJ_4 rfl rfl rfl (by rw [show (nI (if decide ((64 - (((64) / (P)) * P)) ≤ (turnO i P h)) then (64) / (P) else (64) / (P) + 1)) = (nI ((64) / (P))) from by first | (simp only [eq_true c_52, decide_true, decide_false, Bool.not_true, Bool.not_false, Bool.true_and, Bool.false_and, Bool.and_true, Bool.and_false, Bool.true_or, Bool.false_or, Bool.or_true, Bool.or_false, if_true, if_false, ite_true, ite_false, cond_true, cond_false, Bool.false_eq_true, reduceIte]; done) | (simp [c_52]; done) | (simp_all; done)])
        · -- not taken
          refine r_iload_n X 4 d_Pt_beginEvenly_55 rfl rfl ?_
          refine r_iconst X (v := nI (1)) d_Pt_beginEvenly_56 (by decide) ?_
          refine r_iadd X (v := nI ((64) / (P) + 1)) d_Pt_beginEvenly_57 (nI_add _ _) ?_
          refine r_goto X (tgt := 62) d_Pt_beginEvenly_58 (by decide) ?_
          exact V.eq hJ_4 rfl rfl rfl (by rw [show (nI (if decide ((64 - (((64) / (P)) * P)) ≤ (turnO i P h)) then (64) / (P) else (64) / (P) + 1)) = (nI ((64) / (P) + 1)) from by first | (simp only [eq_false c_52, decide_true, decide_false, Bool.not_true, Bool.not_false, Bool.true_and, Bool.false_and, Bool.and_true, Bool.and_false, Bool.true_or, Bool.false_or, Bool.or_true, Bool.or_false, if_true, if_false, ite_true, ite_false, cond_true, cond_false, Bool.false_eq_true, reduceIte]; done) | (simp [c_52]; done) | (simp_all; done)])
  refine V.wk [5, 6, 7, 4, 3, 2, 1, 0] (V.eq (L26_1 (P - 0) 0 (by omega) ) ?_ ?_ ?_ rfl) (rfl : lv_pick _ [5, 6, 7, 4, 3, 2, 1, 0] = [(0, .ref (ads o (78))), (1, .int (nI (P))), (2, .int (nI (h))), (3, .int (nI ((64) / (P)))), (4, .int (nI (64 - (((64) / (P)) * P)))), (5, .long (0)), (7, .int (nI (0))), (8, .int (nI (0)))])
  · rfl
  · rfl
  · rfl
