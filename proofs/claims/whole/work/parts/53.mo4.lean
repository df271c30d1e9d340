set_option maxHeartbeats 4000000 in
set_option maxRecDepth 100000 in
theorem m_Mo_asked (l : Launch) (o : OM) (mi : MI) (ml : ML) (n : Nat) (s : Nat) (hn : ml 96 2 = lN n) (hn40 : n ≤ 40) (hs : mi 95 10 = nI s) (hs6 : s ≤ 6) : Con l y_Mo_asked c_Mo_asked 7 (some .int) 3 70 o [.ref (ads o (95))] mi ml (fun v a b => v = some (.int ((askS (fun z => mst (fun q => ds (oM ml q) (oM ml z)) (fun k => cb (oM ml k) (ml 104) (mi 105) s) n) (ctD (fun k => cb (oM ml k) (ml 104) (mi 105) s) n n) (n)).2)) ∧ (∀ q, q ≠ 110 → a q = mi q) ∧ b = ml) := by
  refine Con.mk (by decide) (Nat.le_of_ble_eq_true rfl) (fun γ X => ?_)
  show V γ o 7 mi ml 0 [(0, .ref (ads o (95)))] []
  refine r_aload_n X 0 d_Mo_asked_0 rfl rfl ?_
  refine r_iconst X (v := nI (0)) d_Mo_asked_1 (by decide) ?_
  refine r_callV X (m_Mo_could l o mi ml false n s (hn) hn40 (hs) hs6) ok_Mo_could w_Mo_107 rfl b_95 e_95 rfl ⟨Nat.le_of_ble_eq_true rfl, Nat.le_of_ble_eq_true rfl⟩ (rest := []) rfl (Nat.le_of_ble_eq_true rfl) d_Mo_asked_2 ?_
  refine kD (st' := [.int ((if false then lastD (fun k => cb (oM ml k) (ml 104) (mi 105) s) n n else nI (ctD (fun k => cb (oM ml k) (ml 104) (mi 105) s) n n)))]) rfl ?_
  refine V.eq (st' := [.int (nI (ctD (fun k => cb (oM ml k) (ml 104) (mi 105) s) n n))]) ?_ rfl rfl rfl rfl
  refine r_istore_n X [(1, .int (nI (ctD (fun k => cb (oM ml k) (ml 104) (mi 105) s) n n))), (0, .ref (ads o (95)))] d_Mo_asked_5 rfl (Nat.le_of_ble_eq_true rfl) rfl ?_
  refine r_iconst X (v := ((-1 : Int32))) d_Mo_asked_6 (by decide) ?_
  refine r_istore_n X [(2, .int (((-1 : Int32)))), (1, .int (nI (ctD (fun k => cb (oM ml k) (ml 104) (mi 105) s) n n))), (0, .ref (ads o (95)))] d_Mo_asked_7 rfl (Nat.le_of_ble_eq_true rfl) rfl ?_
  refine r_iconst X (v := nI (0)) d_Mo_asked_8 (by decide) ?_
  refine r_istore_n X [(3, .int (nI (0))), (2, .int (((-1 : Int32)))), (1, .int (nI (ctD (fun k => cb (oM ml k) (ml 104) (mi 105) s) n n))), (0, .ref (ads o (95)))] d_Mo_asked_9 rfl (Nat.le_of_ble_eq_true rfl) rfl ?_
  have L10_1 : ∀ (d_i i : Nat), i + d_i = n → ∀ (mi_L10_1 : MI), (∀ q, q ≠ 110 → mi_L10_1 q = mi q) → V γ o 7 mi_L10_1 ml 10 [(0, .ref (ads o (95))), (1, .int (nI ((askS (fun z => mst (fun q => ds (oM ml q) (oM ml z)) (fun k => cb (oM ml k) (ml 104) (mi 105) s) n) (ctD (fun k => cb (oM ml k) (ml 104) (mi 105) s) n n) (i)).1))), (2, .int (((askS (fun z => mst (fun q => ds (oM ml q) (oM ml z)) (fun k => cb (oM ml k) (ml 104) (mi 105) s) n) (ctD (fun k => cb (oM ml k) (ml 104) (mi 105) s) n n) (i)).2))), (3, .int (nI (i)))] [] := by
    intro d_i
    induction d_i with
    | zero =>
      intro i hi_L10_1 mi_L10_1 hf
      have he_L10_1 : n = i := by omega
      subst he_L10_1
      refine r_iload_n X 3 d_Mo_asked_10 rfl rfl ?_
      refine r_aload_n X 0 d_Mo_asked_11 rfl rfl ?_
      refine r_callV X (m_Mo_marks l o mi_L10_1 ml n (hn) (by omega)) ok_Mo_marks w_Mo_59 rfl b_95 e_95 rfl ⟨Nat.le_of_ble_eq_true rfl, Nat.le_of_ble_eq_true rfl⟩ (rest := [.int (nI (n))]) rfl (Nat.le_of_ble_eq_true rfl) d_Mo_asked_12 ?_
      refine kD (st' := [.int (nI (n)), .int (nI (n))]) rfl ?_
      refine r_icge X (tgt := 157) (c := n ≤ n) d_Mo_asked_15 (by decide) (nI_leI (by omega) (by omega)) (fun c_15 => ?_) (fun c_15 => ?_)
      · -- taken
        refine r_iload_n X 2 d_Mo_asked_157 rfl rfl ?_
        refine r_end_i X d_Mo_asked_158 ?_
        exact ⟨rfl, hf, rfl⟩
      · -- not taken
        exact False.elim (by omega)
    | succ d_i ih_L10_1 =>
      intro i hi_L10_1 mi_L10_1 hf
      have hlt_L10_1 : i < n := by omega
      have hA := askS_le (fun z => mst (fun q => ds (oM ml q) (oM ml z)) (fun k => cb (oM ml k) (ml 104) (mi 105) s) n) (ctD (fun k => cb (oM ml k) (ml 104) (mi 105) s) n n) i
      have hA2 := ctD_le (fun k => cb (oM ml k) (ml 104) (mi 105) s) n n
      refine r_iload_n X 3 d_Mo_asked_10 rfl rfl ?_
      refine r_aload_n X 0 d_Mo_asked_11 rfl rfl ?_
      refine r_callV X (m_Mo_marks l o mi_L10_1 ml n (hn) (by omega)) ok_Mo_marks w_Mo_59 rfl b_95 e_95 rfl ⟨Nat.le_of_ble_eq_true rfl, Nat.le_of_ble_eq_true rfl⟩ (rest := [.int (nI (i))]) rfl (Nat.le_of_ble_eq_true rfl) d_Mo_asked_12 ?_
      refine kD (st' := [.int (nI (n)), .int (nI (i))]) rfl ?_
      refine r_icge X (tgt := 157) (c := n ≤ i) d_Mo_asked_15 (by decide) (nI_leI (by omega) (by omega)) (fun c_15_2 => ?_) (fun c_15_2 => ?_)
      · -- taken
        exact False.elim (by omega)
      · -- not taken
        refine r_iconst X (v := nI (0)) d_Mo_asked_18 (by decide) ?_
        refine r_istore X [(4, .int (nI (0))), (0, .ref (ads o (95))), (1, .int (nI ((askS (fun z => mst (fun q => ds (oM ml q) (oM ml z)) (fun k => cb (oM ml k) (ml 104) (mi 105) s) n) (ctD (fun k => cb (oM ml k) (ml 104) (mi 105) s) n n) (i)).1))), (2, .int (((askS (fun z => mst (fun q => ds (oM ml q) (oM ml z)) (fun k => cb (oM ml k) (ml 104) (mi 105) s) n) (ctD (fun k => cb (oM ml k) (ml 104) (mi 105) s) n n) (i)).2))), (3, .int (nI (i)))] d_Mo_asked_19 (Nat.le_of_ble_eq_true rfl) rfl ?_
        have L21_3 : ∀ (d_t t : Nat), t + d_t = 65 → ∀ (mi_L21_3 : MI), (∀ q, q ≠ 110 → mi_L21_3 q = mi q) → (∀ q, q < t → mi_L21_3 110 q = nI 0) → V γ o 7 mi_L21_3 ml 21 [(0, .ref (ads o (95))), (1, .int (nI ((askS (fun z => mst (fun q => ds (oM ml q) (oM ml z)) (fun k => cb (oM ml k) (ml 104) (mi 105) s) n) (ctD (fun k => cb (oM ml k) (ml 104) (mi 105) s) n n) (i)).1))), (2, .int (((askS (fun z => mst (fun q => ds (oM ml q) (oM ml z)) (fun k => cb (oM ml k) (ml 104) (mi 105) s) n) (ctD (fun k => cb (oM ml k) (ml 104) (mi 105) s) n n) (i)).2))), (3, .int (nI (i))), (4, .int (nI (t)))] [] := by
          intro d_t
          induction d_t with
          | zero =>
            intro t hi_L21_3 mi_L21_3 hf1 hz1
            have he_L21_3 : 65 = t := by omega
            subst he_L21_3
            refine r_iload X 4 d_Mo_asked_21 rfl ?_
            refine r_bipush X (v := nI (64)) d_Mo_asked_23 (by decide) ?_
            refine r_icgt X (tgt := 42) (c := 64 < 65) d_Mo_asked_25 (by decide) (nI_ltI (Nat.le_of_ble_eq_true rfl) (by omega)) (fun c_25 => ?_) (fun c_25 => ?_)
            · -- taken
              refine r_iconst X (v := nI (0)) d_Mo_asked_42 (by decide) ?_
              refine r_istore X [(4, .int (nI (0))), (0, .ref (ads o (95))), (1, .int (nI ((askS (fun z => mst (fun q => ds (oM ml q) (oM ml z)) (fun k => cb (oM ml k) (ml 104) (mi 105) s) n) (ctD (fun k => cb (oM ml k) (ml 104) (mi 105) s) n n) (i)).1))), (2, .int (((askS (fun z => mst (fun q => ds (oM ml q) (oM ml z)) (fun k => cb (oM ml k) (ml 104) (mi 105) s) n) (ctD (fun k => cb (oM ml k) (ml 104) (mi 105) s) n n) (i)).2))), (3, .int (nI (i)))] d_Mo_asked_43 (Nat.le_of_ble_eq_true rfl) rfl ?_
              refine r_iconst X (v := nI (0)) d_Mo_asked_45 (by decide) ?_
              refine r_istore X [(5, .int (nI (0))), (4, .int (nI (0))), (0, .ref (ads o (95))), (1, .int (nI ((askS (fun z => mst (fun q => ds (oM ml q) (oM ml z)) (fun k => cb (oM ml k) (ml 104) (mi 105) s) n) (ctD (fun k => cb (oM ml k) (ml 104) (mi 105) s) n n) (i)).1))), (2, .int (((askS (fun z => mst (fun q => ds (oM ml q) (oM ml z)) (fun k => cb (oM ml k) (ml 104) (mi 105) s) n) (ctD (fun k => cb (oM ml k) (ml 104) (mi 105) s) n n) (i)).2))), (3, .int (nI (i)))] d_Mo_asked_46 (Nat.le_of_ble_eq_true rfl) rfl ?_
              have L48_4 : ∀ (d_j j : Nat), j + d_j = n → ∀ (mi_L48_4 : MI), (∀ q, q ≠ 110 → mi_L48_4 q = mi q) → (∀ t, t < 65 → mi_L48_4 110 t = nI (cn (fun q => ds (oM ml q) (oM ml i)) (fun k => cb (oM ml k) (ml 104) (mi 105) s) t (j))) → V γ o 7 mi_L48_4 ml 48 [(0, .ref (ads o (95))), (1, .int (nI ((askS (fun z => mst (fun q => ds (oM ml q) (oM ml z)) (fun k => cb (oM ml k) (ml 104) (mi 105) s) n) (ctD (fun k => cb (oM ml k) (ml 104) (mi 105) s) n n) (i)).1))), (2, .int (((askS (fun z => mst (fun q => ds (oM ml q) (oM ml z)) (fun k => cb (oM ml k) (ml 104) (mi 105) s) n) (ctD (fun k => cb (oM ml k) (ml 104) (mi 105) s) n n) (i)).2))), (3, .int (nI (i))), (4, .int (nI (mst (fun q => ds (oM ml q) (oM ml i)) (fun k => cb (oM ml k) (ml 104) (mi 105) s) (j)))), (5, .int (nI (j)))] [] := by
                intro d_j
                induction d_j with
                | zero =>
                  intro j hi_L48_4 mi_L48_4 hf2 hc2
                  have he_L48_4 : n = j := by omega
                  subst he_L48_4
                  have hm := mst_le (fun q => ds (oM ml q) (oM ml i)) (fun k => cb (oM ml k) (ml 104) (mi 105) s) n
                  refine r_iload X 5 d_Mo_asked_48 rfl ?_
                  refine r_aload_n X 0 d_Mo_asked_50 rfl rfl ?_
                  refine r_callV X (m_Mo_marks l o mi_L48_4 ml n (hn) (by omega)) ok_Mo_marks w_Mo_59 rfl b_95 e_95 rfl ⟨Nat.le_of_ble_eq_true rfl, Nat.le_of_ble_eq_true rfl⟩ (rest := [.int (nI (n))]) rfl (Nat.le_of_ble_eq_true rfl) d_Mo_asked_51 ?_
                  refine kD (st' := [.int (nI (n)), .int (nI (n))]) rfl ?_
                  refine r_icge X (tgt := 126) (c := n ≤ n) d_Mo_asked_54 (by decide) (nI_leI (by omega) (by omega)) (fun c_54 => ?_) (fun c_54 => ?_)
                  · -- taken
                    refine r_iload X 4 d_Mo_asked_126 rfl ?_
                    refine r_iload_n X 1 d_Mo_asked_128 rfl rfl ?_
                    have hJ_5 : V γ o 7 mi_L48_4 ml 137 [(0, .ref (ads o (95))), (1, .int (nI ((askS (fun z => mst (fun q => ds (oM ml q) (oM ml z)) (fun k => cb (oM ml k) (ml 104) (mi 105) s) n) (ctD (fun k => cb (oM ml k) (ml 104) (mi 105) s) n n) (i)).1))), (2, .int (((askS (fun z => mst (fun q => ds (oM ml q) (oM ml z)) (fun k => cb (oM ml k) (ml 104) (mi 105) s) n) (ctD (fun k => cb (oM ml k) (ml 104) (mi 105) s) n n) (i)).2))), (3, .int (nI (i))), (4, .int (nI (mst (fun q => ds (oM ml q) (oM ml i)) (fun k => cb (oM ml k) (ml 104) (mi 105) s) (n)))), (5, .int (nI (n)))] [.int ((if decide (((askS (fun z => mst (fun q => ds (oM ml q) (oM ml z)) (fun k => cb (oM ml k) (ml 104) (mi 105) s) n) (ctD (fun k => cb (oM ml k) (ml 104) (mi 105) s) n n) (i)).1) ≤ (mst (fun q => ds (oM ml q) (oM ml i)) (fun k => cb (oM ml k) (ml 104) (mi 105) s) (n))) then ((askS (fun z => mst (fun q => ds (oM ml q) (oM ml z)) (fun k => cb (oM ml k) (ml 104) (mi 105) s) n) (ctD (fun k => cb (oM ml k) (ml 104) (mi 105) s) n n) (i)).2) else nI (i)))] := by
                      refine r_istore_n X [(2, .int ((if decide (((askS (fun z => mst (fun q => ds (oM ml q) (oM ml z)) (fun k => cb (oM ml k) (ml 104) (mi 105) s) n) (ctD (fun k => cb (oM ml k) (ml 104) (mi 105) s) n n) (i)).1) ≤ (mst (fun q => ds (oM ml q) (oM ml i)) (fun k => cb (oM ml k) (ml 104) (mi 105) s) (n))) then ((askS (fun z => mst (fun q => ds (oM ml q) (oM ml z)) (fun k => cb (oM ml k) (ml 104) (mi 105) s) n) (ctD (fun k => cb (oM ml k) (ml 104) (mi 105) s) n n) (i)).2) else nI (i)))), (0, .ref (ads o (95))), (1, .int (nI ((askS (fun z => mst (fun q => ds (oM ml q) (oM ml z)) (fun k => cb (oM ml k) (ml 104) (mi 105) s) n) (ctD (fun k => cb (oM ml k) (ml 104) (mi 105) s) n n) (i)).1))), (3, .int (nI (i))), (4, .int (nI (mst (fun q => ds (oM ml q) (oM ml i)) (fun k => cb (oM ml k) (ml 104) (mi 105) s) (n)))), (5, .int (nI (n)))] d_Mo_asked_137 rfl (Nat.le_of_ble_eq_true rfl) rfl ?_
                      refine r_iload X 4 d_Mo_asked_138 rfl ?_
                      refine r_iload_n X 2 d_Mo_asked_140 rfl rfl ?_
                      have hJ_6 : V γ o 7 mi_L48_4 ml 150 [(2, .int ((if decide (((askS (fun z => mst (fun q => ds (oM ml q) (oM ml z)) (fun k => cb (oM ml k) (ml 104) (mi 105) s) n) (ctD (fun k => cb (oM ml k) (ml 104) (mi 105) s) n n) (i)).1) ≤ (mst (fun q => ds (oM ml q) (oM ml i)) (fun k => cb (oM ml k) (ml 104) (mi 105) s) (n))) then ((askS (fun z => mst (fun q => ds (oM ml q) (oM ml z)) (fun k => cb (oM ml k) (ml 104) (mi 105) s) n) (ctD (fun k => cb (oM ml k) (ml 104) (mi 105) s) n n) (i)).2) else nI (i)))), (0, .ref (ads o (95))), (1, .int (nI ((askS (fun z => mst (fun q => ds (oM ml q) (oM ml z)) (fun k => cb (oM ml k) (ml 104) (mi 105) s) n) (ctD (fun k => cb (oM ml k) (ml 104) (mi 105) s) n n) (i)).1))), (3, .int (nI (i))), (4, .int (nI (mst (fun q => ds (oM ml q) (oM ml i)) (fun k => cb (oM ml k) (ml 104) (mi 105) s) (n)))), (5, .int (nI (n)))] [.int (nI (if decide (((askS (fun z => mst (fun q => ds (oM ml q) (oM ml z)) (fun k => cb (oM ml k) (ml 104) (mi 105) s) n) (ctD (fun k => cb (oM ml k) (ml 104) (mi 105) s) n n) (i)).1) ≤ (mst (fun q => ds (oM ml q) (oM ml i)) (fun k => cb (oM ml k) (ml 104) (mi 105) s) (n))) then (askS (fun z => mst (fun q => ds (oM ml q) (oM ml z)) (fun k => cb (oM ml k) (ml 104) (mi 105) s) n) (ctD (fun k => cb (oM ml k) (ml 104) (mi 105) s) n n) (i)).1 else mst (fun q => ds (oM ml q) (oM ml i)) (fun k => cb (oM ml k) (ml 104) (mi 105) s) (n)))] := by
                        refine r_istore_n X [(1, .int (nI (if decide (((askS (fun z => mst (fun q => ds (oM ml q) (oM ml z)) (fun k => cb (oM ml k) (ml 104) (mi 105) s) n) (ctD (fun k => cb (oM ml k) (ml 104) (mi 105) s) n n) (i)).1) ≤ (mst (fun q => ds (oM ml q) (oM ml i)) (fun k => cb (oM ml k) (ml 104) (mi 105) s) (n))) then (askS (fun z => mst (fun q => ds (oM ml q) (oM ml z)) (fun k => cb (oM ml k) (ml 104) (mi 105) s) n) (ctD (fun k => cb (oM ml k) (ml 104) (mi 105) s) n n) (i)).1 else mst (fun q => ds (oM ml q) (oM ml i)) (fun k => cb (oM ml k) (ml 104) (mi 105) s) (n)))), (2, .int ((if decide (((askS (fun z => mst (fun q => ds (oM ml q) (oM ml z)) (fun k => cb (oM ml k) (ml 104) (mi 105) s) n) (ctD (fun k => cb (oM ml k) (ml 104) (mi 105) s) n n) (i)).1) ≤ (mst (fun q => ds (oM ml q) (oM ml i)) (fun k => cb (oM ml k) (ml 104) (mi 105) s) (n))) then ((askS (fun z => mst (fun q => ds (oM ml q) (oM ml z)) (fun k => cb (oM ml k) (ml 104) (mi 105) s) n) (ctD (fun k => cb (oM ml k) (ml 104) (mi 105) s) n n) (i)).2) else nI (i)))), (0, .ref (ads o (95))), (3, .int (nI (i))), (4, .int (nI (mst (fun q => ds (oM ml q) (oM ml i)) (fun k => cb (oM ml k) (ml 104) (mi 105) s) (n)))), (5, .int (nI (n)))] d_Mo_asked_150 rfl (Nat.le_of_ble_eq_true rfl) rfl ?_
                        refine r_iinc X 3 (v := nI (i + 1)) [(3, .int (nI (i + 1))), (1, .int (nI (if decide (((askS (fun z => mst (fun q => ds (oM ml q) (oM ml z)) (fun k => cb (oM ml k) (ml 104) (mi 105) s) n) (ctD (fun k => cb (oM ml k) (ml 104) (mi 105) s) n n) (i)).1) ≤ (mst (fun q => ds (oM ml q) (oM ml i)) (fun k => cb (oM ml k) (ml 104) (mi 105) s) (n))) then (askS (fun z => mst (fun q => ds (oM ml q) (oM ml z)) (fun k => cb (oM ml k) (ml 104) (mi 105) s) n) (ctD (fun k => cb (oM ml k) (ml 104) (mi 105) s) n n) (i)).1 else mst (fun q => ds (oM ml q) (oM ml i)) (fun k => cb (oM ml k) (ml 104) (mi 105) s) (n)))), (2, .int ((if decide (((askS (fun z => mst (fun q => ds (oM ml q) (oM ml z)) (fun k => cb (oM ml k) (ml 104) (mi 105) s) n) (ctD (fun k => cb (oM ml k) (ml 104) (mi 105) s) n n) (i)).1) ≤ (mst (fun q => ds (oM ml q) (oM ml i)) (fun k => cb (oM ml k) (ml 104) (mi 105) s) (n))) then ((askS (fun z => mst (fun q => ds (oM ml q) (oM ml z)) (fun k => cb (oM ml k) (ml 104) (mi 105) s) n) (ctD (fun k => cb (oM ml k) (ml 104) (mi 105) s) n n) (i)).2) else nI (i)))), (0, .ref (ads o (95))), (4, .int (nI (mst (fun q => ds (oM ml q) (oM ml i)) (fun k => cb (oM ml k) (ml 104) (mi 105) s) (n)))), (5, .int (nI (n)))] d_Mo_asked_151 rfl (nI_add _ 1) (Nat.le_of_ble_eq_true rfl) rfl ?_
                        refine r_goto X (tgt := 10) d_Mo_asked_154 (by decide) ?_
                        refine V.wk [3, 1, 2, 0] (V.eq (ih_L10_1 (i + 1) (by omega) (mi_L48_4) (fun q hq => by first | exact hf2 q hq)) ?_ ?_ ?_ rfl) (rfl : lv_pick _ [3, 1, 2, 0] = [(0, .ref (ads o (95))), (1, .int (nI (if decide (((askS (fun z => mst (fun q => ds (oM ml q) (oM ml z)) (fun k => cb (oM ml k) (ml 104) (mi 105) s) n) (ctD (fun k => cb (oM ml k) (ml 104) (mi 105) s) n n) (i)).1) ≤ (mst (fun q => ds (oM ml q) (oM ml i)) (fun k => cb (oM ml k) (ml 104) (mi 105) s) (n))) then (askS (fun z => mst (fun q => ds (oM ml q) (oM ml z)) (fun k => cb (oM ml k) (ml 104) (mi 105) s) n) (ctD (fun k => cb (oM ml k) (ml 104) (mi 105) s) n n) (i)).1 else mst (fun q => ds (oM ml q) (oM ml i)) (fun k => cb (oM ml k) (ml 104) (mi 105) s) (n)))), (2, .int ((if decide (((askS (fun z => mst (fun q => ds (oM ml q) (oM ml z)) (fun k => cb (oM ml k) (ml 104) (mi 105) s) n) (ctD (fun k => cb (oM ml k) (ml 104) (mi 105) s) n n) (i)).1) ≤ (mst (fun q => ds (oM ml q) (oM ml i)) (fun k => cb (oM ml k) (ml 104) (mi 105) s) (n))) then ((askS (fun z => mst (fun q => ds (oM ml q) (oM ml z)) (fun k => cb (oM ml k) (ml 104) (mi 105) s) n) (ctD (fun k => cb (oM ml k) (ml 104) (mi 105) s) n n) (i)).2) else nI (i)))), (3, .int (nI (i + 1)))])
                        · rfl
                        · rfl
                        · rfl
                      refine r_icge X (tgt := 149) (c := ((askS (fun z => mst (fun q => ds (oM ml q) (oM ml z)) (fun k => cb (oM ml k) (ml 104) (mi 105) s) n) (ctD (fun k => cb (oM ml k) (ml 104) (mi 105) s) n n) (i)).1) ≤ (mst (fun q => ds (oM ml q) (oM ml i)) (fun k => cb (oM ml k) (ml 104) (mi 105) s) (n))) d_Mo_asked_141 (by decide) (nI_leI (by omega) (by omega)) (fun c_141 => ?_) (fun c_141 => ?_)
                      · -- taken
                        refine r_iload_n X 2 d_Mo_asked_149 rfl rfl ?_
                        exact V.eq hJ_6 rfl rfl rfl (by rw [show (nI (if decide (((askS (fun z => mst (fun q => ds (oM ml q) (oM ml z)) (fun k => cb (oM ml k) (ml 104) (mi 105) s) n) (ctD (fun k => cb (oM ml k) (ml 104) (mi 105) s) n n) (i)).1) ≤ (mst (fun q => ds (oM ml q) (oM ml i)) (fun k => cb (oM ml k) (ml 104) (mi 105) s) (n))) then (askS (fun z => mst (fun q => ds (oM ml q) (oM ml z)) (fun k => cb (oM ml k) (ml 104) (mi 105) s) n) (ctD (fun k => cb (oM ml k) (ml 104) (mi 105) s) n n) (i)).1 else mst (fun q => ds (oM ml q) (oM ml i)) (fun k => cb (oM ml k) (ml 104) (mi 105) s) (n))) = (nI ((askS (fun z => mst (fun q => ds (oM ml q) (oM ml z)) (fun k => cb (oM ml k) (ml 104) (mi 105) s) n) (ctD (fun k => cb (oM ml k) (ml 104) (mi 105) s) n n) (i)).1)) from by first | (simp only [eq_true c_141, decide_true, decide_false, Bool.not_true, Bool.not_false, Bool.true_and, Bool.false_and, Bool.and_true, Bool.and_false, Bool.true_or, Bool.false_or, Bool.or_true, Bool.or_false, if_true, if_false, ite_true, ite_false, cond_true, cond_false, Bool.false_eq_true, reduceIte]; done) | (simp [c_141]; done) | (simp_all; done)])
                      · -- not taken
                        refine r_iload X 4 d_Mo_asked_144 rfl ?_
                        refine r_goto X (tgt := 150) d_Mo_asked_146 (by decide) ?_
                        exact V.eq hJ_6 rfl rfl rfl (by rw [show (nI (if decide (((askS (fun z => mst (fun q => ds (oM ml q) (oM ml z)) (fun k => cb (oM ml k) (ml 104) (mi 105) s) n) (ctD (fun k => cb (oM ml k) (ml 104) (mi 105) s) n n) (i)).1) ≤ (mst (fun q => ds (oM ml q) (oM ml i)) (fun k => cb (oM ml k) (ml 104) (mi 105) s) (n))) then (askS (fun z => mst (fun q => ds (oM ml q) (oM ml z)) (fun k => cb (oM ml k) (ml 104) (mi 105) s) n) (ctD (fun k => cb (oM ml k) (ml 104) (mi 105) s) n n) (i)).1 else mst (fun q => ds (oM ml q) (oM ml i)) (fun k => cb (oM ml k) (ml 104) (mi 105) s) (n))) = (nI (mst (fun q => ds (oM ml q) (oM ml i)) (fun k => cb (oM ml k) (ml 104) (mi 105) s) (n))) from by first | (simp only [eq_false c_141, decide_true, decide_false, Bool.not_true, Bool.not_false, Bool.true_and, Bool.false_and, Bool.and_true, Bool.and_false, Bool.true_or, Bool.false_or, Bool.or_true, Bool.or_false, if_true, if_false, ite_true, ite_false, cond_true, cond_false, Bool.false_eq_true, reduceIte]; done) | (simp [c_141]; done) | (simp_all; done)])
                    refine r_icge X (tgt := 136) (c := ((askS (fun z => mst (fun q => ds (oM ml q) (oM ml z)) (fun k => cb (oM ml k) (ml 104) (mi 105) s) n) (ctD (fun k => cb (oM ml k) (ml 104) (mi 105) s) n n) (i)).1) ≤ (mst (fun q => ds (oM ml q) (oM ml i)) (fun k => cb (oM ml k) (ml 104) (mi 105) s) (n))) d_Mo_asked_129 (by decide) (nI_leI (by omega) (by omega)) (fun c_129 => ?_) (fun c_129 => ?_)
                    · -- taken
                      refine r_iload_n X 2 d_Mo_asked_136 rfl rfl ?_
                      exact V.eq hJ_5 rfl rfl rfl (by rw [show ((if decide (((askS (fun z => mst (fun q => ds (oM ml q) (oM ml z)) (fun k => cb (oM ml k) (ml 104) (mi 105) s) n) (ctD (fun k => cb (oM ml k) (ml 104) (mi 105) s) n n) (i)).1) ≤ (mst (fun q => ds (oM ml q) (oM ml i)) (fun k => cb (oM ml k) (ml 104) (mi 105) s) (n))) then ((askS (fun z => mst (fun q => ds (oM ml q) (oM ml z)) (fun k => cb (oM ml k) (ml 104) (mi 105) s) n) (ctD (fun k => cb (oM ml k) (ml 104) (mi 105) s) n n) (i)).2) else nI (i))) = (((askS (fun z => mst (fun q => ds (oM ml q) (oM ml z)) (fun k => cb (oM ml k) (ml 104) (mi 105) s) n) (ctD (fun k => cb (oM ml k) (ml 104) (mi 105) s) n n) (i)).2)) from by first | (simp only [eq_true c_129, decide_true, decide_false, Bool.not_true, Bool.not_false, Bool.true_and, Bool.false_and, Bool.and_true, Bool.and_false, Bool.true_or, Bool.false_or, Bool.or_true, Bool.or_false, if_true, if_false, ite_true, ite_false, cond_true, cond_false, Bool.false_eq_true, reduceIte]; done) | (simp [c_129]; done) | (simp_all; done)])
                    · -- not taken
                      refine r_iload_n X 3 d_Mo_asked_132 rfl rfl ?_
                      refine r_goto X (tgt := 137) d_Mo_asked_133 (by decide) ?_
                      exact V.eq hJ_5 rfl rfl rfl (by rw [show ((if decide (((askS (fun z => mst (fun q => ds (oM ml q) (oM ml z)) (fun k => cb (oM ml k) (ml 104) (mi 105) s) n) (ctD (fun k => cb (oM ml k) (ml 104) (mi 105) s) n n) (i)).1) ≤ (mst (fun q => ds (oM ml q) (oM ml i)) (fun k => cb (oM ml k) (ml 104) (mi 105) s) (n))) then ((askS (fun z => mst (fun q => ds (oM ml q) (oM ml z)) (fun k => cb (oM ml k) (ml 104) (mi 105) s) n) (ctD (fun k => cb (oM ml k) (ml 104) (mi 105) s) n n) (i)).2) else nI (i))) = (nI (i)) from by first | (simp only [eq_false c_129, decide_true, decide_false, Bool.not_true, Bool.not_false, Bool.true_and, Bool.false_and, Bool.and_true, Bool.and_false, Bool.true_or, Bool.false_or, Bool.or_true, Bool.or_false, if_true, if_false, ite_true, ite_false, cond_true, cond_false, Bool.false_eq_true, reduceIte]; done) | (simp [c_129]; done) | (simp_all; done)])
                  · -- not taken
                    exact False.elim (by omega)
                | succ d_j ih_L48_4 =>
                  intro j hi_L48_4 mi_L48_4 hf2 hc2
                  have hlt_L48_4 : j < n := by omega
                  have hm := mst_le (fun q => ds (oM ml q) (oM ml i)) (fun k => cb (oM ml k) (ml 104) (mi 105) s) j
                  have hcn := cn_le (fun q => ds (oM ml q) (oM ml i)) (fun k => cb (oM ml k) (ml 104) (mi 105) s) (pop ((oM ml j) ^^^ (oM ml i))) j
                  refine r_iload X 5 d_Mo_asked_48 rfl ?_
                  refine r_aload_n X 0 d_Mo_asked_50 rfl rfl ?_
                  refine r_callV X (m_Mo_marks l o mi_L48_4 ml n (hn) (by omega)) ok_Mo_marks w_Mo_59 rfl b_95 e_95 rfl ⟨Nat.le_of_ble_eq_true rfl, Nat.le_of_ble_eq_true rfl⟩ (rest := [.int (nI (j))]) rfl (Nat.le_of_ble_eq_true rfl) d_Mo_asked_51 ?_
                  refine kD (st' := [.int (nI (n)), .int (nI (j))]) rfl ?_
                  refine r_icge X (tgt := 126) (c := n ≤ j) d_Mo_asked_54 (by decide) (nI_leI (by omega) (by omega)) (fun c_54_7 => ?_) (fun c_54_7 => ?_)
                  · -- taken
                    exact False.elim (by omega)
                  · -- not taken
                    refine r_aload_n X 0 d_Mo_asked_57 rfl rfl ?_
                    refine r_iload X 5 d_Mo_asked_58 rfl ?_
                    refine r_callV X (m_Mo_couldBe l o mi_L48_4 ml j s ((by rw [hf2 95 (by decide)]; exact hs)) (by omega) (by omega)) ok_Mo_couldBe w_Mo_104 rfl b_95 e_95 rfl ⟨Nat.le_of_ble_eq_true rfl, Nat.le_of_ble_eq_true rfl⟩ (rest := []) rfl (Nat.le_of_ble_eq_true rfl) d_Mo_asked_60 ?_
                    refine kD (st' := [.int (bI (cb (oM ml j) (ml 104) (mi_L48_4 105) s))]) rfl ?_
                    rw [hf2 105 (by decide)]
                    refine r_ifeqB X (tgt := 120) (b := cb (oM ml j) (ml 104) (mi 105) s) d_Mo_asked_63 (by decide) (fun c_63 => ?_) (fun c_63 => ?_)
                    · -- taken
                      refine r_iinc X 5 (v := nI (j + 1)) [(5, .int (nI (j + 1))), (0, .ref (ads o (95))), (1, .int (nI ((askS (fun z => mst (fun q => ds (oM ml q) (oM ml z)) (fun k => cb (oM ml k) (ml 104) (mi 105) s) n) (ctD (fun k => cb (oM ml k) (ml 104) (mi 105) s) n n) (i)).1))), (2, .int (((askS (fun z => mst (fun q => ds (oM ml q) (oM ml z)) (fun k => cb (oM ml k) (ml 104) (mi 105) s) n) (ctD (fun k => cb (oM ml k) (ml 104) (mi 105) s) n n) (i)).2))), (3, .int (nI (i))), (4, .int (nI (mst (fun q => ds (oM ml q) (oM ml i)) (fun k => cb (oM ml k) (ml 104) (mi 105) s) (j))))] d_Mo_asked_120 rfl (nI_add _ 1) (Nat.le_of_ble_eq_true rfl) rfl ?_
                      refine r_goto X (tgt := 48) d_Mo_asked_123 (by decide) ?_
                      refine V.wk [1, 2, 3, 4, 5, 0] (V.eq (ih_L48_4 (j + 1) (by omega) (mi_L48_4) (fun q hq => by first | exact hf2 q hq | (rw [u2_n _ _ _ hq]; exact hf2 q hq)) (by first | exact cn_no (by assumption) hc2 | exact cn_yes (by assumption) rfl hc2)) ?_ ?_ ?_ rfl) (rfl : lv_pick _ [1, 2, 3, 4, 5, 0] = [(0, .ref (ads o (95))), (1, .int (nI ((askS (fun z => mst (fun q => ds (oM ml q) (oM ml z)) (fun k => cb (oM ml k) (ml 104) (mi 105) s) n) (ctD (fun k => cb (oM ml k) (ml 104) (mi 105) s) n n) (i)).1))), (2, .int (((askS (fun z => mst (fun q => ds (oM ml q) (oM ml z)) (fun k => cb (oM ml k) (ml 104) (mi 105) s) n) (ctD (fun k => cb (oM ml k) (ml 104) (mi 105) s) n n) (i)).2))), (3, .int (nI (i))), (4, .int (nI (mst (fun q => ds (oM ml q) (oM ml i)) (fun k => cb (oM ml k) (ml 104) (mi 105) s) (j)))), (5, .int (nI (j + 1)))])
                      · rfl
                      · rfl
                      · first | rfl | (simp only [mst]; split <;> first | rfl | (simp_all; done))
                    · -- not taken
                      refine r_aload_n X 0 d_Mo_asked_66 rfl rfl ?_
                      refine r_iload X 5 d_Mo_asked_67 rfl ?_
                      refine r_callV X (m_Mo_own l o mi_L48_4 ml j (by omega)) ok_Mo_own w_Mo_67 rfl b_95 e_95 rfl ⟨Nat.le_of_ble_eq_true rfl, Nat.le_of_ble_eq_true rfl⟩ (rest := []) rfl (Nat.le_of_ble_eq_true rfl) d_Mo_asked_69 ?_
                      refine kD (st' := [.long (oM ml j)]) rfl ?_
                      refine r_aload_n X 0 d_Mo_asked_72 rfl rfl ?_
                      refine r_iload_n X 3 d_Mo_asked_73 rfl rfl ?_
                      refine r_callV X (m_Mo_own l o mi_L48_4 ml i (by omega)) ok_Mo_own w_Mo_67 rfl b_95 e_95 rfl ⟨Nat.le_of_ble_eq_true rfl, Nat.le_of_ble_eq_true rfl⟩ (rest := [.long (oM ml j)]) rfl (Nat.le_of_ble_eq_true rfl) d_Mo_asked_74 ?_
                      refine kD (st' := [.long (oM ml i), .long (oM ml j)]) rfl ?_
                      refine r_lxor X (v := (oM ml j) ^^^ (oM ml i)) d_Mo_asked_77 (rfl) ?_
                      refine r_callS X (m_Mo_ones l o mi_L48_4 ml ((oM ml j) ^^^ (oM ml i))) ok_Mo_ones w_Mo_71 rfl ⟨Nat.le_of_ble_eq_true rfl, Nat.le_of_ble_eq_true rfl⟩ (rest := []) rfl (Nat.le_of_ble_eq_true rfl) d_Mo_asked_78 ?_
                      refine kD (st' := [.int (nI (pop ((oM ml j) ^^^ (oM ml i))))]) rfl ?_
                      refine r_istore X [(6, .int (nI (pop ((oM ml j) ^^^ (oM ml i))))), (0, .ref (ads o (95))), (1, .int (nI ((askS (fun z => mst (fun q => ds (oM ml q) (oM ml z)) (fun k => cb (oM ml k) (ml 104) (mi 105) s) n) (ctD (fun k => cb (oM ml k) (ml 104) (mi 105) s) n n) (i)).1))), (2, .int (((askS (fun z => mst (fun q => ds (oM ml q) (oM ml z)) (fun k => cb (oM ml k) (ml 104) (mi 105) s) n) (ctD (fun k => cb (oM ml k) (ml 104) (mi 105) s) n n) (i)).2))), (3, .int (nI (i))), (4, .int (nI (mst (fun q => ds (oM ml q) (oM ml i)) (fun k => cb (oM ml k) (ml 104) (mi 105) s) (j)))), (5, .int (nI (j)))] d_Mo_asked_81 (Nat.le_of_ble_eq_true rfl) rfl ?_
                      refine r_aload_n X 1 d_Mo_asked_83 rfl rfl ?_
                      refine r_get X f_Mo_54 b_95 e_95 (v := .ref (ads o (110))) rfl d_Mo_asked_84 ?_
                      refine r_iload X 0 d_Mo_asked_87 rfl ?_
                      refine r_dup2_11 X d_Mo_asked_89 rfl rfl ?_
                      refine r_iald X (v := nI (cn (fun q => ds (oM ml q) (oM ml i)) (fun k => cb (oM ml k) (ml 104) (mi 105) s) (pop ((oM ml j) ^^^ (oM ml i))) j)) b_110 e_110 (Nat.le_of_ble_eq_true rfl) (Nat.lt_succ_of_le (pop_le _)) (hc2 _ (Nat.lt_succ_of_le (pop_le _))) d_Mo_asked_90 ?_
                      refine r_iconst X (v := nI (1)) d_Mo_asked_91 (by decide) ?_
                      refine r_iadd X (v := nI (cn (fun q => ds (oM ml q) (oM ml i)) (fun k => cb (oM ml k) (ml 104) (mi 105) s) (pop ((oM ml j) ^^^ (oM ml i))) j + 1)) d_Mo_asked_92 (nI_add _ _) ?_
                      refine r_iast X b_110 e_110 (Nat.le_of_ble_eq_true rfl) (Nat.lt_succ_of_le (pop_le _)) d_Mo_asked_93 ?_
                      refine r_aload_n X 1 d_Mo_asked_94 rfl rfl ?_
                      refine r_get X f_Mo_54 b_95 e_95 (v := .ref (ads o (110))) rfl d_Mo_asked_95 ?_
                      refine r_iload X 0 d_Mo_asked_98 rfl ?_
                      refine r_iald X (v := nI (cn (fun q => ds (oM ml q) (oM ml i)) (fun k => cb (oM ml k) (ml 104) (mi 105) s) (pop ((oM ml j) ^^^ (oM ml i))) j + 1)) b_110 e_110 (Nat.le_of_ble_eq_true rfl) (Nat.lt_succ_of_le (pop_le _)) ((by rw [u2_s, uf_s])) d_Mo_asked_100 ?_
                      refine r_iload X 5 d_Mo_asked_101 rfl ?_
                      have hJ_8 : V γ o 7 (u2 mi_L48_4 110 (pop ((oM ml j) ^^^ (oM ml i))) (nI (cn (fun q => ds (oM ml q) (oM ml i)) (fun k => cb (oM ml k) (ml 104) (mi 105) s) (pop ((oM ml j) ^^^ (oM ml i))) j + 1))) ml 118 [(6, .int (nI (pop ((oM ml j) ^^^ (oM ml i))))), (0, .ref (ads o (95))), (1, .int (nI ((askS (fun z => mst (fun q => ds (oM ml q) (oM ml z)) (fun k => cb (oM ml k) (ml 104) (mi 105) s) n) (ctD (fun k => cb (oM ml k) (ml 104) (mi 105) s) n n) (i)).1))), (2, .int (((askS (fun z => mst (fun q => ds (oM ml q) (oM ml z)) (fun k => cb (oM ml k) (ml 104) (mi 105) s) n) (ctD (fun k => cb (oM ml k) (ml 104) (mi 105) s) n n) (i)).2))), (3, .int (nI (i))), (4, .int (nI (mst (fun q => ds (oM ml q) (oM ml i)) (fun k => cb (oM ml k) (ml 104) (mi 105) s) (j)))), (5, .int (nI (j)))] [.int (nI (if decide ((cn (fun q => ds (oM ml q) (oM ml i)) (fun k => cb (oM ml k) (ml 104) (mi 105) s) (pop ((oM ml j) ^^^ (oM ml i))) j + 1) ≤ (mst (fun q => ds (oM ml q) (oM ml i)) (fun k => cb (oM ml k) (ml 104) (mi 105) s) (j))) then mst (fun q => ds (oM ml q) (oM ml i)) (fun k => cb (oM ml k) (ml 104) (mi 105) s) (j) else cn (fun q => ds (oM ml q) (oM ml i)) (fun k => cb (oM ml k) (ml 104) (mi 105) s) (pop ((oM ml j) ^^^ (oM ml i))) j + 1))] := by
                        refine r_istore X [(4, .int (nI (if decide ((cn (fun q => ds (oM ml q) (oM ml i)) (fun k => cb (oM ml k) (ml 104) (mi 105) s) (pop ((oM ml j) ^^^ (oM ml i))) j + 1) ≤ (mst (fun q => ds (oM ml q) (oM ml i)) (fun k => cb (oM ml k) (ml 104) (mi 105) s) (j))) then mst (fun q => ds (oM ml q) (oM ml i)) (fun k => cb (oM ml k) (ml 104) (mi 105) s) (j) else cn (fun q => ds (oM ml q) (oM ml i)) (fun k => cb (oM ml k) (ml 104) (mi 105) s) (pop ((oM ml j) ^^^ (oM ml i))) j + 1))), (6, .int (nI (pop ((oM ml j) ^^^ (oM ml i))))), (0, .ref (ads o (95))), (1, .int (nI ((askS (fun z => mst (fun q => ds (oM ml q) (oM ml z)) (fun k => cb (oM ml k) (ml 104) (mi 105) s) n) (ctD (fun k => cb (oM ml k) (ml 104) (mi 105) s) n n) (i)).1))), (2, .int (((askS (fun z => mst (fun q => ds (oM ml q) (oM ml z)) (fun k => cb (oM ml k) (ml 104) (mi 105) s) n) (ctD (fun k => cb (oM ml k) (ml 104) (mi 105) s) n n) (i)).2))), (3, .int (nI (i))), (5, .int (nI (j)))] d_Mo_asked_118 (Nat.le_of_ble_eq_true rfl) rfl ?_
                        refine r_iinc X 6 (v := nI (j + 1)) [(5, .int (nI (j + 1))), (4, .int (nI (if decide ((cn (fun q => ds (oM ml q) (oM ml i)) (fun k => cb (oM ml k) (ml 104) (mi 105) s) (pop ((oM ml j) ^^^ (oM ml i))) j + 1) ≤ (mst (fun q => ds (oM ml q) (oM ml i)) (fun k => cb (oM ml k) (ml 104) (mi 105) s) (j))) then mst (fun q => ds (oM ml q) (oM ml i)) (fun k => cb (oM ml k) (ml 104) (mi 105) s) (j) else cn (fun q => ds (oM ml q) (oM ml i)) (fun k => cb (oM ml k) (ml 104) (mi 105) s) (pop ((oM ml j) ^^^ (oM ml i))) j + 1))), (6, .int (nI (pop ((oM ml j) ^^^ (oM ml i))))), (0, .ref (ads o (95))), (1, .int (nI ((askS (fun z => mst (fun q => ds (oM ml q) (oM ml z)) (fun k => cb (oM ml k) (ml 104) (mi 105) s) n) (ctD (fun k => cb (oM ml k) (ml 104) (mi 105) s) n n) (i)).1))), (2, .int (((askS (fun z => mst (fun q => ds (oM ml q) (oM ml z)) (fun k => cb (oM ml k) (ml 104) (mi 105) s) n) (ctD (fun k => cb (oM ml k) (ml 104) (mi 105) s) n n) (i)).2))), (3, .int (nI (i)))] d_Mo_asked_120 rfl (nI_add _ 1) (Nat.le_of_ble_eq_true rfl) rfl ?_
                        refine r_goto X (tgt := 48) d_Mo_asked_123 (by decide) ?_
                        refine V.wk [3, 4, 5, 6, 1, 0] (V.eq (ih_L48_4 (j + 1) (by omega) ((u2 mi_L48_4 110 (pop ((oM ml j) ^^^ (oM ml i))) (nI (cn (fun q => ds (oM ml q) (oM ml i)) (fun k => cb (oM ml k) (ml 104) (mi 105) s) (pop ((oM ml j) ^^^ (oM ml i))) j + 1)))) (fun q hq => by first | exact hf2 q hq | (rw [u2_n _ _ _ hq]; exact hf2 q hq)) (by first | exact cn_no (by assumption) hc2 | exact cn_yes (by assumption) rfl hc2)) ?_ ?_ ?_ rfl) (rfl : lv_pick _ [3, 4, 5, 6, 1, 0] = [(0, .ref (ads o (95))), (1, .int (nI ((askS (fun z => mst (fun q => ds (oM ml q) (oM ml z)) (fun k => cb (oM ml k) (ml 104) (mi 105) s) n) (ctD (fun k => cb (oM ml k) (ml 104) (mi 105) s) n n) (i)).1))), (2, .int (((askS (fun z => mst (fun q => ds (oM ml q) (oM ml z)) (fun k => cb (oM ml k) (ml 104) (mi 105) s) n) (ctD (fun k => cb (oM ml k) (ml 104) (mi 105) s) n n) (i)).2))), (3, .int (nI (i))), (4, .int (nI (if decide ((cn (fun q => ds (oM ml q) (oM ml i)) (fun k => cb (oM ml k) (ml 104) (mi 105) s) (pop ((oM ml j) ^^^ (oM ml i))) j + 1) ≤ (mst (fun q => ds (oM ml q) (oM ml i)) (fun k => cb (oM ml k) (ml 104) (mi 105) s) (j))) then mst (fun q => ds (oM ml q) (oM ml i)) (fun k => cb (oM ml k) (ml 104) (mi 105) s) (j) else cn (fun q => ds (oM ml q) (oM ml i)) (fun k => cb (oM ml k) (ml 104) (mi 105) s) (pop ((oM ml j) ^^^ (oM ml i))) j + 1))), (5, .int (nI (j + 1)))])
                        · rfl
                        · rfl
                        · first | rfl | (simp only [mst]; split <;> first | rfl | (simp_all; done))
                      refine r_icle X (tgt := 116) (c := (cn (fun q => ds (oM ml q) (oM ml i)) (fun k => cb (oM ml k) (ml 104) (mi 105) s) (pop ((oM ml j) ^^^ (oM ml i))) j + 1) ≤ (mst (fun q => ds (oM ml q) (oM ml i)) (fun k => cb (oM ml k) (ml 104) (mi 105) s) (j))) d_Mo_asked_103 (by decide) (nI_leI (by omega) (by omega)) (fun c_103 => ?_) (fun c_103 => ?_)
                      · -- taken
                        refine r_iload X 5 d_Mo_asked_116 rfl ?_
                        exact V.eq hJ_8 rfl rfl rfl (by rw [show (nI (if decide ((cn (fun q => ds (oM ml q) (oM ml i)) (fun k => cb (oM ml k) (ml 104) (mi 105) s) (pop ((oM ml j) ^^^ (oM ml i))) j + 1) ≤ (mst (fun q => ds (oM ml q) (oM ml i)) (fun k => cb (oM ml k) (ml 104) (mi 105) s) (j))) then mst (fun q => ds (oM ml q) (oM ml i)) (fun k => cb (oM ml k) (ml 104) (mi 105) s) (j) else cn (fun q => ds (oM ml q) (oM ml i)) (fun k => cb (oM ml k) (ml 104) (mi 105) s) (pop ((oM ml j) ^^^ (oM ml i))) j + 1)) = (nI (mst (fun q => ds (oM ml q) (oM ml i)) (fun k => cb (oM ml k) (ml 104) (mi 105) s) (j))) from by first | (simp only [eq_true c_103, decide_true, decide_false, Bool.not_true, Bool.not_false, Bool.true_and, Bool.false_and, Bool.and_true, Bool.and_false, Bool.true_or, Bool.false_or, Bool.or_true, Bool.or_false, if_true, if_false, ite_true, ite_false, cond_true, cond_false, Bool.false_eq_true, reduceIte]; done) | (simp [c_103]; done) | (simp_all; done)])
                      · -- not taken
                        refine r_aload_n X 1 d_Mo_asked_106 rfl rfl ?_
                        refine r_get X f_Mo_54 b_95 e_95 (v := .ref (ads o (110))) rfl d_Mo_asked_107 ?_
                        refine r_iload X 0 d_Mo_asked_110 rfl ?_
                        refine r_iald X (v := nI (cn (fun q => ds (oM ml q) (oM ml i)) (fun k => cb (oM ml k) (ml 104) (mi 105) s) (pop ((oM ml j) ^^^ (oM ml i))) j + 1)) b_110 e_110 (Nat.le_of_ble_eq_true rfl) (Nat.lt_succ_of_le (pop_le _)) ((by rw [u2_s, uf_s])) d_Mo_asked_112 ?_
                        refine r_goto X (tgt := 118) d_Mo_asked_113 (by decide) ?_
                        exact V.eq hJ_8 rfl rfl rfl (by rw [show (nI (if decide ((cn (fun q => ds (oM ml q) (oM ml i)) (fun k => cb (oM ml k) (ml 104) (mi 105) s) (pop ((oM ml j) ^^^ (oM ml i))) j + 1) ≤ (mst (fun q => ds (oM ml q) (oM ml i)) (fun k => cb (oM ml k) (ml 104) (mi 105) s) (j))) then mst (fun q => ds (oM ml q) (oM ml i)) (fun k => cb (oM ml k) (ml 104) (mi 105) s) (j) else cn (fun q => ds (oM ml q) (oM ml i)) (fun k => cb (oM ml k) (ml 104) (mi 105) s) (pop ((oM ml j) ^^^ (oM ml i))) j + 1)) = (nI (cn (fun q => ds (oM ml q) (oM ml i)) (fun k => cb (oM ml k) (ml 104) (mi 105) s) (pop ((oM ml j) ^^^ (oM ml i))) j + 1)) from by first | (simp only [eq_false c_103, decide_true, decide_false, Bool.not_true, Bool.not_false, Bool.true_and, Bool.false_and, Bool.and_true, Bool.and_false, Bool.true_or, Bool.false_or, Bool.or_true, Bool.or_false, if_true, if_false, ite_true, ite_false, cond_true, cond_false, Bool.false_eq_true, reduceIte]; done) | (simp [c_103]; done) | (simp_all; done)])
              refine V.wk [2, 3, 4, 5, 1, 0] (V.eq (L48_4 (n - 0) 0 (by omega) (mi_L21_3) (hf1) (fun t ht => hz1 t ht)) ?_ ?_ ?_ rfl) (rfl : lv_pick _ [2, 3, 4, 5, 1, 0] = [(0, .ref (ads o (95))), (1, .int (nI ((askS (fun z => mst (fun q => ds (oM ml q) (oM ml z)) (fun k => cb (oM ml k) (ml 104) (mi 105) s) n) (ctD (fun k => cb (oM ml k) (ml 104) (mi 105) s) n n) (i)).1))), (2, .int (((askS (fun z => mst (fun q => ds (oM ml q) (oM ml z)) (fun k => cb (oM ml k) (ml 104) (mi 105) s) n) (ctD (fun k => cb (oM ml k) (ml 104) (mi 105) s) n n) (i)).2))), (3, .int (nI (i))), (4, .int (nI (0))), (5, .int (nI (0)))])
              · rfl
              · rfl
              · rfl
            · -- not taken
              exact False.elim (by omega)
          | succ d_t ih_L21_3 =>
            intro t hi_L21_3 mi_L21_3 hf1 hz1
            have hlt_L21_3 : t < 65 := by omega
            refine r_iload X 4 d_Mo_asked_21 rfl ?_
            refine r_bipush X (v := nI (64)) d_Mo_asked_23 (by decide) ?_
            refine r_icgt X (tgt := 42) (c := 64 < t) d_Mo_asked_25 (by decide) (nI_ltI (Nat.le_of_ble_eq_true rfl) (by omega)) (fun c_25_9 => ?_) (fun c_25_9 => ?_)
            · -- taken
              exact False.elim (by omega)
            · -- not taken
              refine r_aload_n X 0 d_Mo_asked_28 rfl rfl ?_
              refine r_get X f_Mo_54 b_95 e_95 (v := .ref (ads o (110))) rfl d_Mo_asked_29 ?_
              refine r_iload X 4 d_Mo_asked_32 rfl ?_
              refine r_iconst X (v := nI (0)) d_Mo_asked_34 (by decide) ?_
              refine r_iast X b_110 e_110 (Nat.le_of_ble_eq_true rfl) (by omega) d_Mo_asked_35 ?_
              refine r_iinc X 4 (v := nI (t + 1)) [(4, .int (nI (t + 1))), (0, .ref (ads o (95))), (1, .int (nI ((askS (fun z => mst (fun q => ds (oM ml q) (oM ml z)) (fun k => cb (oM ml k) (ml 104) (mi 105) s) n) (ctD (fun k => cb (oM ml k) (ml 104) (mi 105) s) n n) (i)).1))), (2, .int (((askS (fun z => mst (fun q => ds (oM ml q) (oM ml z)) (fun k => cb (oM ml k) (ml 104) (mi 105) s) n) (ctD (fun k => cb (oM ml k) (ml 104) (mi 105) s) n n) (i)).2))), (3, .int (nI (i)))] d_Mo_asked_36 rfl (nI_add _ 1) (Nat.le_of_ble_eq_true rfl) rfl ?_
              refine r_goto X (tgt := 21) d_Mo_asked_39 (by decide) ?_
              refine V.wk [1, 2, 3, 4, 0] (V.eq (ih_L21_3 (t + 1) (by omega) ((u2 mi_L21_3 110 t (nI (0)))) (fun q hq => by rw [u2_n _ _ _ hq]; exact hf1 q hq) (zf_step hz1)) ?_ ?_ ?_ rfl) (rfl : lv_pick _ [1, 2, 3, 4, 0] = [(0, .ref (ads o (95))), (1, .int (nI ((askS (fun z => mst (fun q => ds (oM ml q) (oM ml z)) (fun k => cb (oM ml k) (ml 104) (mi 105) s) n) (ctD (fun k => cb (oM ml k) (ml 104) (mi 105) s) n n) (i)).1))), (2, .int (((askS (fun z => mst (fun q => ds (oM ml q) (oM ml z)) (fun k => cb (oM ml k) (ml 104) (mi 105) s) n) (ctD (fun k => cb (oM ml k) (ml 104) (mi 105) s) n n) (i)).2))), (3, .int (nI (i))), (4, .int (nI (t + 1)))])
              · rfl
              · rfl
              · first | rfl | (simp_all [ct, lastB, alB, fromB]; done)
        refine V.wk [1, 2, 3, 4, 0] (V.eq (L21_3 (65 - 0) 0 (by omega) (mi_L10_1) (hf) (fun q hq => absurd hq (by omega))) ?_ ?_ ?_ rfl) (rfl : lv_pick _ [1, 2, 3, 4, 0] = [(0, .ref (ads o (95))), (1, .int (nI ((askS (fun z => mst (fun q => ds (oM ml q) (oM ml z)) (fun k => cb (oM ml k) (ml 104) (mi 105) s) n) (ctD (fun k => cb (oM ml k) (ml 104) (mi 105) s) n n) (i)).1))), (2, .int (((askS (fun z => mst (fun q => ds (oM ml q) (oM ml z)) (fun k => cb (oM ml k) (ml 104) (mi 105) s) n) (ctD (fun k => cb (oM ml k) (ml 104) (mi 105) s) n n) (i)).2))), (3, .int (nI (i))), (4, .int (nI (0)))])
        · rfl
        · rfl
        · rfl
  refine V.wk [3, 2, 1, 0] (V.eq (L10_1 (n - 0) 0 (by omega) (mi) (fun _ _ => rfl)) ?_ ?_ ?_ rfl) (rfl : lv_pick _ [3, 2, 1, 0] = [(0, .ref (ads o (95))), (1, .int (nI (ctD (fun k => cb (oM ml k) (ml 104) (mi 105) s) n n))), (2, .int (((-1 : Int32)))), (3, .int (nI (0)))])
  · rfl
  · rfl
  · rfl
