set_option maxHeartbeats 4000000 in
set_option maxRecDepth 100000 in
theorem m_Mo_layGroups (l : Launch) (o : OM) (mi : MI) (ml : ML) (b : Nat) (n : Nat) (hn : ml 96 2 = lN n) (hn40 : n ≤ 40) (hb : b ≤ 64) : Con l y_Mo_layGroups c_Mo_layGroups 5 (some .int) 1 23 o [.ref (ads o (95)), .int (nI (b))] mi ml (fun v a z => ∃ G : Nat → Nat, v = some (.int (nI (ct (fun k => decide (G k = k)) n))) ∧ (∀ t, t ≠ 109 → a t = mi t) ∧ z = ml ∧ Lab (oM ml) n b G ∧ ∀ k, k < n → a 109 k = nI (G k)) := by
  refine Con.mk (by decide) (Nat.le_of_ble_eq_true rfl) (fun γ X => ?_)
  show V γ o 5 mi ml 0 [(0, .ref (ads o (95))), (1, .int (nI (b)))] []
  refine r_iconst X (v := nI (0)) d_Mo_layGroups_0 (by decide) ?_
  refine r_istore_n X [(2, .int (nI (0))), (0, .ref (ads o (95))), (1, .int (nI (b)))] d_Mo_layGroups_1 rfl (Nat.le_of_ble_eq_true rfl) rfl ?_
  have L2_1 : ∀ (d_i i : Nat), i + d_i = n → ∀ (mi_L2_1 : MI), (∀ t, t ≠ 109 → mi_L2_1 t = mi t) → (∀ k, k < i → mi_L2_1 109 k = nI k) → V γ o 5 mi_L2_1 ml 2 [(0, .ref (ads o (95))), (1, .int (nI (b))), (2, .int (nI (i)))] [] := by
    intro d_i
    induction d_i with
    | zero =>
      intro i hi_L2_1 mi_L2_1 hf0 hz0
      have he_L2_1 : n = i := by omega
      subst he_L2_1
      refine r_iload_n X 2 d_Mo_layGroups_2 rfl rfl ?_
      refine r_aload_n X 0 d_Mo_layGroups_3 rfl rfl ?_
      refine r_callV X (m_Mo_marks l o mi_L2_1 ml n (hn) (by omega)) ok_Mo_marks w_Mo_59 rfl b_95 e_95 rfl ⟨Nat.le_of_ble_eq_true rfl, Nat.le_of_ble_eq_true rfl⟩ (rest := [.int (nI (n))]) rfl (Nat.le_of_ble_eq_true rfl) d_Mo_layGroups_4 ?_
      refine kD (st' := [.int (nI (n)), .int (nI (n))]) rfl ?_
      refine r_icge X (tgt := 23) (c := n ≤ n) d_Mo_layGroups_7 (by decide) (nI_leI (by omega) (by omega)) (fun c_7 => ?_) (fun c_7 => ?_)
      · -- taken
        refine r_iconst X (v := nI (1)) d_Mo_layGroups_23 (by decide) ?_
        refine r_istore_n X [(2, .int (nI (1))), (0, .ref (ads o (95))), (1, .int (nI (b)))] d_Mo_layGroups_24 rfl (Nat.le_of_ble_eq_true rfl) rfl ?_
        have L25_2 : ∀ (d_i i : Nat), True → ∀ (mi_L25_2 : MI), ∀ (G : Nat → Nat), ∀ (on : Bool), (∀ t, t ≠ 109 → mi_L25_2 t = mi t) → (∀ k, k < n → mi_L25_2 109 k = nI (G k)) → (Lv1 (oM ml) n b G) → (on = false → Stb (oM ml) n b G) → (on = true → sm G n < d_i) → V γ o 5 mi_L25_2 ml 25 [(0, .ref (ads o (95))), (1, .int (nI (b))), (2, .int (bI (on)))] [] := by
          intro d_i
          induction d_i with
          | zero =>
            intro i hi_L25_2 mi_L25_2 G on hf hG hI hst hfu
            refine r_iload_n X 2 d_Mo_layGroups_25 rfl rfl ?_
            refine r_ifeqB X (tgt := 118) (b := on) d_Mo_layGroups_26 (by decide) (fun c_26 => ?_) (fun c_26 => ?_)
            · -- taken
              refine r_iconst X (v := nI (0)) d_Mo_layGroups_118 (by decide) ?_
              refine r_istore_n X [(3, .int (nI (0))), (0, .ref (ads o (95))), (1, .int (nI (b))), (2, .int (bI (on)))] d_Mo_layGroups_119 rfl (Nat.le_of_ble_eq_true rfl) rfl ?_
              refine r_iconst X (v := nI (0)) d_Mo_layGroups_120 (by decide) ?_
              refine r_istore X [(4, .int (nI (0))), (3, .int (nI (0))), (0, .ref (ads o (95))), (1, .int (nI (b))), (2, .int (bI (on)))] d_Mo_layGroups_121 (Nat.le_of_ble_eq_true rfl) rfl ?_
              have L123_3 : ∀ (d_i i : Nat), i + d_i = n → V γ o 5 mi_L25_2 ml 123 [(0, .ref (ads o (95))), (1, .int (nI (b))), (2, .int (bI (on))), (3, .int (nI (ct (fun k => decide (G k = k)) (i)))), (4, .int (nI (i)))] [] := by
                intro d_i
                induction d_i with
                | zero =>
                  intro i hi_L123_3 
                  have he_L123_3 : n = i := by omega
                  subst he_L123_3
                  refine r_iload X 4 d_Mo_layGroups_123 rfl ?_
                  refine r_aload_n X 0 d_Mo_layGroups_125 rfl rfl ?_
                  refine r_callV X (m_Mo_marks l o mi_L25_2 ml n (hn) (by omega)) ok_Mo_marks w_Mo_59 rfl b_95 e_95 rfl ⟨Nat.le_of_ble_eq_true rfl, Nat.le_of_ble_eq_true rfl⟩ (rest := [.int (nI (n))]) rfl (Nat.le_of_ble_eq_true rfl) d_Mo_layGroups_126 ?_
                  refine kD (st' := [.int (nI (n)), .int (nI (n))]) rfl ?_
                  refine r_icge X (tgt := 158) (c := n ≤ n) d_Mo_layGroups_129 (by decide) (nI_leI (by omega) (by omega)) (fun c_129 => ?_) (fun c_129 => ?_)
                  · -- taken
                    refine r_iload_n X 3 d_Mo_layGroups_158 rfl rfl ?_
                    refine r_end_i X d_Mo_layGroups_159 ?_
                    exact ⟨G, rfl, hf, rfl, ⟨hI, hst (by assumption)⟩, hG⟩
                  · -- not taken
                    exact False.elim (by omega)
                | succ d_i ih_L123_3 =>
                  intro i hi_L123_3 
                  have hlt_L123_3 : i < n := by omega
                  have hgi := (hI i (by omega)).1
                  refine r_iload X 4 d_Mo_layGroups_123 rfl ?_
                  refine r_aload_n X 0 d_Mo_layGroups_125 rfl rfl ?_
                  refine r_callV X (m_Mo_marks l o mi_L25_2 ml n (hn) (by omega)) ok_Mo_marks w_Mo_59 rfl b_95 e_95 rfl ⟨Nat.le_of_ble_eq_true rfl, Nat.le_of_ble_eq_true rfl⟩ (rest := [.int (nI (i))]) rfl (Nat.le_of_ble_eq_true rfl) d_Mo_layGroups_126 ?_
                  refine kD (st' := [.int (nI (n)), .int (nI (i))]) rfl ?_
                  refine r_icge X (tgt := 158) (c := n ≤ i) d_Mo_layGroups_129 (by decide) (nI_leI (by omega) (by omega)) (fun c_129_4 => ?_) (fun c_129_4 => ?_)
                  · -- taken
                    exact False.elim (by omega)
                  · -- not taken
                    refine r_iload_n X 3 d_Mo_layGroups_132 rfl rfl ?_
                    refine r_aload_n X 0 d_Mo_layGroups_133 rfl rfl ?_
                    refine r_get X f_Mo_51 b_95 e_95 (v := .ref (ads o (109))) rfl d_Mo_layGroups_134 ?_
                    refine r_iload X 4 d_Mo_layGroups_137 rfl ?_
                    refine r_iald X (v := nI (G i)) b_109 e_109 (Nat.le_of_ble_eq_true rfl) (by omega) (hG i (by omega)) d_Mo_layGroups_139 ?_
                    refine r_iload X 4 d_Mo_layGroups_140 rfl ?_
                    have hJ_5 : V γ o 5 mi_L25_2 ml 150 [(0, .ref (ads o (95))), (1, .int (nI (b))), (2, .int (bI (on))), (3, .int (nI (ct (fun k => decide (G k = k)) (i)))), (4, .int (nI (i)))] [.int (bI (decide ((G i) = i))), .int (nI (ct (fun k => decide (G k = k)) (i)))] := by
                      refine r_iadd X (v := nI (ct (fun k => decide (G k = k)) (i) + (decide ((G i) = i)).toNat)) d_Mo_layGroups_150 (bI_add _ _) ?_
                      refine r_istore_n X [(3, .int (nI (ct (fun k => decide (G k = k)) (i) + (decide ((G i) = i)).toNat))), (0, .ref (ads o (95))), (1, .int (nI (b))), (2, .int (bI (on))), (4, .int (nI (i)))] d_Mo_layGroups_151 rfl (Nat.le_of_ble_eq_true rfl) rfl ?_
                      refine r_iinc X 4 (v := nI (i + 1)) [(4, .int (nI (i + 1))), (3, .int (nI (ct (fun k => decide (G k = k)) (i) + (decide ((G i) = i)).toNat))), (0, .ref (ads o (95))), (1, .int (nI (b))), (2, .int (bI (on)))] d_Mo_layGroups_152 rfl (nI_add _ 1) (Nat.le_of_ble_eq_true rfl) rfl ?_
                      refine r_goto X (tgt := 123) d_Mo_layGroups_155 (by decide) ?_
                      refine V.wk [2, 3, 4, 1, 0] (V.eq (ih_L123_3 (i + 1) (by omega) ) ?_ ?_ ?_ rfl) (rfl : lv_pick _ [2, 3, 4, 1, 0] = [(0, .ref (ads o (95))), (1, .int (nI (b))), (2, .int (bI (on))), (3, .int (nI (ct (fun k => decide (G k = k)) (i) + (decide ((G i) = i)).toNat))), (4, .int (nI (i + 1)))])
                      · rfl
                      · rfl
                      · first | rfl | (simp_all [ct, lastB, alB, fromB]; done)
                    refine r_icneP X (tgt := 149) (c := (G i) = i) d_Mo_layGroups_142 (by decide) (nI_eq (by omega) (by omega)) (fun c_142 => ?_) (fun c_142 => ?_)
                    · -- taken
                      refine r_iconst X (v := nI (0)) d_Mo_layGroups_149 (by decide) ?_
                      exact V.eq hJ_5 rfl rfl rfl (by rw [show (decide ((G i) = i)) = false from by first | (simp only [eq_false c_142, decide_true, decide_false, Bool.not_true, Bool.not_false, Bool.true_and, Bool.false_and, Bool.and_true, Bool.and_false, Bool.true_or, Bool.false_or, Bool.or_true, Bool.or_false, if_true, if_false, ite_true, ite_false, cond_true, cond_false, Bool.false_eq_true, reduceIte]; done) | (simp [c_142]; done) | (simp_all; done)]; rfl)
                    · -- not taken
                      refine r_iconst X (v := nI (1)) d_Mo_layGroups_145 (by decide) ?_
                      refine r_goto X (tgt := 150) d_Mo_layGroups_146 (by decide) ?_
                      exact V.eq hJ_5 rfl rfl rfl (by rw [show (decide ((G i) = i)) = true from by first | (simp only [eq_true c_142, decide_true, decide_false, Bool.not_true, Bool.not_false, Bool.true_and, Bool.false_and, Bool.and_true, Bool.and_false, Bool.true_or, Bool.false_or, Bool.or_true, Bool.or_false, if_true, if_false, ite_true, ite_false, cond_true, cond_false, Bool.false_eq_true, reduceIte]; done) | (simp [c_142]; done) | (simp_all; done)]; rfl)
              refine V.wk [2, 3, 4, 1, 0] (V.eq (L123_3 (n - 0) 0 (by omega) ) ?_ ?_ ?_ rfl) (rfl : lv_pick _ [2, 3, 4, 1, 0] = [(0, .ref (ads o (95))), (1, .int (nI (b))), (2, .int (bI (on))), (3, .int (nI (0))), (4, .int (nI (0)))])
              · rfl
              · rfl
              · rfl
            · -- not taken
              exact False.elim (by exact absurd (hfu c_26) (by omega))
          | succ d_i ih_L25_2 =>
            intro i hi_L25_2 mi_L25_2 G on hf hG hI hst hfu
            refine r_iload_n X 2 d_Mo_layGroups_25 rfl rfl ?_
            refine r_ifeqB X (tgt := 118) (b := on) d_Mo_layGroups_26 (by decide) (fun c_26_6 => ?_) (fun c_26_6 => ?_)
            · -- taken
              refine r_iconst X (v := nI (0)) d_Mo_layGroups_118 (by decide) ?_
              refine r_istore_n X [(3, .int (nI (0))), (0, .ref (ads o (95))), (1, .int (nI (b))), (2, .int (bI (on)))] d_Mo_layGroups_119 rfl (Nat.le_of_ble_eq_true rfl) rfl ?_
              refine r_iconst X (v := nI (0)) d_Mo_layGroups_120 (by decide) ?_
              refine r_istore X [(4, .int (nI (0))), (3, .int (nI (0))), (0, .ref (ads o (95))), (1, .int (nI (b))), (2, .int (bI (on)))] d_Mo_layGroups_121 (Nat.le_of_ble_eq_true rfl) rfl ?_
              have L123_7 : ∀ (d_i i : Nat), i + d_i = n → V γ o 5 mi_L25_2 ml 123 [(0, .ref (ads o (95))), (1, .int (nI (b))), (2, .int (bI (on))), (3, .int (nI (ct (fun k => decide (G k = k)) (i)))), (4, .int (nI (i)))] [] := by
                intro d_i
                induction d_i with
                | zero =>
                  intro i hi_L123_7 
                  have he_L123_7 : n = i := by omega
                  subst he_L123_7
                  refine r_iload X 4 d_Mo_layGroups_123 rfl ?_
                  refine r_aload_n X 0 d_Mo_layGroups_125 rfl rfl ?_
                  refine r_callV X (m_Mo_marks l o mi_L25_2 ml n (hn) (by omega)) ok_Mo_marks w_Mo_59 rfl b_95 e_95 rfl ⟨Nat.le_of_ble_eq_true rfl, Nat.le_of_ble_eq_true rfl⟩ (rest := [.int (nI (n))]) rfl (Nat.le_of_ble_eq_true rfl) d_Mo_layGroups_126 ?_
                  refine kD (st' := [.int (nI (n)), .int (nI (n))]) rfl ?_
                  refine r_icge X (tgt := 158) (c := n ≤ n) d_Mo_layGroups_129 (by decide) (nI_leI (by omega) (by omega)) (fun c_129_8 => ?_) (fun c_129_8 => ?_)
                  · -- taken
                    refine r_iload_n X 3 d_Mo_layGroups_158 rfl rfl ?_
                    refine r_end_i X d_Mo_layGroups_159 ?_
                    exact ⟨G, rfl, hf, rfl, ⟨hI, hst (by assumption)⟩, hG⟩
                  · -- not taken
                    exact False.elim (by omega)
                | succ d_i ih_L123_7 =>
                  intro i hi_L123_7 
                  have hlt_L123_7 : i < n := by omega
                  have hgi := (hI i (by omega)).1
                  refine r_iload X 4 d_Mo_layGroups_123 rfl ?_
                  refine r_aload_n X 0 d_Mo_layGroups_125 rfl rfl ?_
                  refine r_callV X (m_Mo_marks l o mi_L25_2 ml n (hn) (by omega)) ok_Mo_marks w_Mo_59 rfl b_95 e_95 rfl ⟨Nat.le_of_ble_eq_true rfl, Nat.le_of_ble_eq_true rfl⟩ (rest := [.int (nI (i))]) rfl (Nat.le_of_ble_eq_true rfl) d_Mo_layGroups_126 ?_
                  refine kD (st' := [.int (nI (n)), .int (nI (i))]) rfl ?_
                  refine r_icge X (tgt := 158) (c := n ≤ i) d_Mo_layGroups_129 (by decide) (nI_leI (by omega) (by omega)) (fun c_129_9 => ?_) (fun c_129_9 => ?_)
                  · -- taken
                    exact False.elim (by omega)
                  · -- not taken
                    refine r_iload_n X 3 d_Mo_layGroups_132 rfl rfl ?_
                    refine r_aload_n X 0 d_Mo_layGroups_133 rfl rfl ?_
                    refine r_get X f_Mo_51 b_95 e_95 (v := .ref (ads o (109))) rfl d_Mo_layGroups_134 ?_
                    refine r_iload X 4 d_Mo_layGroups_137 rfl ?_
                    refine r_iald X (v := nI (G i)) b_109 e_109 (Nat.le_of_ble_eq_true rfl) (by omega) (hG i (by omega)) d_Mo_layGroups_139 ?_
                    refine r_iload X 4 d_Mo_layGroups_140 rfl ?_
                    have hJ_10 : V γ o 5 mi_L25_2 ml 150 [(0, .ref (ads o (95))), (1, .int (nI (b))), (2, .int (bI (on))), (3, .int (nI (ct (fun k => decide (G k = k)) (i)))), (4, .int (nI (i)))] [.int (bI (decide ((G i) = i))), .int (nI (ct (fun k => decide (G k = k)) (i)))] := by
                      refine r_iadd X (v := nI (ct (fun k => decide (G k = k)) (i) + (decide ((G i) = i)).toNat)) d_Mo_layGroups_150 (bI_add _ _) ?_
                      refine r_istore_n X [(3, .int (nI (ct (fun k => decide (G k = k)) (i) + (decide ((G i) = i)).toNat))), (0, .ref (ads o (95))), (1, .int (nI (b))), (2, .int (bI (on))), (4, .int (nI (i)))] d_Mo_layGroups_151 rfl (Nat.le_of_ble_eq_true rfl) rfl ?_
                      refine r_iinc X 4 (v := nI (i + 1)) [(4, .int (nI (i + 1))), (3, .int (nI (ct (fun k => decide (G k = k)) (i) + (decide ((G i) = i)).toNat))), (0, .ref (ads o (95))), (1, .int (nI (b))), (2, .int (bI (on)))] d_Mo_layGroups_152 rfl (nI_add _ 1) (Nat.le_of_ble_eq_true rfl) rfl ?_
                      refine r_goto X (tgt := 123) d_Mo_layGroups_155 (by decide) ?_
                      refine V.wk [2, 3, 4, 1, 0] (V.eq (ih_L123_7 (i + 1) (by omega) ) ?_ ?_ ?_ rfl) (rfl : lv_pick _ [2, 3, 4, 1, 0] = [(0, .ref (ads o (95))), (1, .int (nI (b))), (2, .int (bI (on))), (3, .int (nI (ct (fun k => decide (G k = k)) (i) + (decide ((G i) = i)).toNat))), (4, .int (nI (i + 1)))])
                      · rfl
                      · rfl
                      · first | rfl | (simp_all [ct, lastB, alB, fromB]; done)
                    refine r_icneP X (tgt := 149) (c := (G i) = i) d_Mo_layGroups_142 (by decide) (nI_eq (by omega) (by omega)) (fun c_142_11 => ?_) (fun c_142_11 => ?_)
                    · -- taken
                      refine r_iconst X (v := nI (0)) d_Mo_layGroups_149 (by decide) ?_
                      exact V.eq hJ_10 rfl rfl rfl (by rw [show (decide ((G i) = i)) = false from by first | (simp only [eq_false c_142_11, decide_true, decide_false, Bool.not_true, Bool.not_false, Bool.true_and, Bool.false_and, Bool.and_true, Bool.and_false, Bool.true_or, Bool.false_or, Bool.or_true, Bool.or_false, if_true, if_false, ite_true, ite_false, cond_true, cond_false, Bool.false_eq_true, reduceIte]; done) | (simp [c_142_11]; done) | (simp_all; done)]; rfl)
                    · -- not taken
                      refine r_iconst X (v := nI (1)) d_Mo_layGroups_145 (by decide) ?_
                      refine r_goto X (tgt := 150) d_Mo_layGroups_146 (by decide) ?_
                      exact V.eq hJ_10 rfl rfl rfl (by rw [show (decide ((G i) = i)) = true from by first | (simp only [eq_true c_142_11, decide_true, decide_false, Bool.not_true, Bool.not_false, Bool.true_and, Bool.false_and, Bool.and_true, Bool.and_false, Bool.true_or, Bool.false_or, Bool.or_true, Bool.or_false, if_true, if_false, ite_true, ite_false, cond_true, cond_false, Bool.false_eq_true, reduceIte]; done) | (simp [c_142_11]; done) | (simp_all; done)]; rfl)
              refine V.wk [2, 3, 4, 1, 0] (V.eq (L123_7 (n - 0) 0 (by omega) ) ?_ ?_ ?_ rfl) (rfl : lv_pick _ [2, 3, 4, 1, 0] = [(0, .ref (ads o (95))), (1, .int (nI (b))), (2, .int (bI (on))), (3, .int (nI (0))), (4, .int (nI (0)))])
              · rfl
              · rfl
              · rfl
            · -- not taken
              refine r_iconst X (v := nI (0)) d_Mo_layGroups_29 (by decide) ?_
              refine r_istore_n X [(2, .int (nI (0))), (0, .ref (ads o (95))), (1, .int (nI (b)))] d_Mo_layGroups_30 rfl (Nat.le_of_ble_eq_true rfl) rfl ?_
              refine r_iconst X (v := nI (0)) d_Mo_layGroups_31 (by decide) ?_
              refine r_istore_n X [(3, .int (nI (0))), (2, .int (nI (0))), (0, .ref (ads o (95))), (1, .int (nI (b)))] d_Mo_layGroups_32 rfl (Nat.le_of_ble_eq_true rfl) rfl ?_
              have L33_12 : ∀ (d_u u : Nat), u + d_u = n → ∀ (mi_L33_12 : MI), ∀ (G1 : Nat → Nat), ∀ (on1 : Bool), (∀ t, t ≠ 109 → mi_L33_12 t = mi t) → (∀ k, k < n → mi_L33_12 109 k = nI (G1 k)) → (Lv1 (oM ml) n b G1) → (on1 = false → (∀ k, G1 k = G k) ∧ ∀ j k, j < u → k < n → Rb (oM ml) b j k → G1 k ≤ G1 j) → (on1 = true → sm G1 n < sm G n) → V γ o 5 mi_L33_12 ml 33 [(0, .ref (ads o (95))), (1, .int (nI (b))), (2, .int (bI (on1))), (3, .int (nI (u)))] [] := by
                intro d_u
                induction d_u with
                | zero =>
                  intro u hi_L33_12 mi_L33_12 G1 on1 hf1 hG1 hI1 hon1 hof1
                  have he_L33_12 : n = u := by omega
                  subst he_L33_12
                  refine r_iload_n X 3 d_Mo_layGroups_33 rfl rfl ?_
                  refine r_aload_n X 0 d_Mo_layGroups_34 rfl rfl ?_
                  refine r_callV X (m_Mo_marks l o mi_L33_12 ml n (hn) (by omega)) ok_Mo_marks w_Mo_59 rfl b_95 e_95 rfl ⟨Nat.le_of_ble_eq_true rfl, Nat.le_of_ble_eq_true rfl⟩ (rest := [.int (nI (n))]) rfl (Nat.le_of_ble_eq_true rfl) d_Mo_layGroups_35 ?_
                  refine kD (st' := [.int (nI (n)), .int (nI (n))]) rfl ?_
                  refine r_icge X (tgt := 115) (c := n ≤ n) d_Mo_layGroups_38 (by decide) (nI_leI (by omega) (by omega)) (fun c_38 => ?_) (fun c_38 => ?_)
                  · -- taken
                    refine r_goto X (tgt := 25) d_Mo_layGroups_115 (by decide) ?_
                    refine V.wk [0, 1, 2] (V.eq (ih_L25_2 (i + 1) (trivial) (mi_L33_12) (G1) (on1) (hf1) (hG1) (hI1) (fun h => (hon1 h).2) (fun h => by have := hof1 h; have := hfu (by assumption); omega)) ?_ ?_ ?_ rfl) (rfl : lv_pick _ [0, 1, 2] = [(0, .ref (ads o (95))), (1, .int (nI (b))), (2, .int (bI (on1)))])
                    · rfl
                    · rfl
                    · rfl
                  · -- not taken
                    exact False.elim (by omega)
                | succ d_u ih_L33_12 =>
                  intro u hi_L33_12 mi_L33_12 G1 on1 hf1 hG1 hI1 hon1 hof1
                  have hlt_L33_12 : u < n := by omega
                  refine r_iload_n X 3 d_Mo_layGroups_33 rfl rfl ?_
                  refine r_aload_n X 0 d_Mo_layGroups_34 rfl rfl ?_
                  refine r_callV X (m_Mo_marks l o mi_L33_12 ml n (hn) (by omega)) ok_Mo_marks w_Mo_59 rfl b_95 e_95 rfl ⟨Nat.le_of_ble_eq_true rfl, Nat.le_of_ble_eq_true rfl⟩ (rest := [.int (nI (u))]) rfl (Nat.le_of_ble_eq_true rfl) d_Mo_layGroups_35 ?_
                  refine kD (st' := [.int (nI (n)), .int (nI (u))]) rfl ?_
                  refine r_icge X (tgt := 115) (c := n ≤ u) d_Mo_layGroups_38 (by decide) (nI_leI (by omega) (by omega)) (fun c_38_13 => ?_) (fun c_38_13 => ?_)
                  · -- taken
                    exact False.elim (by omega)
                  · -- not taken
                    refine r_iconst X (v := nI (0)) d_Mo_layGroups_41 (by decide) ?_
                    refine r_istore X [(4, .int (nI (0))), (0, .ref (ads o (95))), (1, .int (nI (b))), (2, .int (bI (on1))), (3, .int (nI (u)))] d_Mo_layGroups_42 (Nat.le_of_ble_eq_true rfl) rfl ?_
                    have L44_14 : ∀ (d_w w : Nat), w + d_w = n → ∀ (mi_L44_14 : MI), ∀ (G2 : Nat → Nat), ∀ (on2 : Bool), (∀ t, t ≠ 109 → mi_L44_14 t = mi t) → (∀ k, k < n → mi_L44_14 109 k = nI (G2 k)) → (Lv1 (oM ml) n b G2) → (on2 = false → (∀ k, G2 k = G k) ∧ (∀ j k, j < u → k < n → Rb (oM ml) b j k → G2 k ≤ G2 j) ∧ ∀ k, k < w → Rb (oM ml) b u k → G2 k ≤ G2 u) → (on2 = true → sm G2 n < sm G n) → V γ o 5 mi_L44_14 ml 44 [(0, .ref (ads o (95))), (1, .int (nI (b))), (2, .int (bI (on2))), (3, .int (nI (u))), (4, .int (nI (w)))] [] := by
                      intro d_w
                      induction d_w with
                      | zero =>
                        intro w hi_L44_14 mi_L44_14 G2 on2 hf2 hG2 hI2 hon2 hof2
                        have he_L44_14 : n = w := by omega
                        subst he_L44_14
                        refine r_iload X 4 d_Mo_layGroups_44 rfl ?_
                        refine r_aload_n X 0 d_Mo_layGroups_46 rfl rfl ?_
                        refine r_callV X (m_Mo_marks l o mi_L44_14 ml n (hn) (by omega)) ok_Mo_marks w_Mo_59 rfl b_95 e_95 rfl ⟨Nat.le_of_ble_eq_true rfl, Nat.le_of_ble_eq_true rfl⟩ (rest := [.int (nI (n))]) rfl (Nat.le_of_ble_eq_true rfl) d_Mo_layGroups_47 ?_
                        refine kD (st' := [.int (nI (n)), .int (nI (n))]) rfl ?_
                        refine r_icge X (tgt := 109) (c := n ≤ n) d_Mo_layGroups_50 (by decide) (nI_leI (by omega) (by omega)) (fun c_50 => ?_) (fun c_50 => ?_)
                        · -- taken
                          refine r_iinc X 3 (v := nI (u + 1)) [(3, .int (nI (u + 1))), (0, .ref (ads o (95))), (1, .int (nI (b))), (2, .int (bI (on2))), (4, .int (nI (n)))] d_Mo_layGroups_109 rfl (nI_add _ 1) (Nat.le_of_ble_eq_true rfl) rfl ?_
                          refine r_goto X (tgt := 33) d_Mo_layGroups_112 (by decide) ?_
                          refine V.wk [1, 2, 3, 0] (V.eq (ih_L33_12 (u + 1) (by omega) (mi_L44_14) (G2) (on2) (hf2) (hG2) (hI2) (fun h => ⟨(hon2 h).1, fun j k hj hk hr => by
              rcases Nat.lt_or_ge j u with hju | hju
              · exact (hon2 h).2.1 j k hju hk hr
              · rw [show j = u by omega] at hr ⊢; exact (hon2 h).2.2 k hk hr⟩) (hof2)) ?_ ?_ ?_ rfl) (rfl : lv_pick _ [1, 2, 3, 0] = [(0, .ref (ads o (95))), (1, .int (nI (b))), (2, .int (bI (on2))), (3, .int (nI (u + 1)))])
                          · rfl
                          · rfl
                          · rfl
                        · -- not taken
                          exact False.elim (by omega)
                      | succ d_w ih_L44_14 =>
                        intro w hi_L44_14 mi_L44_14 G2 on2 hf2 hG2 hI2 hon2 hof2
                        have hlt_L44_14 : w < n := by omega
                        have hgu := (hI2 u (by omega)).1
                        have hgw := (hI2 w (by omega)).1
                        refine r_iload X 4 d_Mo_layGroups_44 rfl ?_
                        refine r_aload_n X 0 d_Mo_layGroups_46 rfl rfl ?_
                        refine r_callV X (m_Mo_marks l o mi_L44_14 ml n (hn) (by omega)) ok_Mo_marks w_Mo_59 rfl b_95 e_95 rfl ⟨Nat.le_of_ble_eq_true rfl, Nat.le_of_ble_eq_true rfl⟩ (rest := [.int (nI (w))]) rfl (Nat.le_of_ble_eq_true rfl) d_Mo_layGroups_47 ?_
                        refine kD (st' := [.int (nI (n)), .int (nI (w))]) rfl ?_
                        refine r_icge X (tgt := 109) (c := n ≤ w) d_Mo_layGroups_50 (by decide) (nI_leI (by omega) (by omega)) (fun c_50_15 => ?_) (fun c_50_15 => ?_)
                        · -- taken
                          exact False.elim (by omega)
                        · -- not taken
                          refine r_aload_n X 0 d_Mo_layGroups_53 rfl rfl ?_
                          refine r_get X f_Mo_51 b_95 e_95 (v := .ref (ads o (109))) rfl d_Mo_layGroups_54 ?_
                          refine r_iload_n X 3 d_Mo_layGroups_57 rfl rfl ?_
                          refine r_iald X (v := nI (G2 u)) b_109 e_109 (Nat.le_of_ble_eq_true rfl) (by omega) (hG2 u (by omega)) d_Mo_layGroups_58 ?_
                          refine r_aload_n X 0 d_Mo_layGroups_59 rfl rfl ?_
                          refine r_get X f_Mo_51 b_95 e_95 (v := .ref (ads o (109))) rfl d_Mo_layGroups_60 ?_
                          refine r_iload X 4 d_Mo_layGroups_63 rfl ?_
                          refine r_iald X (v := nI (G2 w)) b_109 e_109 (Nat.le_of_ble_eq_true rfl) (by omega) (hG2 w (by omega)) d_Mo_layGroups_65 ?_
                          refine r_icge X (tgt := 103) (c := (G2 w) ≤ (G2 u)) d_Mo_layGroups_66 (by decide) (nI_leI (by omega) (by omega)) (fun c_66 => ?_) (fun c_66 => ?_)
                          · -- taken
                            refine r_iinc X 4 (v := nI (w + 1)) [(4, .int (nI (w + 1))), (0, .ref (ads o (95))), (1, .int (nI (b))), (2, .int (bI (on2))), (3, .int (nI (u)))] d_Mo_layGroups_103 rfl (nI_add _ 1) (Nat.le_of_ble_eq_true rfl) rfl ?_
                            refine r_goto X (tgt := 44) d_Mo_layGroups_106 (by decide) ?_
                            refine V.wk [1, 2, 3, 4, 0] (V.eq (ih_L44_14 (w + 1) (by omega) (mi_L44_14) (G2) (on2) (hf2) (hG2) (hI2) (fun h => ⟨(hon2 h).1, (hon2 h).2.1, fun k hk hr => by
                rcases Nat.lt_or_ge k w with hkw | hkw
                · exact (hon2 h).2.2 k hkw hr
                · rw [show k = w by omega] at hr ⊢; unfold Rb ds at hr; omega⟩) (hof2)) ?_ ?_ ?_ rfl) (rfl : lv_pick _ [1, 2, 3, 4, 0] = [(0, .ref (ads o (95))), (1, .int (nI (b))), (2, .int (bI (on2))), (3, .int (nI (u))), (4, .int (nI (w + 1)))])
                            · rfl
                            · rfl
                            · rfl
                          · -- not taken
                            refine r_aload_n X 0 d_Mo_layGroups_69 rfl rfl ?_
                            refine r_iload_n X 3 d_Mo_layGroups_70 rfl rfl ?_
                            refine r_callV X (m_Mo_own l o mi_L44_14 ml u (by omega)) ok_Mo_own w_Mo_67 rfl b_95 e_95 rfl ⟨Nat.le_of_ble_eq_true rfl, Nat.le_of_ble_eq_true rfl⟩ (rest := []) rfl (Nat.le_of_ble_eq_true rfl) d_Mo_layGroups_71 ?_
                            refine kD (st' := [.long (oM ml u)]) rfl ?_
                            refine r_aload_n X 0 d_Mo_layGroups_74 rfl rfl ?_
                            refine r_iload X 4 d_Mo_layGroups_75 rfl ?_
                            refine r_callV X (m_Mo_own l o mi_L44_14 ml w (by omega)) ok_Mo_own w_Mo_67 rfl b_95 e_95 rfl ⟨Nat.le_of_ble_eq_true rfl, Nat.le_of_ble_eq_true rfl⟩ (rest := [.long (oM ml u)]) rfl (Nat.le_of_ble_eq_true rfl) d_Mo_layGroups_77 ?_
                            refine kD (st' := [.long (oM ml w), .long (oM ml u)]) rfl ?_
                            refine r_lxor X (v := (oM ml u) ^^^ (oM ml w)) d_Mo_layGroups_80 (rfl) ?_
                            refine r_callS X (m_Mo_ones l o mi_L44_14 ml ((oM ml u) ^^^ (oM ml w))) ok_Mo_ones w_Mo_71 rfl ⟨Nat.le_of_ble_eq_true rfl, Nat.le_of_ble_eq_true rfl⟩ (rest := []) rfl (Nat.le_of_ble_eq_true rfl) d_Mo_layGroups_81 ?_
                            refine kD (st' := [.int (nI (pop ((oM ml u) ^^^ (oM ml w))))]) rfl ?_
                            refine r_iload_n X 1 d_Mo_layGroups_84 rfl rfl ?_
                            refine r_icgt X (tgt := 103) (c := b < (pop ((oM ml u) ^^^ (oM ml w)))) d_Mo_layGroups_85 (by decide) (nI_ltI (by omega) (pop_lt _)) (fun c_85 => ?_) (fun c_85 => ?_)
                            · -- taken
                              refine r_iinc X 4 (v := nI (w + 1)) [(4, .int (nI (w + 1))), (0, .ref (ads o (95))), (1, .int (nI (b))), (2, .int (bI (on2))), (3, .int (nI (u)))] d_Mo_layGroups_103 rfl (nI_add _ 1) (Nat.le_of_ble_eq_true rfl) rfl ?_
                              refine r_goto X (tgt := 44) d_Mo_layGroups_106 (by decide) ?_
                              refine V.wk [1, 2, 3, 4, 0] (V.eq (ih_L44_14 (w + 1) (by omega) (mi_L44_14) (G2) (on2) (hf2) (hG2) (hI2) (fun h => ⟨(hon2 h).1, (hon2 h).2.1, fun k hk hr => by
                rcases Nat.lt_or_ge k w with hkw | hkw
                · exact (hon2 h).2.2 k hkw hr
                · rw [show k = w by omega] at hr ⊢; unfold Rb ds at hr; omega⟩) (hof2)) ?_ ?_ ?_ rfl) (rfl : lv_pick _ [1, 2, 3, 4, 0] = [(0, .ref (ads o (95))), (1, .int (nI (b))), (2, .int (bI (on2))), (3, .int (nI (u))), (4, .int (nI (w + 1)))])
                              · rfl
                              · rfl
                              · rfl
                            · -- not taken
                              refine r_aload_n X 0 d_Mo_layGroups_88 rfl rfl ?_
                              refine r_get X f_Mo_51 b_95 e_95 (v := .ref (ads o (109))) rfl d_Mo_layGroups_89 ?_
                              refine r_iload X 4 d_Mo_layGroups_92 rfl ?_
                              refine r_aload_n X 0 d_Mo_layGroups_94 rfl rfl ?_
                              refine r_get X f_Mo_51 b_95 e_95 (v := .ref (ads o (109))) rfl d_Mo_layGroups_95 ?_
                              refine r_iload_n X 3 d_Mo_layGroups_98 rfl rfl ?_
                              refine r_iald X (v := nI (G2 u)) b_109 e_109 (Nat.le_of_ble_eq_true rfl) (by omega) (hG2 u (by omega)) d_Mo_layGroups_99 ?_
                              refine r_iast X b_109 e_109 (Nat.le_of_ble_eq_true rfl) (by omega) d_Mo_layGroups_100 ?_
                              refine r_iconst X (v := nI (1)) d_Mo_layGroups_101 (by decide) ?_
                              refine r_istore_n X [(2, .int (nI (1))), (0, .ref (ads o (95))), (1, .int (nI (b))), (3, .int (nI (u))), (4, .int (nI (w)))] d_Mo_layGroups_102 rfl (Nat.le_of_ble_eq_true rfl) rfl ?_
                              refine r_iinc X 4 (v := nI (w + 1)) [(4, .int (nI (w + 1))), (2, .int (nI (1))), (0, .ref (ads o (95))), (1, .int (nI (b))), (3, .int (nI (u)))] d_Mo_layGroups_103 rfl (nI_add _ 1) (Nat.le_of_ble_eq_true rfl) rfl ?_
                              refine r_goto X (tgt := 44) d_Mo_layGroups_106 (by decide) ?_
                              refine V.wk [2, 3, 1, 4, 0] (V.eq (ih_L44_14 (w + 1) (by omega) ((u2 mi_L44_14 109 w (nI (G2 u)))) (uf G2 w (G2 u)) (true) (fun t ht => by rw [u2_n _ _ _ ht]; exact hf2 t ht) (lab_step hG2) (hI2.set (by omega) (by omega) (by omega) (by unfold Rb ds; omega)) (fun h => by cases h) (fun _ => by have h1 := sm_uf G2 (G2 u) (i := w) (n := n) (by omega); have h2 := sm_le (G := G) hof2 (fun h => (hon2 h).1); omega)) ?_ ?_ ?_ rfl) (rfl : lv_pick _ [2, 3, 1, 4, 0] = [(0, .ref (ads o (95))), (1, .int (nI (b))), (2, .int (nI (1))), (3, .int (nI (u))), (4, .int (nI (w + 1)))])
                              · rfl
                              · rfl
                              · rfl
                    refine V.wk [1, 2, 3, 4, 0] (V.eq (L44_14 (n - 0) 0 (by omega) (mi_L33_12) (G1) (on1) (hf1) (hG1) (hI1) (fun h => ⟨(hon1 h).1, (hon1 h).2, fun k hk _ => absurd hk (by omega)⟩) (hof1)) ?_ ?_ ?_ rfl) (rfl : lv_pick _ [1, 2, 3, 4, 0] = [(0, .ref (ads o (95))), (1, .int (nI (b))), (2, .int (bI (on1))), (3, .int (nI (u))), (4, .int (nI (0)))])
                    · rfl
                    · rfl
                    · rfl
              refine V.wk [2, 3, 1, 0] (V.eq (L33_12 (n - 0) 0 (by omega) (mi_L25_2) (G) (false) (hf) (hG) (hI) (fun _ => ⟨fun _ => rfl, fun j k hj _ _ => absurd hj (by omega)⟩) (fun h => by cases h)) ?_ ?_ ?_ rfl) (rfl : lv_pick _ [2, 3, 1, 0] = [(0, .ref (ads o (95))), (1, .int (nI (b))), (2, .int (nI (0))), (3, .int (nI (0)))])
              · rfl
              · rfl
              · rfl
        refine V.wk [1, 2, 0] (V.eq (L25_2 (sm (fun k => k) n + 1) 0 (trivial) (mi_L2_1) (fun k => k) (true) (hf0) (hz0) (fun k hk => ⟨Nat.le_refl k, Cn.rf⟩) (fun h => by cases h) (fun _ => Nat.lt_succ_self _)) ?_ ?_ ?_ rfl) (rfl : lv_pick _ [1, 2, 0] = [(0, .ref (ads o (95))), (1, .int (nI (b))), (2, .int (nI (1)))])
        · rfl
        · rfl
        · rfl
      · -- not taken
        exact False.elim (by omega)
    | succ d_i ih_L2_1 =>
      intro i hi_L2_1 mi_L2_1 hf0 hz0
      have hlt_L2_1 : i < n := by omega
      refine r_iload_n X 2 d_Mo_layGroups_2 rfl rfl ?_
      refine r_aload_n X 0 d_Mo_layGroups_3 rfl rfl ?_
      refine r_callV X (m_Mo_marks l o mi_L2_1 ml n (hn) (by omega)) ok_Mo_marks w_Mo_59 rfl b_95 e_95 rfl ⟨Nat.le_of_ble_eq_true rfl, Nat.le_of_ble_eq_true rfl⟩ (rest := [.int (nI (i))]) rfl (Nat.le_of_ble_eq_true rfl) d_Mo_layGroups_4 ?_
      refine kD (st' := [.int (nI (n)), .int (nI (i))]) rfl ?_
      refine r_icge X (tgt := 23) (c := n ≤ i) d_Mo_layGroups_7 (by decide) (nI_leI (by omega) (by omega)) (fun c_7_16 => ?_) (fun c_7_16 => ?_)
      · -- taken
        exact False.elim (by omega)
      · -- not taken
        refine r_aload_n X 0 d_Mo_layGroups_10 rfl rfl ?_
        refine r_get X f_Mo_51 b_95 e_95 (v := .ref (ads o (109))) rfl d_Mo_layGroups_11 ?_
        refine r_iload_n X 2 d_Mo_layGroups_14 rfl rfl ?_
        refine r_iload_n X 2 d_Mo_layGroups_15 rfl rfl ?_
        refine r_iast X b_109 e_109 (Nat.le_of_ble_eq_true rfl) (by omega) d_Mo_layGroups_16 ?_
        refine r_iinc X 2 (v := nI (i + 1)) [(2, .int (nI (i + 1))), (0, .ref (ads o (95))), (1, .int (nI (b)))] d_Mo_layGroups_17 rfl (nI_add _ 1) (Nat.le_of_ble_eq_true rfl) rfl ?_
        refine r_goto X (tgt := 2) d_Mo_layGroups_20 (by decide) ?_
        refine V.wk [1, 2, 0] (V.eq (ih_L2_1 (i + 1) (by omega) ((u2 mi_L2_1 109 i (nI (i)))) (fun t ht => by rw [u2_n _ _ _ ht]; exact hf0 t ht) (id_step hz0)) ?_ ?_ ?_ rfl) (rfl : lv_pick _ [1, 2, 0] = [(0, .ref (ads o (95))), (1, .int (nI (b))), (2, .int (nI (i + 1)))])
        · rfl
        · rfl
        · first | rfl | (simp_all [ct, lastB, alB, fromB]; done)
  refine V.wk [1, 2, 0] (V.eq (L2_1 (n - 0) 0 (by omega) (mi) (fun _ _ => rfl) (fun k hk => absurd hk (by omega))) ?_ ?_ ?_ rfl) (rfl : lv_pick _ [1, 2, 0] = [(0, .ref (ads o (95))), (1, .int (nI (b))), (2, .int (nI (0)))])
  · rfl
  · rfl
  · rfl

set_option maxHeartbeats 4000000 in
set_option maxRecDepth 100000 in
theorem m_Mo_leastOf (l : Launch) (o : OM) (mi : MI) (ml : ML) (x : Nat) (n : Nat) (G : Nat → Nat) (hn40 : n ≤ 40) (hG : ∀ k, k < n → mi 109 k = nI (G k)) (hGk : ∀ k, k < n → G k ≤ k) (hx : x < ct (fun k => decide (G k = k)) n) : ConD l y_Mo_leastOf c_Mo_leastOf 4 (some .int) 0 0 o [.ref (ads o (95)), .int (nI (x))] mi ml (some (.int (nI (kthP (fun k => decide (G k = k)) n x)))) mi ml := by
  refine Con.mk (by decide) (Nat.le_of_ble_eq_true rfl) (fun γ X => ?_)
  obtain ⟨hB64, hBb, hBp⟩ := kthP_spec hx
  have hct := ct_le (fun k => decide (G k = k)) n
  simp only [decide_eq_true_eq] at hBb
  show V γ o 4 mi ml 0 [(0, .ref (ads o (95))), (1, .int (nI (x)))] []
  refine r_iload_n X 1 d_Mo_leastOf_0 rfl rfl ?_
  refine r_istore_n X [(2, .int (nI (x))), (0, .ref (ads o (95))), (1, .int (nI (x)))] d_Mo_leastOf_1 rfl (Nat.le_of_ble_eq_true rfl) rfl ?_
  refine r_iconst X (v := nI (0)) d_Mo_leastOf_2 (by decide) ?_
  refine r_istore_n X [(3, .int (nI (0))), (2, .int (nI (x))), (0, .ref (ads o (95))), (1, .int (nI (x)))] d_Mo_leastOf_3 rfl (Nat.le_of_ble_eq_true rfl) rfl ?_
  have L4_1 : ∀ (d_i i : Nat), i + d_i = kthP (fun k => decide (G k = k)) n x → V γ o 4 mi ml 4 [(0, .ref (ads o (95))), (1, .int (nI (x))), (2, .int (nI (x - ct (fun k => decide (G k = k)) (i)))), (3, .int (nI (i)))] [] := by
    intro d_i
    induction d_i with
    | zero =>
      intro i hi_L4_1 
      have he_L4_1 : kthP (fun k => decide (G k = k)) n x = i := by omega
      subst he_L4_1
      refine r_aload_n X 0 d_Mo_leastOf_4 rfl rfl ?_
      refine r_get X f_Mo_51 b_95 e_95 (v := .ref (ads o (109))) rfl d_Mo_leastOf_5 ?_
      refine r_iload_n X 3 d_Mo_leastOf_8 rfl rfl ?_
      refine r_iald X (v := nI (G (kthP (fun k => decide (G k = k)) n x))) b_109 e_109 (Nat.le_of_ble_eq_true rfl) (by omega) (hG (kthP (fun k => decide (G k = k)) n x) (by omega)) d_Mo_leastOf_9 ?_
      refine r_iload_n X 3 d_Mo_leastOf_10 rfl rfl ?_
      refine r_icneP X (tgt := 18) (c := (G (kthP (fun k => decide (G k = k)) n x)) = (kthP (fun k => decide (G k = k)) n x)) d_Mo_leastOf_11 (by decide) (nI_eq (Nat.lt_of_le_of_lt (hGk (kthP (fun k => decide (G k = k)) n x) (by omega)) (by omega)) (by omega)) (fun c_11 => ?_) (fun c_11 => ?_)
      · -- taken
        exact False.elim (by exact absurd hBb c_11)
      · -- not taken
        refine r_iload_n X 2 d_Mo_leastOf_14 rfl rfl ?_
        refine r_ifle X (tgt := 42) (c := (x - ct (fun k => decide (G k = k)) (kthP (fun k => decide (G k = k)) n x)) ≤ 0) d_Mo_leastOf_15 (by decide) ((by rw [← nI_0] <;> exact nI_leI (by omega) (Nat.le_of_ble_eq_true rfl))) (fun c_15 => ?_) (fun c_15 => ?_)
        · -- taken
          refine r_iload_n X 3 d_Mo_leastOf_42 rfl rfl ?_
          refine r_end_i X d_Mo_leastOf_43 ?_
          first | exact ⟨rfl, rfl, rfl⟩ | (refine ⟨?_, rfl, rfl⟩; simp_all)
        · -- not taken
          exact False.elim (by omega)
    | succ d_i ih_L4_1 =>
      intro i hi_L4_1 
      have hlt_L4_1 : i < kthP (fun k => decide (G k = k)) n x := by omega
      have hk := ct_mono (fun k => decide (G k = k)) (show i + 1 ≤ kthP (fun k => decide (G k = k)) n x from hlt_L4_1)
      have hk : ct (fun k => decide (G k = k)) i + (decide (G i = i)).toNat ≤ ct (fun k => decide (G k = k)) (kthP (fun k => decide (G k = k)) n x) := hk
      refine r_aload_n X 0 d_Mo_leastOf_4 rfl rfl ?_
      refine r_get X f_Mo_51 b_95 e_95 (v := .ref (ads o (109))) rfl d_Mo_leastOf_5 ?_
      refine r_iload_n X 3 d_Mo_leastOf_8 rfl rfl ?_
      refine r_iald X (v := nI (G i)) b_109 e_109 (Nat.le_of_ble_eq_true rfl) (by omega) (hG i (by omega)) d_Mo_leastOf_9 ?_
      refine r_iload_n X 3 d_Mo_leastOf_10 rfl rfl ?_
      refine r_icneP X (tgt := 18) (c := (G i) = i) d_Mo_leastOf_11 (by decide) (nI_eq (Nat.lt_of_le_of_lt (hGk i (by omega)) (by omega)) (by omega)) (fun c_11_2 => ?_) (fun c_11_2 => ?_)
      · -- taken
        refine r_iload_n X 2 d_Mo_leastOf_18 rfl rfl ?_
        refine r_aload_n X 0 d_Mo_leastOf_19 rfl rfl ?_
        refine r_get X f_Mo_51 b_95 e_95 (v := .ref (ads o (109))) rfl d_Mo_leastOf_20 ?_
        refine r_iload_n X 3 d_Mo_leastOf_23 rfl rfl ?_
        refine r_iald X (v := nI (G i)) b_109 e_109 (Nat.le_of_ble_eq_true rfl) (by omega) (hG i (by omega)) d_Mo_leastOf_24 ?_
        refine r_iload_n X 3 d_Mo_leastOf_25 rfl rfl ?_
        have hJ_3 : V γ o 4 mi ml 34 [(0, .ref (ads o (95))), (1, .int (nI (x))), (2, .int (nI (x - ct (fun k => decide (G k = k)) (i)))), (3, .int (nI (i)))] [.int (bI (decide ((G i) = i))), .int (nI (x - ct (fun k => decide (G k = k)) (i)))] := by
          refine r_isub X (v := nI (x - ct (fun k => decide (G k = k)) (i) - (decide ((G i) = i)).toNat)) d_Mo_leastOf_34 (bI_sub (by omega)) ?_
          refine r_istore_n X [(2, .int (nI (x - ct (fun k => decide (G k = k)) (i) - (decide ((G i) = i)).toNat))), (0, .ref (ads o (95))), (1, .int (nI (x))), (3, .int (nI (i)))] d_Mo_leastOf_35 rfl (Nat.le_of_ble_eq_true rfl) rfl ?_
          refine r_iinc X 3 (v := nI (i + 1)) [(3, .int (nI (i + 1))), (2, .int (nI (x - ct (fun k => decide (G k = k)) (i) - (decide ((G i) = i)).toNat))), (0, .ref (ads o (95))), (1, .int (nI (x)))] d_Mo_leastOf_36 rfl (nI_add _ 1) (Nat.le_of_ble_eq_true rfl) rfl ?_
          refine r_goto X (tgt := 4) d_Mo_leastOf_39 (by decide) ?_
          refine V.wk [2, 3, 1, 0] (V.eq (ih_L4_1 (i + 1) (by omega) ) ?_ ?_ ?_ rfl) (rfl : lv_pick _ [2, 3, 1, 0] = [(0, .ref (ads o (95))), (1, .int (nI (x))), (2, .int (nI (x - ct (fun k => decide (G k = k)) (i) - (decide ((G i) = i)).toNat))), (3, .int (nI (i + 1)))])
          · rfl
          · rfl
          · simp only [ct, Nat.sub_sub]
        refine r_icneP X (tgt := 33) (c := (G i) = i) d_Mo_leastOf_26 (by decide) (nI_eq (Nat.lt_of_le_of_lt (hGk i (by omega)) (by omega)) (by omega)) (fun c_26 => ?_) (fun c_26 => ?_)
        · -- taken
          refine r_iconst X (v := nI (0)) d_Mo_leastOf_33 (by decide) ?_
          exact V.eq hJ_3 rfl rfl rfl (by rw [show (decide ((G i) = i)) = false from by first | (simp only [eq_false c_26, decide_true, decide_false, Bool.not_true, Bool.not_false, Bool.true_and, Bool.false_and, Bool.and_true, Bool.and_false, Bool.true_or, Bool.false_or, Bool.or_true, Bool.or_false, if_true, if_false, ite_true, ite_false, cond_true, cond_false, Bool.false_eq_true, reduceIte]; done) | (simp [c_26]; done) | (simp_all; done)]; rfl)
        · -- not taken
          refine r_iconst X (v := nI (1)) d_Mo_leastOf_29 (by decide) ?_
          refine r_goto X (tgt := 34) d_Mo_leastOf_30 (by decide) ?_
          exact V.eq hJ_3 rfl rfl rfl (by rw [show (decide ((G i) = i)) = true from by first | (simp only [eq_true c_26, decide_true, decide_false, Bool.not_true, Bool.not_false, Bool.true_and, Bool.false_and, Bool.and_true, Bool.and_false, Bool.true_or, Bool.false_or, Bool.or_true, Bool.or_false, if_true, if_false, ite_true, ite_false, cond_true, cond_false, Bool.false_eq_true, reduceIte]; done) | (simp [c_26]; done) | (simp_all; done)]; rfl)
      · -- not taken
        refine r_iload_n X 2 d_Mo_leastOf_14 rfl rfl ?_
        refine r_ifle X (tgt := 42) (c := (x - ct (fun k => decide (G k = k)) (i)) ≤ 0) d_Mo_leastOf_15 (by decide) ((by rw [← nI_0] <;> exact nI_leI (by omega) (Nat.le_of_ble_eq_true rfl))) (fun c_15_4 => ?_) (fun c_15_4 => ?_)
        · -- taken
          exact False.elim (by have e : (decide (G i = i)).toNat = 1 := (by simp_all); omega)
        · -- not taken
          refine r_iload_n X 2 d_Mo_leastOf_18 rfl rfl ?_
          refine r_aload_n X 0 d_Mo_leastOf_19 rfl rfl ?_
          refine r_get X f_Mo_51 b_95 e_95 (v := .ref (ads o (109))) rfl d_Mo_leastOf_20 ?_
          refine r_iload_n X 3 d_Mo_leastOf_23 rfl rfl ?_
          refine r_iald X (v := nI (G i)) b_109 e_109 (Nat.le_of_ble_eq_true rfl) (by omega) (hG i (by omega)) d_Mo_leastOf_24 ?_
          refine r_iload_n X 3 d_Mo_leastOf_25 rfl rfl ?_
          have hJ_5 : V γ o 4 mi ml 34 [(0, .ref (ads o (95))), (1, .int (nI (x))), (2, .int (nI (x - ct (fun k => decide (G k = k)) (i)))), (3, .int (nI (i)))] [.int (bI (decide ((G i) = i))), .int (nI (x - ct (fun k => decide (G k = k)) (i)))] := by
            refine r_isub X (v := nI (x - ct (fun k => decide (G k = k)) (i) - (decide ((G i) = i)).toNat)) d_Mo_leastOf_34 (bI_sub (by omega)) ?_
            refine r_istore_n X [(2, .int (nI (x - ct (fun k => decide (G k = k)) (i) - (decide ((G i) = i)).toNat))), (0, .ref (ads o (95))), (1, .int (nI (x))), (3, .int (nI (i)))] d_Mo_leastOf_35 rfl (Nat.le_of_ble_eq_true rfl) rfl ?_
            refine r_iinc X 3 (v := nI (i + 1)) [(3, .int (nI (i + 1))), (2, .int (nI (x - ct (fun k => decide (G k = k)) (i) - (decide ((G i) = i)).toNat))), (0, .ref (ads o (95))), (1, .int (nI (x)))] d_Mo_leastOf_36 rfl (nI_add _ 1) (Nat.le_of_ble_eq_true rfl) rfl ?_
            refine r_goto X (tgt := 4) d_Mo_leastOf_39 (by decide) ?_
            refine V.wk [2, 3, 1, 0] (V.eq (ih_L4_1 (i + 1) (by omega) ) ?_ ?_ ?_ rfl) (rfl : lv_pick _ [2, 3, 1, 0] = [(0, .ref (ads o (95))), (1, .int (nI (x))), (2, .int (nI (x - ct (fun k => decide (G k = k)) (i) - (decide ((G i) = i)).toNat))), (3, .int (nI (i + 1)))])
            · rfl
            · rfl
            · simp only [ct, Nat.sub_sub]
          refine r_icneP X (tgt := 33) (c := (G i) = i) d_Mo_leastOf_26 (by decide) (nI_eq (Nat.lt_of_le_of_lt (hGk i (by omega)) (by omega)) (by omega)) (fun c_26_6 => ?_) (fun c_26_6 => ?_)
          · -- taken
            refine r_iconst X (v := nI (0)) d_Mo_leastOf_33 (by decide) ?_
            exact V.eq hJ_5 rfl rfl rfl (by rw [show (decide ((G i) = i)) = false from by first | (simp only [eq_false c_26_6, decide_true, decide_false, Bool.not_true, Bool.not_false, Bool.true_and, Bool.false_and, Bool.and_true, Bool.and_false, Bool.true_or, Bool.false_or, Bool.or_true, Bool.or_false, if_true, if_false, ite_true, ite_false, cond_true, cond_false, Bool.false_eq_true, reduceIte]; done) | (simp [c_26_6]; done) | (simp_all; done)]; rfl)
          · -- not taken
            refine r_iconst X (v := nI (1)) d_Mo_leastOf_29 (by decide) ?_
            refine r_goto X (tgt := 34) d_Mo_leastOf_30 (by decide) ?_
            exact V.eq hJ_5 rfl rfl rfl (by rw [show (decide ((G i) = i)) = true from by first | (simp only [eq_true c_26_6, decide_true, decide_false, Bool.not_true, Bool.not_false, Bool.true_and, Bool.false_and, Bool.and_true, Bool.and_false, Bool.true_or, Bool.false_or, Bool.or_true, Bool.or_false, if_true, if_false, ite_true, ite_false, cond_true, cond_false, Bool.false_eq_true, reduceIte]; done) | (simp [c_26_6]; done) | (simp_all; done)]; rfl)
  refine V.wk [2, 3, 1, 0] (V.eq (L4_1 ((kthP (fun k => decide (G k = k)) n x) - 0) 0 (by omega) ) ?_ ?_ ?_ rfl) (rfl : lv_pick _ [2, 3, 1, 0] = [(0, .ref (ads o (95))), (1, .int (nI (x))), (2, .int (nI (x))), (3, .int (nI (0)))])
  · rfl
  · rfl
  · rfl

set_option maxHeartbeats 4000000 in
set_option maxRecDepth 100000 in
theorem m_Mo_manyOf (l : Launch) (o : OM) (mi : MI) (ml : ML) (r : Nat) (n : Nat) (G : Nat → Nat) (hn : ml 96 2 = lN n) (hn40 : n ≤ 40) (hG : ∀ k, k < n → mi 109 k = nI (G k)) (hGk : ∀ k, k < n → G k ≤ k) (hr : r < 40) : ConD l y_Mo_manyOf c_Mo_manyOf 4 (some .int) 1 20 o [.ref (ads o (95)), .int (nI (r))] mi ml (some (.int (nI (ct (fun k => decide (G k = r)) n)))) mi ml := by
  refine Con.mk (by decide) (Nat.le_of_ble_eq_true rfl) (fun γ X => ?_)
  show V γ o 4 mi ml 0 [(0, .ref (ads o (95))), (1, .int (nI (r)))] []
  refine r_iconst X (v := nI (0)) d_Mo_manyOf_0 (by decide) ?_
  refine r_istore_n X [(2, .int (nI (0))), (0, .ref (ads o (95))), (1, .int (nI (r)))] d_Mo_manyOf_1 rfl (Nat.le_of_ble_eq_true rfl) rfl ?_
  refine r_iconst X (v := nI (0)) d_Mo_manyOf_2 (by decide) ?_
  refine r_istore_n X [(3, .int (nI (0))), (2, .int (nI (0))), (0, .ref (ads o (95))), (1, .int (nI (r)))] d_Mo_manyOf_3 rfl (Nat.le_of_ble_eq_true rfl) rfl ?_
  have L4_1 : ∀ (d_i i : Nat), i + d_i = n → V γ o 4 mi ml 4 [(0, .ref (ads o (95))), (1, .int (nI (r))), (2, .int (nI (ct (fun k => decide (G k = r)) (i)))), (3, .int (nI (i)))] [] := by
    intro d_i
    induction d_i with
    | zero =>
      intro i hi_L4_1 
      have he_L4_1 : n = i := by omega
      subst he_L4_1
      refine r_iload_n X 3 d_Mo_manyOf_4 rfl rfl ?_
      refine r_aload_n X 0 d_Mo_manyOf_5 rfl rfl ?_
      refine r_callV X (m_Mo_marks l o mi ml n (hn) hn40) ok_Mo_marks w_Mo_59 rfl b_95 e_95 rfl ⟨Nat.le_of_ble_eq_true rfl, Nat.le_of_ble_eq_true rfl⟩ (rest := [.int (nI (n))]) rfl (Nat.le_of_ble_eq_true rfl) d_Mo_manyOf_6 ?_
      refine kD (st' := [.int (nI (n)), .int (nI (n))]) rfl ?_
      refine r_icge X (tgt := 36) (c := n ≤ n) d_Mo_manyOf_9 (by decide) (nI_leI (by omega) (by omega)) (fun c_9 => ?_) (fun c_9 => ?_)
      · -- taken
        refine r_iload_n X 2 d_Mo_manyOf_36 rfl rfl ?_
        refine r_end_i X d_Mo_manyOf_37 ?_
        first | exact ⟨rfl, rfl, rfl⟩ | (refine ⟨?_, rfl, rfl⟩; simp_all)
      · -- not taken
        exact False.elim (by omega)
    | succ d_i ih_L4_1 =>
      intro i hi_L4_1 
      have hlt_L4_1 : i < n := by omega
      refine r_iload_n X 3 d_Mo_manyOf_4 rfl rfl ?_
      refine r_aload_n X 0 d_Mo_manyOf_5 rfl rfl ?_
      refine r_callV X (m_Mo_marks l o mi ml n (hn) hn40) ok_Mo_marks w_Mo_59 rfl b_95 e_95 rfl ⟨Nat.le_of_ble_eq_true rfl, Nat.le_of_ble_eq_true rfl⟩ (rest := [.int (nI (i))]) rfl (Nat.le_of_ble_eq_true rfl) d_Mo_manyOf_6 ?_
      refine kD (st' := [.int (nI (n)), .int (nI (i))]) rfl ?_
      refine r_icge X (tgt := 36) (c := n ≤ i) d_Mo_manyOf_9 (by decide) (nI_leI (by omega) (by omega)) (fun c_9_2 => ?_) (fun c_9_2 => ?_)
      · -- taken
        exact False.elim (by omega)
      · -- not taken
        refine r_iload_n X 2 d_Mo_manyOf_12 rfl rfl ?_
        refine r_aload_n X 0 d_Mo_manyOf_13 rfl rfl ?_
        refine r_get X f_Mo_51 b_95 e_95 (v := .ref (ads o (109))) rfl d_Mo_manyOf_14 ?_
        refine r_iload_n X 3 d_Mo_manyOf_17 rfl rfl ?_
        refine r_iald X (v := nI (G i)) b_109 e_109 (Nat.le_of_ble_eq_true rfl) (by omega) (hG i (by omega)) d_Mo_manyOf_18 ?_
        refine r_iload_n X 1 d_Mo_manyOf_19 rfl rfl ?_
        have hJ_3 : V γ o 4 mi ml 28 [(0, .ref (ads o (95))), (1, .int (nI (r))), (2, .int (nI (ct (fun k => decide (G k = r)) (i)))), (3, .int (nI (i)))] [.int (bI (decide ((G i) = r))), .int (nI (ct (fun k => decide (G k = r)) (i)))] := by
          refine r_iadd X (v := nI (ct (fun k => decide (G k = r)) (i) + (decide ((G i) = r)).toNat)) d_Mo_manyOf_28 (bI_add _ _) ?_
          refine r_istore_n X [(2, .int (nI (ct (fun k => decide (G k = r)) (i) + (decide ((G i) = r)).toNat))), (0, .ref (ads o (95))), (1, .int (nI (r))), (3, .int (nI (i)))] d_Mo_manyOf_29 rfl (Nat.le_of_ble_eq_true rfl) rfl ?_
          refine r_iinc X 3 (v := nI (i + 1)) [(3, .int (nI (i + 1))), (2, .int (nI (ct (fun k => decide (G k = r)) (i) + (decide ((G i) = r)).toNat))), (0, .ref (ads o (95))), (1, .int (nI (r)))] d_Mo_manyOf_30 rfl (nI_add _ 1) (Nat.le_of_ble_eq_true rfl) rfl ?_
          refine r_goto X (tgt := 4) d_Mo_manyOf_33 (by decide) ?_
          refine V.wk [2, 3, 1, 0] (V.eq (ih_L4_1 (i + 1) (by omega) ) ?_ ?_ ?_ rfl) (rfl : lv_pick _ [2, 3, 1, 0] = [(0, .ref (ads o (95))), (1, .int (nI (r))), (2, .int (nI (ct (fun k => decide (G k = r)) (i) + (decide ((G i) = r)).toNat))), (3, .int (nI (i + 1)))])
          · rfl
          · rfl
          · first | rfl | (simp_all [ct, lastB, alB, fromB]; done)
        refine r_icneP X (tgt := 27) (c := (G i) = r) d_Mo_manyOf_20 (by decide) (nI_eq (Nat.lt_of_le_of_lt (hGk i (by omega)) (by omega)) (by omega)) (fun c_20 => ?_) (fun c_20 => ?_)
        · -- taken
          refine r_iconst X (v := nI (0)) d_Mo_manyOf_27 (by decide) ?_
          exact V.eq hJ_3 rfl rfl rfl (by rw [show (decide ((G i) = r)) = false from by first | (simp only [eq_false c_20, decide_true, decide_false, Bool.not_true, Bool.not_false, Bool.true_and, Bool.false_and, Bool.and_true, Bool.and_false, Bool.true_or, Bool.false_or, Bool.or_true, Bool.or_false, if_true, if_false, ite_true, ite_false, cond_true, cond_false, Bool.false_eq_true, reduceIte]; done) | (simp [c_20]; done) | (simp_all; done)]; rfl)
        · -- not taken
          refine r_iconst X (v := nI (1)) d_Mo_manyOf_23 (by decide) ?_
          refine r_goto X (tgt := 28) d_Mo_manyOf_24 (by decide) ?_
          exact V.eq hJ_3 rfl rfl rfl (by rw [show (decide ((G i) = r)) = true from by first | (simp only [eq_true c_20, decide_true, decide_false, Bool.not_true, Bool.not_false, Bool.true_and, Bool.false_and, Bool.and_true, Bool.and_false, Bool.true_or, Bool.false_or, Bool.or_true, Bool.or_false, if_true, if_false, ite_true, ite_false, cond_true, cond_false, Bool.false_eq_true, reduceIte]; done) | (simp [c_20]; done) | (simp_all; done)]; rfl)
  refine V.wk [2, 3, 1, 0] (V.eq (L4_1 (n - 0) 0 (by omega) ) ?_ ?_ ?_ rfl) (rfl : lv_pick _ [2, 3, 1, 0] = [(0, .ref (ads o (95))), (1, .int (nI (r))), (2, .int (nI (0))), (3, .int (nI (0)))])
  · rfl
  · rfl
  · rfl

set_option maxHeartbeats 4000000 in
set_option maxRecDepth 100000 in
theorem m_Mo_wide (l : Launch) (o : OM) (mi : MI) (ml : ML) (r : Nat) (n : Nat) (G : Nat → Nat) (hn : ml 96 2 = lN n) (hn40 : n ≤ 40) (hG : ∀ k, k < n → mi 109 k = nI (G k)) (hGk : ∀ k, k < n → G k ≤ k) (hr : r < 40) : ConD l y_Mo_wide c_Mo_wide 6 (some .int) 1 23 o [.ref (ads o (95)), .int (nI (r))] mi ml (some (.int (nI (mxO (fun a c => if (!decide (G a = r) || !decide (G c = r)) then 0 else ds (oM ml a) (oM ml c)) n)))) mi ml := by
  refine Con.mk (by decide) (Nat.le_of_ble_eq_true rfl) (fun γ X => ?_)
  show V γ o 6 mi ml 0 [(0, .ref (ads o (95))), (1, .int (nI (r)))] []
  refine r_iconst X (v := nI (0)) d_Mo_wide_0 (by decide) ?_
  refine r_istore_n X [(2, .int (nI (0))), (0, .ref (ads o (95))), (1, .int (nI (r)))] d_Mo_wide_1 rfl (Nat.le_of_ble_eq_true rfl) rfl ?_
  refine r_iconst X (v := nI (0)) d_Mo_wide_2 (by decide) ?_
  refine r_istore_n X [(3, .int (nI (0))), (2, .int (nI (0))), (0, .ref (ads o (95))), (1, .int (nI (r)))] d_Mo_wide_3 rfl (Nat.le_of_ble_eq_true rfl) rfl ?_
  have L4_1 : ∀ (d_i i : Nat), i + d_i = n → V γ o 6 mi ml 4 [(0, .ref (ads o (95))), (1, .int (nI (r))), (2, .int (nI (mxO (fun a c => if (!decide (G a = r) || !decide (G c = r)) then 0 else ds (oM ml a) (oM ml c)) (i)))), (3, .int (nI (i)))] [] := by
    intro d_i
    induction d_i with
    | zero =>
      intro i hi_L4_1 
      have he_L4_1 : n = i := by omega
      subst he_L4_1
      refine r_iload_n X 3 d_Mo_wide_4 rfl rfl ?_
      refine r_aload_n X 0 d_Mo_wide_5 rfl rfl ?_
      refine r_callV X (m_Mo_marks l o mi ml n (hn) hn40) ok_Mo_marks w_Mo_59 rfl b_95 e_95 rfl ⟨Nat.le_of_ble_eq_true rfl, Nat.le_of_ble_eq_true rfl⟩ (rest := [.int (nI (n))]) rfl (Nat.le_of_ble_eq_true rfl) d_Mo_wide_6 ?_
      refine kD (st' := [.int (nI (n)), .int (nI (n))]) rfl ?_
      refine r_icge X (tgt := 88) (c := n ≤ n) d_Mo_wide_9 (by decide) (nI_leI (by omega) (by omega)) (fun c_9 => ?_) (fun c_9 => ?_)
      · -- taken
        refine r_iload_n X 2 d_Mo_wide_88 rfl rfl ?_
        refine r_end_i X d_Mo_wide_89 ?_
        first | exact ⟨rfl, rfl, rfl⟩ | (refine ⟨?_, rfl, rfl⟩; simp_all)
      · -- not taken
        exact False.elim (by omega)
    | succ d_i ih_L4_1 =>
      intro i hi_L4_1 
      have hlt_L4_1 : i < n := by omega
      have hmo : mxO (fun a c => if (!decide (G a = r) || !decide (G c = r)) then 0 else ds (oM ml a) (oM ml c)) i ≤ 64 := mxO_le (fun a c => ite64 _ (ds_le _ _)) i
      refine r_iload_n X 3 d_Mo_wide_4 rfl rfl ?_
      refine r_aload_n X 0 d_Mo_wide_5 rfl rfl ?_
      refine r_callV X (m_Mo_marks l o mi ml n (hn) hn40) ok_Mo_marks w_Mo_59 rfl b_95 e_95 rfl ⟨Nat.le_of_ble_eq_true rfl, Nat.le_of_ble_eq_true rfl⟩ (rest := [.int (nI (i))]) rfl (Nat.le_of_ble_eq_true rfl) d_Mo_wide_6 ?_
      refine kD (st' := [.int (nI (n)), .int (nI (i))]) rfl ?_
      refine r_icge X (tgt := 88) (c := n ≤ i) d_Mo_wide_9 (by decide) (nI_leI (by omega) (by omega)) (fun c_9_2 => ?_) (fun c_9_2 => ?_)
      · -- taken
        exact False.elim (by omega)
      · -- not taken
        refine r_iconst X (v := nI (0)) d_Mo_wide_12 (by decide) ?_
        refine r_istore X [(4, .int (nI (0))), (0, .ref (ads o (95))), (1, .int (nI (r))), (2, .int (nI (mxO (fun a c => if (!decide (G a = r) || !decide (G c = r)) then 0 else ds (oM ml a) (oM ml c)) (i)))), (3, .int (nI (i)))] d_Mo_wide_13 (Nat.le_of_ble_eq_true rfl) rfl ?_
        have L15_3 : ∀ (d_j j : Nat), j + d_j = i → V γ o 6 mi ml 15 [(0, .ref (ads o (95))), (1, .int (nI (r))), (2, .int (nI (mxI ((fun a c => if (!decide (G a = r) || !decide (G c = r)) then 0 else ds (oM ml a) (oM ml c)) i) (mxO (fun a c => if (!decide (G a = r) || !decide (G c = r)) then 0 else ds (oM ml a) (oM ml c)) i) (j)))), (3, .int (nI (i))), (4, .int (nI (j)))] [] := by
          intro d_j
          induction d_j with
          | zero =>
            intro j hi_L15_3 
            have he_L15_3 : i = j := by omega
            subst he_L15_3
            refine r_iload X 4 d_Mo_wide_15 rfl ?_
            refine r_iload_n X 3 d_Mo_wide_17 rfl rfl ?_
            refine r_icge X (tgt := 82) (c := i ≤ i) d_Mo_wide_18 (by decide) (nI_leI (by omega) (by omega)) (fun c_18 => ?_) (fun c_18 => ?_)
            · -- taken
              refine r_iinc X 3 (v := nI (i + 1)) [(3, .int (nI (i + 1))), (0, .ref (ads o (95))), (1, .int (nI (r))), (2, .int (nI (mxI ((fun a c => if (!decide (G a = r) || !decide (G c = r)) then 0 else ds (oM ml a) (oM ml c)) i) (mxO (fun a c => if (!decide (G a = r) || !decide (G c = r)) then 0 else ds (oM ml a) (oM ml c)) i) (i)))), (4, .int (nI (i)))] d_Mo_wide_82 rfl (nI_add _ 1) (Nat.le_of_ble_eq_true rfl) rfl ?_
              refine r_goto X (tgt := 4) d_Mo_wide_85 (by decide) ?_
              refine V.wk [1, 2, 3, 0] (V.eq (ih_L4_1 (i + 1) (by omega) ) ?_ ?_ ?_ rfl) (rfl : lv_pick _ [1, 2, 3, 0] = [(0, .ref (ads o (95))), (1, .int (nI (r))), (2, .int (nI (mxI ((fun a c => if (!decide (G a = r) || !decide (G c = r)) then 0 else ds (oM ml a) (oM ml c)) i) (mxO (fun a c => if (!decide (G a = r) || !decide (G c = r)) then 0 else ds (oM ml a) (oM ml c)) i) (i)))), (3, .int (nI (i + 1)))])
              · rfl
              · rfl
              · first | rfl | (simp_all [ct, lastB, alB, fromB]; done)
            · -- not taken
              exact False.elim (by omega)
          | succ d_j ih_L15_3 =>
            intro j hi_L15_3 
            have hlt_L15_3 : j < i := by omega
            have hmi : mxI ((fun a c => if (!decide (G a = r) || !decide (G c = r)) then 0 else ds (oM ml a) (oM ml c)) i) (mxO (fun a c => if (!decide (G a = r) || !decide (G c = r)) then 0 else ds (oM ml a) (oM ml c)) i) j ≤ 64 := mxI_le hmo (fun a _ => ite64 _ (ds_le _ _))
            have hif : (if (!decide (G i = r) || !decide (G j = r)) then 0 else pop (oM ml i ^^^ oM ml j)) ≤ 64 := ite64 _ (pop_le _)
            refine r_iload X 4 d_Mo_wide_15 rfl ?_
            refine r_iload_n X 3 d_Mo_wide_17 rfl rfl ?_
            refine r_icge X (tgt := 82) (c := i ≤ j) d_Mo_wide_18 (by decide) (nI_leI (by omega) (by omega)) (fun c_18_4 => ?_) (fun c_18_4 => ?_)
            · -- taken
              exact False.elim (by omega)
            · -- not taken
              refine r_aload_n X 0 d_Mo_wide_21 rfl rfl ?_
              refine r_get X f_Mo_51 b_95 e_95 (v := .ref (ads o (109))) rfl d_Mo_wide_22 ?_
              refine r_iload_n X 3 d_Mo_wide_25 rfl rfl ?_
              refine r_iald X (v := nI (G i)) b_109 e_109 (Nat.le_of_ble_eq_true rfl) (by omega) (hG i (by omega)) d_Mo_wide_26 ?_
              refine r_iload_n X 1 d_Mo_wide_27 rfl rfl ?_
              have hJ_5 : V γ o 6 mi ml 61 [(0, .ref (ads o (95))), (1, .int (nI (r))), (2, .int (nI (mxI ((fun a c => if (!decide (G a = r) || !decide (G c = r)) then 0 else ds (oM ml a) (oM ml c)) i) (mxO (fun a c => if (!decide (G a = r) || !decide (G c = r)) then 0 else ds (oM ml a) (oM ml c)) i) (j)))), (3, .int (nI (i))), (4, .int (nI (j)))] [.int (nI (if (!decide ((G i) = r) || !decide ((G j) = r)) then 0 else pop ((oM ml i) ^^^ (oM ml j))))] := by
                refine r_istore X [(5, .int (nI (if (!decide ((G i) = r) || !decide ((G j) = r)) then 0 else pop ((oM ml i) ^^^ (oM ml j))))), (0, .ref (ads o (95))), (1, .int (nI (r))), (2, .int (nI (mxI ((fun a c => if (!decide (G a = r) || !decide (G c = r)) then 0 else ds (oM ml a) (oM ml c)) i) (mxO (fun a c => if (!decide (G a = r) || !decide (G c = r)) then 0 else ds (oM ml a) (oM ml c)) i) (j)))), (3, .int (nI (i))), (4, .int (nI (j)))] d_Mo_wide_61 (Nat.le_of_ble_eq_true rfl) rfl ?_
                refine r_iload X 0 d_Mo_wide_63 rfl ?_
                refine r_iload_n X 3 d_Mo_wide_65 rfl rfl ?_
                have hJ_6 : V γ o 6 mi ml 75 [(5, .int (nI (if (!decide ((G i) = r) || !decide ((G j) = r)) then 0 else pop ((oM ml i) ^^^ (oM ml j))))), (0, .ref (ads o (95))), (1, .int (nI (r))), (2, .int (nI (mxI ((fun a c => if (!decide (G a = r) || !decide (G c = r)) then 0 else ds (oM ml a) (oM ml c)) i) (mxO (fun a c => if (!decide (G a = r) || !decide (G c = r)) then 0 else ds (oM ml a) (oM ml c)) i) (j)))), (3, .int (nI (i))), (4, .int (nI (j)))] [.int (nI (if decide ((if (!decide ((G i) = r) || !decide ((G j) = r)) then 0 else pop ((oM ml i) ^^^ (oM ml j))) ≤ (mxI ((fun a c => if (!decide (G a = r) || !decide (G c = r)) then 0 else ds (oM ml a) (oM ml c)) i) (mxO (fun a c => if (!decide (G a = r) || !decide (G c = r)) then 0 else ds (oM ml a) (oM ml c)) i) (j))) then mxI ((fun a c => if (!decide (G a = r) || !decide (G c = r)) then 0 else ds (oM ml a) (oM ml c)) i) (mxO (fun a c => if (!decide (G a = r) || !decide (G c = r)) then 0 else ds (oM ml a) (oM ml c)) i) (j) else if (!decide ((G i) = r) || !decide ((G j) = r)) then 0 else pop ((oM ml i) ^^^ (oM ml j))))] := by
                  refine r_istore_n X [(2, .int (nI (if decide ((if (!decide ((G i) = r) || !decide ((G j) = r)) then 0 else pop ((oM ml i) ^^^ (oM ml j))) ≤ (mxI ((fun a c => if (!decide (G a = r) || !decide (G c = r)) then 0 else ds (oM ml a) (oM ml c)) i) (mxO (fun a c => if (!decide (G a = r) || !decide (G c = r)) then 0 else ds (oM ml a) (oM ml c)) i) (j))) then mxI ((fun a c => if (!decide (G a = r) || !decide (G c = r)) then 0 else ds (oM ml a) (oM ml c)) i) (mxO (fun a c => if (!decide (G a = r) || !decide (G c = r)) then 0 else ds (oM ml a) (oM ml c)) i) (j) else if (!decide ((G i) = r) || !decide ((G j) = r)) then 0 else pop ((oM ml i) ^^^ (oM ml j))))), (5, .int (nI (if (!decide ((G i) = r) || !decide ((G j) = r)) then 0 else pop ((oM ml i) ^^^ (oM ml j))))), (0, .ref (ads o (95))), (1, .int (nI (r))), (3, .int (nI (i))), (4, .int (nI (j)))] d_Mo_wide_75 rfl (Nat.le_of_ble_eq_true rfl) rfl ?_
                  refine r_iinc X 5 (v := nI (j + 1)) [(4, .int (nI (j + 1))), (2, .int (nI (if decide ((if (!decide ((G i) = r) || !decide ((G j) = r)) then 0 else pop ((oM ml i) ^^^ (oM ml j))) ≤ (mxI ((fun a c => if (!decide (G a = r) || !decide (G c = r)) then 0 else ds (oM ml a) (oM ml c)) i) (mxO (fun a c => if (!decide (G a = r) || !decide (G c = r)) then 0 else ds (oM ml a) (oM ml c)) i) (j))) then mxI ((fun a c => if (!decide (G a = r) || !decide (G c = r)) then 0 else ds (oM ml a) (oM ml c)) i) (mxO (fun a c => if (!decide (G a = r) || !decide (G c = r)) then 0 else ds (oM ml a) (oM ml c)) i) (j) else if (!decide ((G i) = r) || !decide ((G j) = r)) then 0 else pop ((oM ml i) ^^^ (oM ml j))))), (5, .int (nI (if (!decide ((G i) = r) || !decide ((G j) = r)) then 0 else pop ((oM ml i) ^^^ (oM ml j))))), (0, .ref (ads o (95))), (1, .int (nI (r))), (3, .int (nI (i)))] d_Mo_wide_76 rfl (nI_add _ 1) (Nat.le_of_ble_eq_true rfl) rfl ?_
                  refine r_goto X (tgt := 15) d_Mo_wide_79 (by decide) ?_
                  refine V.wk [3, 4, 1, 5, 0] (V.eq (ih_L15_3 (j + 1) (by omega) ) ?_ ?_ ?_ rfl) (rfl : lv_pick _ [3, 4, 1, 5, 0] = [(0, .ref (ads o (95))), (1, .int (nI (r))), (2, .int (nI (if decide ((if (!decide ((G i) = r) || !decide ((G j) = r)) then 0 else pop ((oM ml i) ^^^ (oM ml j))) ≤ (mxI ((fun a c => if (!decide (G a = r) || !decide (G c = r)) then 0 else ds (oM ml a) (oM ml c)) i) (mxO (fun a c => if (!decide (G a = r) || !decide (G c = r)) then 0 else ds (oM ml a) (oM ml c)) i) (j))) then mxI ((fun a c => if (!decide (G a = r) || !decide (G c = r)) then 0 else ds (oM ml a) (oM ml c)) i) (mxO (fun a c => if (!decide (G a = r) || !decide (G c = r)) then 0 else ds (oM ml a) (oM ml c)) i) (j) else if (!decide ((G i) = r) || !decide ((G j) = r)) then 0 else pop ((oM ml i) ^^^ (oM ml j))))), (3, .int (nI (i))), (4, .int (nI (j + 1)))])
                  · rfl
                  · rfl
                  · first | rfl | (simp_all [ct, lastB, alB, fromB]; done)
                refine r_icle X (tgt := 74) (c := (if (!decide ((G i) = r) || !decide ((G j) = r)) then 0 else pop ((oM ml i) ^^^ (oM ml j))) ≤ (mxI ((fun a c => if (!decide (G a = r) || !decide (G c = r)) then 0 else ds (oM ml a) (oM ml c)) i) (mxO (fun a c => if (!decide (G a = r) || !decide (G c = r)) then 0 else ds (oM ml a) (oM ml c)) i) (j))) d_Mo_wide_66 (by decide) (nI_leI (by omega) (by omega)) (fun c_66 => ?_) (fun c_66 => ?_)
                · -- taken
                  refine r_iload_n X 3 d_Mo_wide_74 rfl rfl ?_
                  exact V.eq hJ_6 rfl rfl rfl (by rw [show (nI (if decide ((if (!decide ((G i) = r) || !decide ((G j) = r)) then 0 else pop ((oM ml i) ^^^ (oM ml j))) ≤ (mxI ((fun a c => if (!decide (G a = r) || !decide (G c = r)) then 0 else ds (oM ml a) (oM ml c)) i) (mxO (fun a c => if (!decide (G a = r) || !decide (G c = r)) then 0 else ds (oM ml a) (oM ml c)) i) (j))) then mxI ((fun a c => if (!decide (G a = r) || !decide (G c = r)) then 0 else ds (oM ml a) (oM ml c)) i) (mxO (fun a c => if (!decide (G a = r) || !decide (G c = r)) then 0 else ds (oM ml a) (oM ml c)) i) (j) else if (!decide ((G i) = r) || !decide ((G j) = r)) then 0 else pop ((oM ml i) ^^^ (oM ml j)))) = (nI (mxI ((fun a c => if (!decide (G a = r) || !decide (G c = r)) then 0 else ds (oM ml a) (oM ml c)) i) (mxO (fun a c => if (!decide (G a = r) || !decide (G c = r)) then 0 else ds (oM ml a) (oM ml c)) i) (j))) from by first | (simp only [eq_true c_66, decide_true, decide_false, Bool.not_true, Bool.not_false, Bool.true_and, Bool.false_and, Bool.and_true, Bool.and_false, Bool.true_or, Bool.false_or, Bool.or_true, Bool.or_false, if_true, if_false, ite_true, ite_false, cond_true, cond_false, Bool.false_eq_true, reduceIte]; done) | (simp [c_66]; done) | (simp_all; done)])
                · -- not taken
                  refine r_iload X 0 d_Mo_wide_69 rfl ?_
                  refine r_goto X (tgt := 75) d_Mo_wide_71 (by decide) ?_
                  exact V.eq hJ_6 rfl rfl rfl (by rw [show (nI (if decide ((if (!decide ((G i) = r) || !decide ((G j) = r)) then 0 else pop ((oM ml i) ^^^ (oM ml j))) ≤ (mxI ((fun a c => if (!decide (G a = r) || !decide (G c = r)) then 0 else ds (oM ml a) (oM ml c)) i) (mxO (fun a c => if (!decide (G a = r) || !decide (G c = r)) then 0 else ds (oM ml a) (oM ml c)) i) (j))) then mxI ((fun a c => if (!decide (G a = r) || !decide (G c = r)) then 0 else ds (oM ml a) (oM ml c)) i) (mxO (fun a c => if (!decide (G a = r) || !decide (G c = r)) then 0 else ds (oM ml a) (oM ml c)) i) (j) else if (!decide ((G i) = r) || !decide ((G j) = r)) then 0 else pop ((oM ml i) ^^^ (oM ml j)))) = (nI (if (!decide ((G i) = r) || !decide ((G j) = r)) then 0 else pop ((oM ml i) ^^^ (oM ml j)))) from by first | (simp only [eq_false c_66, decide_true, decide_false, Bool.not_true, Bool.not_false, Bool.true_and, Bool.false_and, Bool.and_true, Bool.and_false, Bool.true_or, Bool.false_or, Bool.or_true, Bool.or_false, if_true, if_false, ite_true, ite_false, cond_true, cond_false, Bool.false_eq_true, reduceIte]; done) | (simp [c_66]; done) | (simp_all; done)])
              refine r_icneP X (tgt := 60) (c := (G i) = r) d_Mo_wide_28 (by decide) (nI_eq (Nat.lt_of_le_of_lt (hGk i (by omega)) (by omega)) (by omega)) (fun c_28 => ?_) (fun c_28 => ?_)
              · -- taken
                refine r_iconst X (v := nI (0)) d_Mo_wide_60 (by decide) ?_
                exact V.eq hJ_5 rfl rfl rfl (by rw [show (nI (if (!decide ((G i) = r) || !decide ((G j) = r)) then 0 else pop ((oM ml i) ^^^ (oM ml j)))) = (nI (0)) from by first | (simp only [eq_false c_28, decide_true, decide_false, Bool.not_true, Bool.not_false, Bool.true_and, Bool.false_and, Bool.and_true, Bool.and_false, Bool.true_or, Bool.false_or, Bool.or_true, Bool.or_false, if_true, if_false, ite_true, ite_false, cond_true, cond_false, Bool.false_eq_true, reduceIte]; done) | (simp [c_28]; done) | (simp_all; done)])
              · -- not taken
                refine r_aload_n X 0 d_Mo_wide_31 rfl rfl ?_
                refine r_get X f_Mo_51 b_95 e_95 (v := .ref (ads o (109))) rfl d_Mo_wide_32 ?_
                refine r_iload X 4 d_Mo_wide_35 rfl ?_
                refine r_iald X (v := nI (G j)) b_109 e_109 (Nat.le_of_ble_eq_true rfl) (by omega) (hG j (by omega)) d_Mo_wide_37 ?_
                refine r_iload_n X 1 d_Mo_wide_38 rfl rfl ?_
                refine r_icneP X (tgt := 60) (c := (G j) = r) d_Mo_wide_39 (by decide) (nI_eq (Nat.lt_of_le_of_lt (hGk j (by omega)) (by omega)) (by omega)) (fun c_39 => ?_) (fun c_39 => ?_)
                · -- taken
                  refine r_iconst X (v := nI (0)) d_Mo_wide_60 (by decide) ?_
                  exact V.eq hJ_5 rfl rfl rfl (by rw [show (nI (if (!decide ((G i) = r) || !decide ((G j) = r)) then 0 else pop ((oM ml i) ^^^ (oM ml j)))) = (nI (0)) from by first | (simp only [eq_true c_28, eq_false c_39, decide_true, decide_false, Bool.not_true, Bool.not_false, Bool.true_and, Bool.false_and, Bool.and_true, Bool.and_false, Bool.true_or, Bool.false_or, Bool.or_true, Bool.or_false, if_true, if_false, ite_true, ite_false, cond_true, cond_false, Bool.false_eq_true, reduceIte]; done) | (simp [c_28, c_39]; done) | (simp_all; done)])
                · -- not taken
                  refine r_aload_n X 0 d_Mo_wide_42 rfl rfl ?_
                  refine r_iload_n X 3 d_Mo_wide_43 rfl rfl ?_
                  refine r_callV X (m_Mo_own l o mi ml i (by omega)) ok_Mo_own w_Mo_67 rfl b_95 e_95 rfl ⟨Nat.le_of_ble_eq_true rfl, Nat.le_of_ble_eq_true rfl⟩ (rest := []) rfl (Nat.le_of_ble_eq_true rfl) d_Mo_wide_44 ?_
                  refine kD (st' := [.long (oM ml i)]) rfl ?_
                  refine r_aload_n X 0 d_Mo_wide_47 rfl rfl ?_
                  refine r_iload X 4 d_Mo_wide_48 rfl ?_
                  refine r_callV X (m_Mo_own l o mi ml j (by omega)) ok_Mo_own w_Mo_67 rfl b_95 e_95 rfl ⟨Nat.le_of_ble_eq_true rfl, Nat.le_of_ble_eq_true rfl⟩ (rest := [.long (oM ml i)]) rfl (Nat.le_of_ble_eq_true rfl) d_Mo_wide_50 ?_
                  refine kD (st' := [.long (oM ml j), .long (oM ml i)]) rfl ?_
                  refine r_lxor X (v := (oM ml i) ^^^ (oM ml j)) d_Mo_wide_53 (rfl) ?_
                  refine r_callS X (m_Mo_ones l o mi ml ((oM ml i) ^^^ (oM ml j))) ok_Mo_ones w_Mo_71 rfl ⟨Nat.le_of_ble_eq_true rfl, Nat.le_of_ble_eq_true rfl⟩ (rest := []) rfl (Nat.le_of_ble_eq_true rfl) d_Mo_wide_54 ?_
                  refine kD (st' := [.int (nI (pop ((oM ml i) ^^^ (oM ml j))))]) rfl ?_
                  refine r_goto X (tgt := 61) d_Mo_wide_57 (by decide) ?_
                  exact V.eq hJ_5 rfl rfl rfl (by rw [show (nI (if (!decide ((G i) = r) || !decide ((G j) = r)) then 0 else pop ((oM ml i) ^^^ (oM ml j)))) = (nI (pop ((oM ml i) ^^^ (oM ml j)))) from by first | (simp only [eq_true c_28, eq_true c_39, decide_true, decide_false, Bool.not_true, Bool.not_false, Bool.true_and, Bool.false_and, Bool.and_true, Bool.and_false, Bool.true_or, Bool.false_or, Bool.or_true, Bool.or_false, if_true, if_false, ite_true, ite_false, cond_true, cond_false, Bool.false_eq_true, reduceIte]; done) | (simp [c_28, c_39]; done) | (simp_all; done)])
        refine V.wk [1, 2, 3, 4, 0] (V.eq (L15_3 (i - 0) 0 (by omega) ) ?_ ?_ ?_ rfl) (rfl : lv_pick _ [1, 2, 3, 4, 0] = [(0, .ref (ads o (95))), (1, .int (nI (r))), (2, .int (nI (mxO (fun a c => if (!decide (G a = r) || !decide (G c = r)) then 0 else ds (oM ml a) (oM ml c)) (i)))), (3, .int (nI (i))), (4, .int (nI (0)))])
        · rfl
        · rfl
        · rfl
  refine V.wk [2, 3, 1, 0] (V.eq (L4_1 (n - 0) 0 (by omega) ) ?_ ?_ ?_ rfl) (rfl : lv_pick _ [2, 3, 1, 0] = [(0, .ref (ads o (95))), (1, .int (nI (r))), (2, .int (nI (0))), (3, .int (nI (0)))])
  · rfl
  · rfl
  · rfl
