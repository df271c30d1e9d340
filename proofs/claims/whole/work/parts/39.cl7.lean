set_option maxHeartbeats 4000000 in
set_option maxRecDepth 100000 in
theorem m_Nm_drift_o (l : Launch) (o : OM) (mi : MI) (ml : ML) (k : Int32) (hk : k < nI 1 ∨ nI 20 < k) : ConD l y_Nm_drift c_Nm_drift 3 (some .int) 8 270 o [.ref (ads o (0)), .int (k)] mi ml (some (.int (((-1000000002 : Int32))))) mi ml := by
  refine Con.mk (by decide) (Nat.le_of_ble_eq_true rfl) (fun γ X => ?_)
  show V γ o 3 mi ml 0 [(0, .ref (ads o (0))), (1, .int (k))] []
  refine r_iload_n X 1 d_Nm_drift_0 rfl rfl ?_
  refine r_iconst X (v := nI (1)) d_Nm_drift_1 (by decide) ?_
  refine r_iclt X (tgt := 11) (c := k < (nI (1))) d_Nm_drift_2 (by decide) (Iff.rfl) (fun c_2 => ?_) (fun c_2 => ?_)
  · -- taken
    refine r_ldc X (v := ((-1000000002 : Int32))) k_Nm_137 (by decide) d_Nm_drift_11 ?_
    refine r_end_i X d_Nm_drift_13 ?_
    first | exact ⟨rfl, rfl, rfl⟩ | (refine ⟨?_, rfl, rfl⟩; simp_all)
  · -- not taken
    refine r_iload_n X 1 d_Nm_drift_5 rfl rfl ?_
    refine r_bipush X (v := nI (20)) d_Nm_drift_6 (by decide) ?_
    refine r_icle X (tgt := 14) (c := k ≤ (nI (20))) d_Nm_drift_8 (by decide) (Iff.rfl) (fun c_8 => ?_) (fun c_8 => ?_)
    · -- taken
      exact False.elim (by exact raw_le hk c_2 c_8)
    · -- not taken
      refine r_ldc X (v := ((-1000000002 : Int32))) k_Nm_137 (by decide) d_Nm_drift_11 ?_
      refine r_end_i X d_Nm_drift_13 ?_
      first | exact ⟨rfl, rfl, rfl⟩ | (refine ⟨?_, rfl, rfl⟩; simp_all)

set_option maxHeartbeats 4000000 in
set_option maxRecDepth 100000 in
theorem m_Nm_drift_i (l : Launch) (o : OM) (mi : MI) (ml : ML) (k : Nat) (nx : Nat) (c : Nat) (n : Nat) (z : Nat) (hnx : mi 4 1 = nI nx) (hnx20 : nx < 20) (hc : mi 4 2 = nI c) (hc20 : c ≤ 20) (hn : mi 1 2 = nI n) (hn40 : n ≤ 40) (hz : mi 94 0 = nI z) (hz31 : z < 2147483648) (hk1 : 1 ≤ k) (hk : k ≤ 20) : ConD l y_Nm_drift c_Nm_drift 3 (some .int) 8 270 o [.ref (ads o (0)), .int (nI (k))] mi ml (some (.int (nI ((dcS mi ml nx c n z k).2.2.2.2.1)))) ((dcS mi ml nx c n z k).1) ((dcS mi ml nx c n z k).2.1) := by
  refine Con.mk (by decide) (Nat.le_of_ble_eq_true rfl) (fun γ X => ?_)
  have hok : okC mi nx c n z := ⟨hnx, hnx20, hc, hc20, hn, hn40, hz, hz31⟩
  show V γ o 3 mi ml 0 [(0, .ref (ads o (0))), (1, .int (nI (k)))] []
  refine r_iload_n X 1 d_Nm_drift_0 rfl rfl ?_
  refine r_iconst X (v := nI (1)) d_Nm_drift_1 (by decide) ?_
  refine r_iclt X (tgt := 11) (c := k < 1) d_Nm_drift_2 (by decide) (nI_ltI (by omega) (Nat.le_of_ble_eq_true rfl)) (fun c_2 => ?_) (fun c_2 => ?_)
  · -- taken
    exact False.elim (by omega)
  · -- not taken
    refine r_iload_n X 1 d_Nm_drift_5 rfl rfl ?_
    refine r_bipush X (v := nI (20)) d_Nm_drift_6 (by decide) ?_
    refine r_icle X (tgt := 14) (c := k ≤ 20) d_Nm_drift_8 (by decide) (nI_leI (by omega) (Nat.le_of_ble_eq_true rfl)) (fun c_8 => ?_) (fun c_8 => ?_)
    · -- taken
      refine r_iconst X (v := nI (0)) d_Nm_drift_14 (by decide) ?_
      refine r_istore_n X [(2, .int (nI (0))), (0, .ref (ads o (0))), (1, .int (nI (k)))] d_Nm_drift_15 rfl (Nat.le_of_ble_eq_true rfl) rfl ?_
      have L16_1 : ∀ (d_i i : Nat), i + d_i = k → V γ o 3 (dcS mi ml nx c n z i).1 (dcS mi ml nx c n z i).2.1 16 [(0, .ref (ads o (0))), (1, .int (nI (k))), (2, .int (nI (i)))] [] := by
        intro d_i
        induction d_i with
        | zero =>
          intro i hi_L16_1 
          have he_L16_1 : k = i := by omega
          subst he_L16_1
          refine r_iload_n X 2 d_Nm_drift_16 rfl rfl ?_
          refine r_iload_n X 1 d_Nm_drift_17 rfl rfl ?_
          refine r_icge X (tgt := 46) (c := k ≤ k) d_Nm_drift_18 (by decide) (nI_leI (by omega) (by omega)) (fun c_18 => ?_) (fun c_18 => ?_)
          · -- taken
            refine r_aload_n X 0 d_Nm_drift_46 rfl rfl ?_
            refine r_get X f_Nm_10 b_0 e_0 (v := .ref (ads o (1))) rfl d_Nm_drift_47 ?_
            refine r_get X f_Nm_83 b_1 e_1 (v := .int (nI ((dcS mi ml nx c n z k).2.2.2.2.1))) (congrArg (fun z => some (Value.int z)) ((dc_ok hok k).2.2.2.2.1)) d_Nm_drift_50 ?_
            refine r_end_i X d_Nm_drift_53 ?_
            exact ⟨rfl, rfl, rfl⟩
          · -- not taken
            exact False.elim (by omega)
        | succ d_i ih_L16_1 =>
          intro i hi_L16_1 
          have hlt_L16_1 : i < k := by omega
          refine r_iload_n X 2 d_Nm_drift_16 rfl rfl ?_
          refine r_iload_n X 1 d_Nm_drift_17 rfl rfl ?_
          refine r_icge X (tgt := 46) (c := k ≤ i) d_Nm_drift_18 (by decide) (nI_leI (by omega) (by omega)) (fun c_18_2 => ?_) (fun c_18_2 => ?_)
          · -- taken
            exact False.elim (by omega)
          · -- not taken
            refine r_aload_n X 0 d_Nm_drift_21 rfl rfl ?_
            refine r_get X f_Nm_19 b_0 e_0 (v := .ref (ads o (4))) rfl d_Nm_drift_22 ?_
            refine r_aload_n X 0 d_Nm_drift_25 rfl rfl ?_
            refine r_get X f_Nm_10 b_0 e_0 (v := .ref (ads o (1))) rfl d_Nm_drift_26 ?_
            refine r_callV X (m_Pa_remember l o (dcS mi ml nx c n z i).1 (dcS mi ml nx c n z i).2.1 ((dcS mi ml nx c n z i).2.2.1) ((dcS mi ml nx c n z i).2.2.2.1) ((dcS mi ml nx c n z i).2.2.2.2.1) ((dc_ok hok i).1) ((dc_ok hok i).2.1) ((dc_ok hok i).2.2.1) ((dc_ok hok i).2.2.2.1) ((dc_ok hok i).2.2.2.2.1) ((dc_ok hok i).2.2.2.2.2.1)) ok_Pa_remember w_Nm_174 rfl b_4 e_4 rfl ⟨Nat.le_of_ble_eq_true rfl, Nat.le_of_ble_eq_true rfl⟩ (rest := []) rfl (Nat.le_of_ble_eq_true rfl) d_Nm_drift_29 ?_
            refine kD (st' := []) rfl ?_
            refine r_aload_n X 0 d_Nm_drift_32 rfl rfl ?_
            refine r_callV X (m_Nm_changeHandByDraws l o (remI ((dcS mi ml nx c n z i).1) ((dcS mi ml nx c n z i).2.2.1) ((dcS mi ml nx c n z i).2.2.2.1) ((dcS mi ml nx c n z i).2.2.2.2.1)) (remL ((dcS mi ml nx c n z i).2.1) ((dcS mi ml nx c n z i).2.2.1) ((dcS mi ml nx c n z i).2.2.2.2.1)) ((dcS mi ml nx c n z i).2.2.2.2.2) ((dcS mi ml nx c n z i).2.1 1 0) ((by rw [remI_n _ (by omega) (by omega) (by decide)] <;> exact (dc_ok hok i).2.2.2.2.2.2.1)) ((dc_ok hok i).2.2.2.2.2.2.2) ((by rw [remL_n _ (by omega) (by omega)] <;> exact rfl))) ok_Nm_changeHandByDraws w_Nm_206 rfl b_0 e_0 rfl ⟨Nat.le_of_ble_eq_true rfl, Nat.le_of_ble_eq_true rfl⟩ (rest := []) rfl (Nat.le_of_ble_eq_true rfl) d_Nm_drift_33 ?_
            refine kD (st' := []) rfl ?_
            refine r_aload_n X 0 d_Nm_drift_36 rfl rfl ?_
            refine r_callV X (m_Nm_putIfUnlikeAll l o (u2 (remI ((dcS mi ml nx c n z i).1) ((dcS mi ml nx c n z i).2.2.1) ((dcS mi ml nx c n z i).2.2.2.1) ((dcS mi ml nx c n z i).2.2.2.2.1)) 94 0 (nI (lotZ ((dcS mi ml nx c n z i).2.2.2.2.2)))) (u2 (remL ((dcS mi ml nx c n z i).2.1) ((dcS mi ml nx c n z i).2.2.1) ((dcS mi ml nx c n z i).2.2.2.2.1)) 1 0 (lotHC ((dcS mi ml nx c n z i).2.1 1 0) ((dcS mi ml nx c n z i).2.2.2.2.2))) ((dcS mi ml nx c n z i).2.2.2.2.1) (lotHC ((dcS mi ml nx c n z i).2.1 1 0) ((dcS mi ml nx c n z i).2.2.2.2.2)) ((by rw [u2_n _ _ _ (by decide)] <;> exact (by rw [remI_n _ (by omega) (by omega) (by decide)] <;> exact (dc_ok hok i).2.2.2.2.1))) ((dc_ok hok i).2.2.2.2.2.1) ((by rw [u2_s, uf_s]))) ok_Nm_putIfUnlikeAll w_Nm_209 rfl b_0 e_0 rfl ⟨Nat.le_of_ble_eq_true rfl, Nat.le_of_ble_eq_true rfl⟩ (rest := []) rfl (Nat.le_of_ble_eq_true rfl) d_Nm_drift_37 ?_
            refine kD (st' := []) rfl ?_
            refine r_iinc X 2 (v := nI (i + 1)) [(2, .int (nI (i + 1))), (0, .ref (ads o (0))), (1, .int (nI (k)))] d_Nm_drift_40 rfl (nI_add _ 1) (Nat.le_of_ble_eq_true rfl) rfl ?_
            refine r_goto X (tgt := 16) d_Nm_drift_43 (by decide) ?_
            refine V.wk [1, 2, 0] (V.eq (ih_L16_1 (i + 1) (by omega) ) ?_ ?_ ?_ rfl) (rfl : lv_pick _ [1, 2, 0] = [(0, .ref (ads o (0))), (1, .int (nI (k))), (2, .int (nI (i + 1)))])
            · rfl
            · rfl
            · rfl
      refine V.wk [1, 2, 0] (V.eq (L16_1 (k - 0) 0 (by omega) ) ?_ ?_ ?_ rfl) (rfl : lv_pick _ [1, 2, 0] = [(0, .ref (ads o (0))), (1, .int (nI (k))), (2, .int (nI (0)))])
      · rfl
      · rfl
      · rfl
    · -- not taken
      exact False.elim (by omega)

set_option maxHeartbeats 4000000 in
set_option maxRecDepth 100000 in
theorem m_Nm_undo_o (l : Launch) (o : OM) (mi : MI) (ml : ML) (q : Int32) (hq : q < nI 1 ∨ nI 20 < q) : ConD l y_Nm_undo c_Nm_undo 2 (some .int) 8 270 o [.ref (ads o (0)), .int (q)] mi ml (some (.int (((-1000000002 : Int32))))) mi ml := by
  refine Con.mk (by decide) (Nat.le_of_ble_eq_true rfl) (fun γ X => ?_)
  show V γ o 2 mi ml 0 [(0, .ref (ads o (0))), (1, .int (q))] []
  refine r_iload_n X 1 d_Nm_undo_0 rfl rfl ?_
  refine r_iconst X (v := nI (1)) d_Nm_undo_1 (by decide) ?_
  refine r_iclt X (tgt := 11) (c := q < (nI (1))) d_Nm_undo_2 (by decide) (Iff.rfl) (fun c_2 => ?_) (fun c_2 => ?_)
  · -- taken
    refine r_ldc X (v := ((-1000000002 : Int32))) k_Nm_137 (by decide) d_Nm_undo_11 ?_
    refine r_end_i X d_Nm_undo_13 ?_
    first | exact ⟨rfl, rfl, rfl⟩ | (refine ⟨?_, rfl, rfl⟩; simp_all)
  · -- not taken
    refine r_iload_n X 1 d_Nm_undo_5 rfl rfl ?_
    refine r_bipush X (v := nI (20)) d_Nm_undo_6 (by decide) ?_
    refine r_icle X (tgt := 14) (c := q ≤ (nI (20))) d_Nm_undo_8 (by decide) (Iff.rfl) (fun c_8 => ?_) (fun c_8 => ?_)
    · -- taken
      exact False.elim (by exact raw_le hq c_2 c_8)
    · -- not taken
      refine r_ldc X (v := ((-1000000002 : Int32))) k_Nm_137 (by decide) d_Nm_undo_11 ?_
      refine r_end_i X d_Nm_undo_13 ?_
      first | exact ⟨rfl, rfl, rfl⟩ | (refine ⟨?_, rfl, rfl⟩; simp_all)

set_option maxHeartbeats 4000000 in
set_option maxRecDepth 100000 in
theorem m_Nm_undo_n (l : Launch) (o : OM) (mi : MI) (ml : ML) (q : Nat) (c : Nat) (hc : mi 4 2 = nI c) (hc20 : c ≤ 20) (hq1 : 1 ≤ q) (hq20 : q ≤ 20) (hqc : c < q) : ConD l y_Nm_undo c_Nm_undo 2 (some .int) 8 270 o [.ref (ads o (0)), .int (nI (q))] mi ml (some (.int (((-1000000003 : Int32))))) mi ml := by
  refine Con.mk (by decide) (Nat.le_of_ble_eq_true rfl) (fun γ X => ?_)
  show V γ o 2 mi ml 0 [(0, .ref (ads o (0))), (1, .int (nI (q)))] []
  refine r_iload_n X 1 d_Nm_undo_0 rfl rfl ?_
  refine r_iconst X (v := nI (1)) d_Nm_undo_1 (by decide) ?_
  refine r_iclt X (tgt := 11) (c := q < 1) d_Nm_undo_2 (by decide) (nI_ltI (by omega) (Nat.le_of_ble_eq_true rfl)) (fun c_2 => ?_) (fun c_2 => ?_)
  · -- taken
    exact False.elim (by omega)
  · -- not taken
    refine r_iload_n X 1 d_Nm_undo_5 rfl rfl ?_
    refine r_bipush X (v := nI (20)) d_Nm_undo_6 (by decide) ?_
    refine r_icle X (tgt := 14) (c := q ≤ 20) d_Nm_undo_8 (by decide) (nI_leI (by omega) (Nat.le_of_ble_eq_true rfl)) (fun c_8 => ?_) (fun c_8 => ?_)
    · -- taken
      refine r_iload_n X 1 d_Nm_undo_14 rfl rfl ?_
      refine r_aload_n X 0 d_Nm_undo_15 rfl rfl ?_
      refine r_get X f_Nm_19 b_0 e_0 (v := .ref (ads o (4))) rfl d_Nm_undo_16 ?_
      refine r_get X f_Nm_136 b_4 e_4 (v := .int (nI (c))) (congrArg (fun z => some (Value.int z)) (hc)) d_Nm_undo_19 ?_
      refine r_icle X (tgt := 28) (c := q ≤ c) d_Nm_undo_22 (by decide) (nI_leI (by omega) (by omega)) (fun c_22 => ?_) (fun c_22 => ?_)
      · -- taken
        exact False.elim (by omega)
      · -- not taken
        refine r_ldc X (v := ((-1000000003 : Int32))) k_Nm_197 (by decide) d_Nm_undo_25 ?_
        refine r_end_i X d_Nm_undo_27 ?_
        first | exact ⟨rfl, rfl, rfl⟩ | (refine ⟨?_, rfl, rfl⟩; simp_all)
    · -- not taken
      exact False.elim (by omega)

set_option maxHeartbeats 4000000 in
set_option maxRecDepth 100000 in
theorem m_Nm_undo_i (l : Launch) (o : OM) (mi : MI) (ml : ML) (q : Nat) (nx : Nat) (c : Nat) (nb : Nat) (hnx : mi 4 1 = nI nx) (hnx20 : nx < 20) (hc : mi 4 2 = nI c) (hc20 : c ≤ 20) (hq1 : 1 ≤ q) (hqc : q ≤ c) (hnb : mi (6 + 3 * (bkN nx q)) 2 = nI nb) (hnb40 : nb ≤ 40) (hx0 : bt (ml (6 + 3 * (bkN nx q)) 1) 0 = true) (hx8 : pop (ml (6 + 3 * (bkN nx q)) 1) ≤ 8) : Con l y_Nm_undo c_Nm_undo 2 (some .int) 8 270 o [.ref (ads o (0)), .int (nI (q))] mi ml (fun v m z => v = some (.int (nI nb)) ∧ PtOK m z 75 (ml (6 + 3 * (bkN nx q)) 1) ∧ (∀ t, t ≠ 75 → t ≠ 76 → m t = (bcI (u2 (u2 mi 4 1 (nI (bkN nx q))) 4 2 (nI (c - q))) 1 (6 + 3 * (bkN nx q)) nb) t) ∧ ∀ t, t ≠ 77 → z t = (bcL ml 1 (6 + 3 * (bkN nx q)) nb) t) := by
  refine Con.mk (by decide) (Nat.le_of_ble_eq_true rfl) (fun γ X => ?_)
  show V γ o 2 mi ml 0 [(0, .ref (ads o (0))), (1, .int (nI (q)))] []
  refine r_iload_n X 1 d_Nm_undo_0 rfl rfl ?_
  refine r_iconst X (v := nI (1)) d_Nm_undo_1 (by decide) ?_
  refine r_iclt X (tgt := 11) (c := q < 1) d_Nm_undo_2 (by decide) (nI_ltI (by omega) (Nat.le_of_ble_eq_true rfl)) (fun c_2 => ?_) (fun c_2 => ?_)
  · -- taken
    exact False.elim (by omega)
  · -- not taken
    refine r_iload_n X 1 d_Nm_undo_5 rfl rfl ?_
    refine r_bipush X (v := nI (20)) d_Nm_undo_6 (by decide) ?_
    refine r_icle X (tgt := 14) (c := q ≤ 20) d_Nm_undo_8 (by decide) (nI_leI (by omega) (Nat.le_of_ble_eq_true rfl)) (fun c_8 => ?_) (fun c_8 => ?_)
    · -- taken
      refine r_iload_n X 1 d_Nm_undo_14 rfl rfl ?_
      refine r_aload_n X 0 d_Nm_undo_15 rfl rfl ?_
      refine r_get X f_Nm_19 b_0 e_0 (v := .ref (ads o (4))) rfl d_Nm_undo_16 ?_
      refine r_get X f_Nm_136 b_4 e_4 (v := .int (nI (c))) (congrArg (fun z => some (Value.int z)) (hc)) d_Nm_undo_19 ?_
      refine r_icle X (tgt := 28) (c := q ≤ c) d_Nm_undo_22 (by decide) (nI_leI (by omega) (by omega)) (fun c_22 => ?_) (fun c_22 => ?_)
      · -- taken
        refine r_aload_n X 0 d_Nm_undo_28 rfl rfl ?_
        refine r_get X f_Nm_19 b_0 e_0 (v := .ref (ads o (4))) rfl d_Nm_undo_29 ?_
        refine r_iload_n X 1 d_Nm_undo_32 rfl rfl ?_
        refine r_aload_n X 0 d_Nm_undo_33 rfl rfl ?_
        refine r_get X f_Nm_10 b_0 e_0 (v := .ref (ads o (1))) rfl d_Nm_undo_34 ?_
        refine r_callV X (m_Pa_bringBack l o mi ml q nx c nb (hnx) hnx20 (hc) hc20 hq1 hqc (by omega) (hnb) hnb40) ok_Pa_bringBack w_Nm_212 rfl b_4 e_4 rfl ⟨Nat.le_of_ble_eq_true rfl, Nat.le_of_ble_eq_true rfl⟩ (rest := []) rfl (Nat.le_of_ble_eq_true rfl) d_Nm_undo_37 ?_
        refine kD (st' := []) rfl ?_
        refine r_aload_n X 0 d_Nm_undo_40 rfl rfl ?_
        refine r_get X f_Nm_33 b_0 e_0 (v := .ref (ads o (75))) rfl d_Nm_undo_41 ?_
        refine r_aload_n X 0 d_Nm_undo_44 rfl rfl ?_
        refine r_get X f_Nm_10 b_0 e_0 (v := .ref (ads o (1))) rfl d_Nm_undo_45 ?_
        refine r_get X f_Nm_37 b_1 e_1 (v := .long ((ml (6 + 3 * (bkN nx q)) 1))) (congrArg (fun z => some (Value.long z)) ((by unfold bcL; rw [cpL_n _ (by decide), u2_s, uf_s]))) d_Nm_undo_48 ?_
        refine r_callV X (m_Pt_beginAt l o (bcI (u2 (u2 mi 4 1 (nI (bkN nx q))) 4 2 (nI (c - q))) 1 (6 + 3 * (bkN nx q)) nb) (bcL ml 1 (6 + 3 * (bkN nx q)) nb) 75 (ml (6 + 3 * (bkN nx q)) 1) (Or.inl rfl) (hx0) (hx8)) ok_Pt_beginAt w_Nm_41 rfl b_75 e_75 rfl ⟨Nat.le_of_ble_eq_true rfl, Nat.le_of_ble_eq_true rfl⟩ (rest := []) rfl (Nat.le_of_ble_eq_true rfl) d_Nm_undo_51 ?_
        rintro _ mb1 zb1 ⟨rfl, hPt, hfb, hgb⟩
        show V γ o 2 mb1 zb1 54 [(0, .ref (ads o (0))), (1, .int (nI (q)))] []
        refine r_aload_n X 0 d_Nm_undo_54 rfl rfl ?_
        refine r_get X f_Nm_10 b_0 e_0 (v := .ref (ads o (1))) rfl d_Nm_undo_55 ?_
        refine r_get X f_Nm_83 b_1 e_1 (v := .int (nI (nb))) (congrArg (fun z => some (Value.int z)) ((by rw [hfb 1 (by decide) (by decide)] <;> exact (by unfold bcI; rw [cpL_n _ (by decide), u2_s, uf_s])))) d_Nm_undo_58 ?_
        refine r_end_i X d_Nm_undo_61 ?_
        exact ⟨rfl, hPt, hfb, hgb⟩
      · -- not taken
        exact False.elim (by omega)
    · -- not taken
      exact False.elim (by omega)

set_option maxHeartbeats 4000000 in
set_option maxRecDepth 100000 in
theorem m_Nm_isNear (l : Launch) (o : OM) (mi : MI) (ml : ML) (k : Nat) (b : Nat) (P : Nat) (hP : mi 75 2 = nI P) (hP8 : P ≤ 8) (hP1 : 1 ≤ P) (hk : k < 40) (hb : b ≤ 64) : ConD l y_Nm_isNear c_Nm_isNear 4 (some .boolean) 3 65 o [.ref (ads o (0)), .int (nI (k)), .int (nI (b))] mi ml (some (.int (bI (nearQ (mi 3 k) (ds (ml 2 k) (ml 1 0)) b P)))) mi ml := by
  refine Con.mk (by decide) (Nat.le_of_ble_eq_true rfl) (fun γ X => ?_)
  show V γ o 4 mi ml 0 [(0, .ref (ads o (0))), (1, .int (nI (k))), (2, .int (nI (b)))] []
  refine r_aload_n X 0 d_Nm_isNear_0 rfl rfl ?_
  refine r_get X f_Nm_10 b_0 e_0 (v := .ref (ads o (1))) rfl d_Nm_isNear_1 ?_
  refine r_iload_n X 1 d_Nm_isNear_4 rfl rfl ?_
  refine r_callV X (m_St_fromHand l o mi ml 1 k isSt.now hk) ok_St_fromHand w_Nm_151 rfl b_1 e_1 rfl ⟨Nat.le_of_ble_eq_true rfl, Nat.le_of_ble_eq_true rfl⟩ (rest := []) rfl (Nat.le_of_ble_eq_true rfl) d_Nm_isNear_5 ?_
  refine kD (st' := [.int (nI (ds (ml 2 k) (ml 1 0)))]) rfl ?_
  refine r_istore_n X [(3, .int (nI (ds (ml 2 k) (ml 1 0)))), (0, .ref (ads o (0))), (1, .int (nI (k))), (2, .int (nI (b)))] d_Nm_isNear_8 rfl (Nat.le_of_ble_eq_true rfl) rfl ?_
  refine r_iload_n X 0 d_Nm_isNear_9 rfl rfl ?_
  refine r_iload_n X 3 d_Nm_isNear_10 rfl rfl ?_
  refine r_icgt X (tgt := 27) (c := b < (ds (ml 2 k) (ml 1 0))) d_Nm_isNear_11 (by decide) (nI_ltI (by omega) (ds_lt _ _)) (fun c_11 => ?_) (fun c_11 => ?_)
  · -- taken
    refine r_iconst X (v := nI (0)) d_Nm_isNear_27 (by decide) ?_
    refine r_end_z X (rfl) d_Nm_isNear_28 ?_
    refine ⟨?_, rfl, rfl⟩; rw [show nearQ (mi 3 k) (ds (ml 2 k) (ml 1 0)) b P = false from by unfold nearQ; simp_all]; rfl
  · -- not taken
    refine r_aload_n X 1 d_Nm_isNear_14 rfl rfl ?_
    refine r_get X f_Nm_10 b_0 e_0 (v := .ref (ads o (1))) rfl d_Nm_isNear_15 ?_
    refine r_get X f_Nm_147 b_1 e_1 (v := .ref (ads o (3))) rfl d_Nm_isNear_18 ?_
    refine r_iload_n X 2 d_Nm_isNear_21 rfl rfl ?_
    refine r_iald X (v := (mi 3 k)) b_3 e_3 (Nat.le_of_ble_eq_true rfl) (by omega) rfl d_Nm_isNear_22 ?_
    refine r_iconst X (v := nI (1)) d_Nm_isNear_23 (by decide) ?_
    refine r_icneP X (tgt := 29) (c := (mi 3 k) = (nI (1))) d_Nm_isNear_24 (by decide) (Iff.rfl) (fun c_24 => ?_) (fun c_24 => ?_)
    · -- taken
      refine r_aload_n X 1 d_Nm_isNear_29 rfl rfl ?_
      refine r_get X f_Nm_10 b_0 e_0 (v := .ref (ads o (1))) rfl d_Nm_isNear_30 ?_
      refine r_get X f_Nm_147 b_1 e_1 (v := .ref (ads o (3))) rfl d_Nm_isNear_33 ?_
      refine r_iload_n X 2 d_Nm_isNear_36 rfl rfl ?_
      refine r_iald X (v := (mi 3 k)) b_3 e_3 (Nat.le_of_ble_eq_true rfl) (by omega) rfl d_Nm_isNear_37 ?_
      have hJ_1 : V γ o 4 mi ml 64 [(3, .int (nI (ds (ml 2 k) (ml 1 0)))), (0, .ref (ads o (0))), (1, .int (nI (k))), (2, .int (nI (b)))] [.int (bI ((decide ((mi 3 k) = 0) || (decide ((P - 1) ≤ b) || !decide (((b) / (2)) < (ds (ml 2 k) (ml 1 0)))))))] := by
        refine r_end_z X (bI_nar _) d_Nm_isNear_64 ?_
        refine ⟨?_, rfl, rfl⟩; exact congrArg (fun z => some (Value.int (bI z))) (show _ = _ from by unfold nearQ; simp [c_11, c_24])
      refine r_ifeq X (tgt := 59) (c := (mi 3 k) = 0) d_Nm_isNear_38 (by decide) (Iff.rfl) (fun c_38 => ?_) (fun c_38 => ?_)
      · -- taken
        refine r_iconst X (v := nI (1)) d_Nm_isNear_59 (by decide) ?_
        refine r_goto X (tgt := 64) d_Nm_isNear_60 (by decide) ?_
        exact V.eq hJ_1 rfl rfl rfl (by rw [show ((decide ((mi 3 k) = 0) || (decide ((P - 1) ≤ b) || !decide (((b) / (2)) < (ds (ml 2 k) (ml 1 0)))))) = true from by first | (simp only [eq_true c_38, decide_true, decide_false, Bool.not_true, Bool.not_false, Bool.true_and, Bool.false_and, Bool.and_true, Bool.and_false, Bool.true_or, Bool.false_or, Bool.or_true, Bool.or_false, if_true, if_false, ite_true, ite_false, cond_true, cond_false, Bool.false_eq_true, reduceIte]; done) | (simp [c_38]; done) | (simp_all; done)]; rfl)
      · -- not taken
        refine r_iload_n X 3 d_Nm_isNear_41 rfl rfl ?_
        refine r_aload_n X 1 d_Nm_isNear_42 rfl rfl ?_
        refine r_get X f_Nm_33 b_0 e_0 (v := .ref (ads o (75))) rfl d_Nm_isNear_43 ?_
        refine r_callV X (m_Pt_reach l o mi ml 75 P (Or.inl rfl) (hP) (by omega) (by omega)) ok_Pt_reach w_Nm_104 rfl b_75 e_75 rfl ⟨Nat.le_of_ble_eq_true rfl, Nat.le_of_ble_eq_true rfl⟩ (rest := [.int (nI (b))]) rfl (Nat.le_of_ble_eq_true rfl) d_Nm_isNear_46 ?_
        refine kD (st' := [.int (nI (P - 1)), .int (nI (b))]) rfl ?_
        refine r_icge X (tgt := 59) (c := (P - 1) ≤ b) d_Nm_isNear_49 (by decide) (nI_leI (by omega) (by omega)) (fun c_49 => ?_) (fun c_49 => ?_)
        · -- taken
          refine r_iconst X (v := nI (1)) d_Nm_isNear_59 (by decide) ?_
          refine r_goto X (tgt := 64) d_Nm_isNear_60 (by decide) ?_
          exact V.eq hJ_1 rfl rfl rfl (by rw [show ((decide ((mi 3 k) = 0) || (decide ((P - 1) ≤ b) || !decide (((b) / (2)) < (ds (ml 2 k) (ml 1 0)))))) = true from by first | (simp only [eq_false c_38, eq_true c_49, decide_true, decide_false, Bool.not_true, Bool.not_false, Bool.true_and, Bool.false_and, Bool.and_true, Bool.and_false, Bool.true_or, Bool.false_or, Bool.or_true, Bool.or_false, if_true, if_false, ite_true, ite_false, cond_true, cond_false, Bool.false_eq_true, reduceIte]; done) | (simp [c_38, c_49]; done) | (simp_all; done)]; rfl)
        · -- not taken
          refine r_iload_n X 0 d_Nm_isNear_52 rfl rfl ?_
          refine r_iload_n X 3 d_Nm_isNear_53 rfl rfl ?_
          refine r_iconst X (v := nI (2)) d_Nm_isNear_54 (by decide) ?_
          refine r_idiv X (v := nI ((b) / (2))) d_Nm_isNear_55 (nI_ne0 (by omega) (Nat.le_of_ble_eq_true rfl)) (pk_div (by omega) (by omega) (Nat.le_of_ble_eq_true rfl)) ?_
          refine r_icgt X (tgt := 63) (c := ((b) / (2)) < (ds (ml 2 k) (ml 1 0))) d_Nm_isNear_56 (by decide) (nI_ltI (by omega) (ds_lt _ _)) (fun c_56 => ?_) (fun c_56 => ?_)
          · -- taken
            refine r_iconst X (v := nI (0)) d_Nm_isNear_63 (by decide) ?_
            exact V.eq hJ_1 rfl rfl rfl (by rw [show ((decide ((mi 3 k) = 0) || (decide ((P - 1) ≤ b) || !decide (((b) / (2)) < (ds (ml 2 k) (ml 1 0)))))) = false from by first | (simp only [eq_false c_38, eq_false c_49, eq_true c_56, decide_true, decide_false, Bool.not_true, Bool.not_false, Bool.true_and, Bool.false_and, Bool.and_true, Bool.and_false, Bool.true_or, Bool.false_or, Bool.or_true, Bool.or_false, if_true, if_false, ite_true, ite_false, cond_true, cond_false, Bool.false_eq_true, reduceIte]; done) | (simp [c_38, c_49, c_56]; done) | (simp_all; done)]; rfl)
          · -- not taken
            refine r_iconst X (v := nI (1)) d_Nm_isNear_59 (by decide) ?_
            refine r_goto X (tgt := 64) d_Nm_isNear_60 (by decide) ?_
            exact V.eq hJ_1 rfl rfl rfl (by rw [show ((decide ((mi 3 k) = 0) || (decide ((P - 1) ≤ b) || !decide (((b) / (2)) < (ds (ml 2 k) (ml 1 0)))))) = true from by first | (simp only [eq_false c_38, eq_false c_49, eq_false c_56, decide_true, decide_false, Bool.not_true, Bool.not_false, Bool.true_and, Bool.false_and, Bool.and_true, Bool.and_false, Bool.true_or, Bool.false_or, Bool.or_true, Bool.or_false, if_true, if_false, ite_true, ite_false, cond_true, cond_false, Bool.false_eq_true, reduceIte]; done) | (simp [c_38, c_49, c_56]; done) | (simp_all; done)]; rfl)
    · -- not taken
      refine r_iconst X (v := nI (0)) d_Nm_isNear_27 (by decide) ?_
      refine r_end_z X (rfl) d_Nm_isNear_28 ?_
      refine ⟨?_, rfl, rfl⟩; rw [show nearQ (mi 3 k) (ds (ml 2 k) (ml 1 0)) b P = false from by unfold nearQ; simp_all]; rfl

set_option maxHeartbeats 4000000 in
set_option maxRecDepth 100000 in
theorem m_Nm_near_o (l : Launch) (o : OM) (mi : MI) (ml : ML) (q : Int32) (hq : q < nI 0 ∨ nI 64 < q) : ConD l y_Nm_near c_Nm_near 5 (some .long) 8 270 o [.ref (ads o (0)), .int (q)] mi ml (some (.long (0))) mi ml := by
  refine Con.mk (by decide) (Nat.le_of_ble_eq_true rfl) (fun γ X => ?_)
  show V γ o 5 mi ml 0 [(0, .ref (ads o (0))), (1, .int (q))] []
  refine r_iload_n X 1 d_Nm_near_0 rfl rfl ?_
  refine r_callS X (m_Nm_isDistance l o mi ml q) ok_Nm_isDistance w_Nm_223 rfl ⟨Nat.le_of_ble_eq_true rfl, Nat.le_of_ble_eq_true rfl⟩ (rest := []) rfl (Nat.le_of_ble_eq_true rfl) d_Nm_near_1 ?_
  refine kD (st' := [.int (bI (!decide (q < 0) && !decide (nI 64 < q)))]) rfl ?_
  refine r_ifneB X (tgt := 9) (b := !decide (q < 0) && !decide (nI 64 < q)) d_Nm_near_4 (by decide) (fun c_4 => ?_) (fun c_4 => ?_)
  · -- taken
    exact False.elim (by have e := rng_out (m := 64) hq; exact absurd (c_4.symm.trans e) (by decide))
  · -- not taken
    refine r_lconst X (v := 0) d_Nm_near_7 (by decide) ?_
    refine r_end_l X d_Nm_near_8 ?_
    first | exact ⟨rfl, rfl, rfl⟩ | (refine ⟨?_, rfl, rfl⟩; simp_all)

set_option maxHeartbeats 4000000 in
set_option maxRecDepth 100000 in
theorem m_Nm_near_i (l : Launch) (o : OM) (mi : MI) (ml : ML) (b : Nat) (n : Nat) (P : Nat) (hn : mi 1 2 = nI n) (hn40 : n ≤ 40) (hP : mi 75 2 = nI P) (hP8 : P ≤ 8) (hP1 : 1 ≤ P) (hb : b ≤ 64) : ConD l y_Nm_near c_Nm_near 5 (some .long) 8 270 o [.ref (ads o (0)), .int (nI (b))] mi ml (some (.long (stB (fun k => nearQ (mi 3 k) (ds (ml 2 k) (ml 1 0)) b P) n))) mi ml := by
  refine Con.mk (by decide) (Nat.le_of_ble_eq_true rfl) (fun γ X => ?_)
  show V γ o 5 mi ml 0 [(0, .ref (ads o (0))), (1, .int (nI (b)))] []
  refine r_iload_n X 1 d_Nm_near_0 rfl rfl ?_
  refine r_callS X (m_Nm_isDistance l o mi ml (nI (b))) ok_Nm_isDistance w_Nm_223 rfl ⟨Nat.le_of_ble_eq_true rfl, Nat.le_of_ble_eq_true rfl⟩ (rest := []) rfl (Nat.le_of_ble_eq_true rfl) d_Nm_near_1 ?_
  refine kD (st' := [.int (bI (!decide ((nI (b)) < 0) && !decide (nI 64 < (nI (b)))))]) rfl ?_
  refine r_ifneB X (tgt := 9) (b := !decide ((nI (b)) < 0) && !decide (nI 64 < (nI (b)))) d_Nm_near_4 (by decide) (fun c_4 => ?_) (fun c_4 => ?_)
  · -- taken
    refine r_lconst X (v := 0) d_Nm_near_9 (by decide) ?_
    refine r_lstore_n X [(2, .long (0)), (0, .ref (ads o (0))), (1, .int (nI (b)))] d_Nm_near_10 rfl (Nat.le_of_ble_eq_true rfl) rfl ?_
    refine r_iconst X (v := nI (0)) d_Nm_near_11 (by decide) ?_
    refine r_istore X [(4, .int (nI (0))), (2, .long (0)), (0, .ref (ads o (0))), (1, .int (nI (b)))] d_Nm_near_12 (Nat.le_of_ble_eq_true rfl) rfl ?_
    have L14_1 : ∀ (d_i i : Nat), i + d_i = n → V γ o 5 mi ml 14 [(0, .ref (ads o (0))), (1, .int (nI (b))), (2, .long (stB (fun k => nearQ (mi 3 k) (ds (ml 2 k) (ml 1 0)) b P) (i))), (4, .int (nI (i)))] [] := by
      intro d_i
      induction d_i with
      | zero =>
        intro i hi_L14_1 
        have he_L14_1 : n = i := by omega
        subst he_L14_1
        refine r_iload X 3 d_Nm_near_14 rfl ?_
        refine r_aload_n X 0 d_Nm_near_16 rfl rfl ?_
        refine r_get X f_Nm_10 b_0 e_0 (v := .ref (ads o (1))) rfl d_Nm_near_17 ?_
        refine r_get X f_Nm_83 b_1 e_1 (v := .int (nI (n))) (congrArg (fun z => some (Value.int z)) (hn)) d_Nm_near_20 ?_
        refine r_icge X (tgt := 49) (c := n ≤ n) d_Nm_near_23 (by decide) (nI_leI (by omega) (by omega)) (fun c_23 => ?_) (fun c_23 => ?_)
        · -- taken
          refine r_lload_n X 2 d_Nm_near_49 rfl rfl ?_
          refine r_end_l X d_Nm_near_50 ?_
          first | exact ⟨rfl, rfl, rfl⟩ | (refine ⟨?_, rfl, rfl⟩; simp_all)
        · -- not taken
          exact False.elim (by omega)
      | succ d_i ih_L14_1 =>
        intro i hi_L14_1 
        have hlt_L14_1 : i < n := by omega
        refine r_iload X 3 d_Nm_near_14 rfl ?_
        refine r_aload_n X 0 d_Nm_near_16 rfl rfl ?_
        refine r_get X f_Nm_10 b_0 e_0 (v := .ref (ads o (1))) rfl d_Nm_near_17 ?_
        refine r_get X f_Nm_83 b_1 e_1 (v := .int (nI (n))) (congrArg (fun z => some (Value.int z)) (hn)) d_Nm_near_20 ?_
        refine r_icge X (tgt := 49) (c := n ≤ i) d_Nm_near_23 (by decide) (nI_leI (by omega) (by omega)) (fun c_23_2 => ?_) (fun c_23_2 => ?_)
        · -- taken
          exact False.elim (by omega)
        · -- not taken
          refine r_aload_n X 0 d_Nm_near_26 rfl rfl ?_
          refine r_iload X 3 d_Nm_near_27 rfl ?_
          refine r_iload_n X 1 d_Nm_near_29 rfl rfl ?_
          refine r_callV X (m_Nm_isNear l o mi ml i b P (hP) hP8 hP1 (by omega) hb) ok_Nm_isNear w_Nm_226 rfl b_0 e_0 rfl ⟨Nat.le_of_ble_eq_true rfl, Nat.le_of_ble_eq_true rfl⟩ (rest := []) rfl (Nat.le_of_ble_eq_true rfl) d_Nm_near_30 ?_
          refine kD (st' := [.int (bI (nearQ (mi 3 i) (ds (ml 2 i) (ml 1 0)) b P))]) rfl ?_
          refine r_ifeqB X (tgt := 43) (b := nearQ (mi 3 i) (ds (ml 2 i) (ml 1 0)) b P) d_Nm_near_33 (by decide) (fun c_33 => ?_) (fun c_33 => ?_)
          · -- taken
            refine r_iinc X 3 (v := nI (i + 1)) [(4, .int (nI (i + 1))), (0, .ref (ads o (0))), (1, .int (nI (b))), (2, .long (stB (fun k => nearQ (mi 3 k) (ds (ml 2 k) (ml 1 0)) b P) (i)))] d_Nm_near_43 rfl (nI_add _ 1) (Nat.le_of_ble_eq_true rfl) rfl ?_
            refine r_goto X (tgt := 14) d_Nm_near_46 (by decide) ?_
            refine V.wk [1, 2, 3, 0] (V.eq (ih_L14_1 (i + 1) (by omega) ) ?_ ?_ ?_ rfl) (rfl : lv_pick _ [1, 2, 3, 0] = [(0, .ref (ads o (0))), (1, .int (nI (b))), (2, .long (stB (fun k => nearQ (mi 3 k) (ds (ml 2 k) (ml 1 0)) b P) (i))), (4, .int (nI (i + 1)))])
            · rfl
            · rfl
            · first | (rw [stB_y (by assumption)]; done) | (rw [stB_n (by assumption)]; done) | (rw [stB_y] <;> simp_all; done) | (rw [stB_n] <;> simp_all; done)
          · -- not taken
            refine r_lload_n X 2 d_Nm_near_36 rfl rfl ?_
            refine r_lconst X (v := 1) d_Nm_near_37 (by decide) ?_
            refine r_iload X 3 d_Nm_near_38 rfl ?_
            refine r_lshl X (v := shl (1) (i)) d_Nm_near_40 (rfl) ?_
            refine r_lor X (v := (stB (fun k => nearQ (mi 3 k) (ds (ml 2 k) (ml 1 0)) b P) (i)) ||| (shl (1) (i))) d_Nm_near_41 (rfl) ?_
            refine r_lstore_n X [(2, .long ((stB (fun k => nearQ (mi 3 k) (ds (ml 2 k) (ml 1 0)) b P) (i)) ||| (shl (1) (i)))), (0, .ref (ads o (0))), (1, .int (nI (b))), (4, .int (nI (i)))] d_Nm_near_42 rfl (Nat.le_of_ble_eq_true rfl) rfl ?_
            refine r_iinc X 3 (v := nI (i + 1)) [(4, .int (nI (i + 1))), (2, .long ((stB (fun k => nearQ (mi 3 k) (ds (ml 2 k) (ml 1 0)) b P) (i)) ||| (shl (1) (i)))), (0, .ref (ads o (0))), (1, .int (nI (b)))] d_Nm_near_43 rfl (nI_add _ 1) (Nat.le_of_ble_eq_true rfl) rfl ?_
            refine r_goto X (tgt := 14) d_Nm_near_46 (by decide) ?_
            refine V.wk [2, 3, 1, 0] (V.eq (ih_L14_1 (i + 1) (by omega) ) ?_ ?_ ?_ rfl) (rfl : lv_pick _ [2, 3, 1, 0] = [(0, .ref (ads o (0))), (1, .int (nI (b))), (2, .long ((stB (fun k => nearQ (mi 3 k) (ds (ml 2 k) (ml 1 0)) b P) (i)) ||| (shl (1) (i)))), (4, .int (nI (i + 1)))])
            · rfl
            · rfl
            · first | (rw [stB_y (by assumption)]; done) | (rw [stB_n (by assumption)]; done) | (rw [stB_y] <;> simp_all; done) | (rw [stB_n] <;> simp_all; done)
    refine V.wk [2, 3, 1, 0] (V.eq (L14_1 (n - 0) 0 (by omega) ) ?_ ?_ ?_ rfl) (rfl : lv_pick _ [2, 3, 1, 0] = [(0, .ref (ads o (0))), (1, .int (nI (b))), (2, .long (0)), (4, .int (nI (0)))])
    · rfl
    · rfl
    · rfl
  · -- not taken
    exact False.elim (by have e := rng_in (q := b) (m := 64) (by omega) (by decide); exact absurd (c_4.symm.trans e) (by decide))

set_option maxHeartbeats 4000000 in
set_option maxRecDepth 100000 in
theorem m_Nm_nearest (l : Launch) (o : OM) (mi : MI) (ml : ML) (w : Int32) (n : Nat) (hn : mi 1 2 = nI n) (hn40 : n ≤ 40) : ConD l y_Nm_nearest c_Nm_nearest 2 (some .int) 8 270 o [.ref (ads o (0)), .int (w)] mi ml (some (.int ((nrsC ml n w)))) mi ml := by
  refine Con.mk (by decide) (Nat.le_of_ble_eq_true rfl) (fun γ X => ?_)
  show V γ o 2 mi ml 0 [(0, .ref (ads o (0))), (1, .int (w))] []
  refine r_aload_n X 0 d_Nm_nearest_0 rfl rfl ?_
  refine r_get X f_Nm_10 b_0 e_0 (v := .ref (ads o (1))) rfl d_Nm_nearest_1 ?_
  refine r_iload_n X 1 d_Nm_nearest_4 rfl rfl ?_
  refine r_callV X (m_St_byDistance l o mi ml 1 w n isSt.now (hn) hn40) ok_St_byDistance w_Nm_108 rfl b_1 e_1 rfl ⟨Nat.le_of_ble_eq_true rfl, Nat.le_of_ble_eq_true rfl⟩ (rest := []) rfl (Nat.le_of_ble_eq_true rfl) d_Nm_nearest_5 ?_
  refine kD (st' := [.int ((fromB (fun k => decide (nI (ahd (fun q => ds (ml 2 q) (ml 1 0)) n k) = w)) n 0))]) rfl ?_
  refine r_end_i X d_Nm_nearest_8 ?_
  first | exact ⟨rfl, rfl, rfl⟩ | (refine ⟨?_, rfl, rfl⟩; simp_all)

set_option maxHeartbeats 4000000 in
set_option maxRecDepth 100000 in
theorem m_Nm_apart_i (l : Launch) (o : OM) (mi : MI) (ml : ML) (j : Nat) (k : Nat) (n : Nat) (hn : mi 1 2 = nI n) (hn40 : n ≤ 40) (hj : j < n) (hk : k < n) (hjk : j ≠ k) : ConD l y_Nm_apart c_Nm_apart 3 (some .int) 8 270 o [.ref (ads o (0)), .int (nI (j)), .int (nI (k))] mi ml (some (.int (nI (ds (ml 2 j) (ml 2 k))))) mi ml := by
  refine Con.mk (by decide) (Nat.le_of_ble_eq_true rfl) (fun γ X => ?_)
  show V γ o 3 mi ml 0 [(0, .ref (ads o (0))), (1, .int (nI (j))), (2, .int (nI (k)))] []
  refine r_aload_n X 0 d_Nm_apart_0 rfl rfl ?_
  refine r_get X f_Nm_10 b_0 e_0 (v := .ref (ads o (1))) rfl d_Nm_apart_1 ?_
  refine r_iload_n X 1 d_Nm_apart_4 rfl rfl ?_
  refine r_iload_n X 2 d_Nm_apart_5 rfl rfl ?_
  refine r_callV X (m_St_hasBoth l o mi ml 1 (nI (j)) (nI (k)) n isSt.now (hn) hn40) ok_St_hasBoth w_Nm_230 rfl b_1 e_1 rfl ⟨Nat.le_of_ble_eq_true rfl, Nat.le_of_ble_eq_true rfl⟩ (rest := []) rfl (Nat.le_of_ble_eq_true rfl) d_Nm_apart_6 ?_
  refine kD (st' := [.int (bI ((isMk n (nI (j)) && (isMk n (nI (k)) && !decide ((nI (j)) = (nI (k)))))))]) rfl ?_
  refine r_ifeqB X (tgt := 24) (b := (isMk n (nI (j)) && (isMk n (nI (k)) && !decide ((nI (j)) = (nI (k)))))) d_Nm_apart_9 (by decide) (fun c_9 => ?_) (fun c_9 => ?_)
  · -- taken
    exact False.elim (by have e := both_in hn40 hj hk hjk; exact absurd (c_9.symm.trans e) (by decide))
  · -- not taken
    refine r_aload_n X 0 d_Nm_apart_12 rfl rfl ?_
    refine r_get X f_Nm_10 b_0 e_0 (v := .ref (ads o (1))) rfl d_Nm_apart_13 ?_
    refine r_iload_n X 1 d_Nm_apart_16 rfl rfl ?_
    refine r_iload_n X 2 d_Nm_apart_17 rfl rfl ?_
    refine r_callV X (m_St_between l o mi ml 1 j k isSt.now (by omega) (by omega)) ok_St_between w_Nm_171 rfl b_1 e_1 rfl ⟨Nat.le_of_ble_eq_true rfl, Nat.le_of_ble_eq_true rfl⟩ (rest := []) rfl (Nat.le_of_ble_eq_true rfl) d_Nm_apart_18 ?_
    refine kD (st' := [.int (nI (ds (ml 2 j) (ml 2 k)))]) rfl ?_
    refine r_goto X (tgt := 26) d_Nm_apart_21 (by decide) ?_
    refine r_end_i X d_Nm_apart_26 ?_
    first | exact ⟨rfl, rfl, rfl⟩ | (refine ⟨?_, rfl, rfl⟩; simp_all)

set_option maxHeartbeats 4000000 in
set_option maxRecDepth 100000 in
theorem m_Nm_apart_u (l : Launch) (o : OM) (mi : MI) (ml : ML) (j : Int32) (k : Int32) (n : Nat) (hn : mi 1 2 = nI n) (hn40 : n ≤ 40) (hu : (isMk n j && (isMk n k && !decide (j = k))) = false) : ConD l y_Nm_apart c_Nm_apart 3 (some .int) 8 270 o [.ref (ads o (0)), .int (j), .int (k)] mi ml (some (.int (((-1000000001 : Int32))))) mi ml := by
  refine Con.mk (by decide) (Nat.le_of_ble_eq_true rfl) (fun γ X => ?_)
  show V γ o 3 mi ml 0 [(0, .ref (ads o (0))), (1, .int (j)), (2, .int (k))] []
  refine r_aload_n X 0 d_Nm_apart_0 rfl rfl ?_
  refine r_get X f_Nm_10 b_0 e_0 (v := .ref (ads o (1))) rfl d_Nm_apart_1 ?_
  refine r_iload_n X 1 d_Nm_apart_4 rfl rfl ?_
  refine r_iload_n X 2 d_Nm_apart_5 rfl rfl ?_
  refine r_callV X (m_St_hasBoth l o mi ml 1 j k n isSt.now (hn) hn40) ok_St_hasBoth w_Nm_230 rfl b_1 e_1 rfl ⟨Nat.le_of_ble_eq_true rfl, Nat.le_of_ble_eq_true rfl⟩ (rest := []) rfl (Nat.le_of_ble_eq_true rfl) d_Nm_apart_6 ?_
  refine kD (st' := [.int (bI ((isMk n j && (isMk n k && !decide (j = k)))))]) rfl ?_
  refine r_ifeqB X (tgt := 24) (b := (isMk n j && (isMk n k && !decide (j = k)))) d_Nm_apart_9 (by decide) (fun c_9 => ?_) (fun c_9 => ?_)
  · -- taken
    refine r_ldc X (v := ((-1000000001 : Int32))) k_Nm_146 (by decide) d_Nm_apart_24 ?_
    refine r_end_i X d_Nm_apart_26 ?_
    first | exact ⟨rfl, rfl, rfl⟩ | (refine ⟨?_, rfl, rfl⟩; simp_all)
  · -- not taken
    exact False.elim (by exact absurd (c_9.symm.trans hu) (by decide))
