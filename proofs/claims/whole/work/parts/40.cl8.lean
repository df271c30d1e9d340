set_option maxHeartbeats 4000000 in
set_option maxRecDepth 100000 in
theorem m_Nm_groups_o (l : Launch) (o : OM) (mi : MI) (ml : ML) (q : Int32) (hq : q < nI 0 ∨ nI 64 < q) : ConD l y_Nm_groups c_Nm_groups 2 (some .int) 8 270 o [.ref (ads o (0)), .int (q)] mi ml (some (.int (((-1000000002 : Int32))))) mi ml := by
  refine Con.mk (by decide) (Nat.le_of_ble_eq_true rfl) (fun γ X => ?_)
  show V γ o 2 mi ml 0 [(0, .ref (ads o (0))), (1, .int (q))] []
  refine r_iload_n X 1 d_Nm_groups_0 rfl rfl ?_
  refine r_callS X (m_Nm_isDistance l o mi ml q) ok_Nm_isDistance w_Nm_223 rfl ⟨Nat.le_of_ble_eq_true rfl, Nat.le_of_ble_eq_true rfl⟩ (rest := []) rfl (Nat.le_of_ble_eq_true rfl) d_Nm_groups_1 ?_
  refine kD (st' := [.int (bI (!decide (q < 0) && !decide (nI 64 < q)))]) rfl ?_
  refine r_ifneB X (tgt := 10) (b := !decide (q < 0) && !decide (nI 64 < q)) d_Nm_groups_4 (by decide) (fun c_4 => ?_) (fun c_4 => ?_)
  · -- taken
    exact False.elim (by have e := rng_out (m := 64) hq; exact absurd (c_4.symm.trans e) (by decide))
  · -- not taken
    refine r_ldc X (v := ((-1000000002 : Int32))) k_Nm_137 (by decide) d_Nm_groups_7 ?_
    refine r_end_i X d_Nm_groups_9 ?_
    first | exact ⟨rfl, rfl, rfl⟩ | (refine ⟨?_, rfl, rfl⟩; simp_all)

set_option maxHeartbeats 4000000 in
set_option maxRecDepth 100000 in
theorem m_Nm_groups_i (l : Launch) (o : OM) (mi : MI) (ml : ML) (b : Nat) (n : Nat) (hn : mi 1 2 = nI n) (hn40 : n ≤ 40) (hb : b ≤ 64) : Con l y_Nm_groups c_Nm_groups 2 (some .int) 8 270 o [.ref (ads o (0)), .int (nI (b))] mi ml (fun v m z => v = some (.int (nI (jnS (clS (ml 2) n b) n n).2)) ∧ (∀ t, t ≠ 81 → m t = mi t) ∧ ∀ t, t ≠ 82 → t ≠ 83 → z t = ml t) := by
  refine Con.mk (by decide) (Nat.le_of_ble_eq_true rfl) (fun γ X => ?_)
  show V γ o 2 mi ml 0 [(0, .ref (ads o (0))), (1, .int (nI (b)))] []
  refine r_iload_n X 1 d_Nm_groups_0 rfl rfl ?_
  refine r_callS X (m_Nm_isDistance l o mi ml (nI (b))) ok_Nm_isDistance w_Nm_223 rfl ⟨Nat.le_of_ble_eq_true rfl, Nat.le_of_ble_eq_true rfl⟩ (rest := []) rfl (Nat.le_of_ble_eq_true rfl) d_Nm_groups_1 ?_
  refine kD (st' := [.int (bI (!decide ((nI (b)) < 0) && !decide (nI 64 < (nI (b)))))]) rfl ?_
  refine r_ifneB X (tgt := 10) (b := !decide ((nI (b)) < 0) && !decide (nI 64 < (nI (b)))) d_Nm_groups_4 (by decide) (fun c_4 => ?_) (fun c_4 => ?_)
  · -- taken
    refine r_aload_n X 0 d_Nm_groups_10 rfl rfl ?_
    refine r_get X f_Nm_51 b_0 e_0 (v := .ref (ads o (81))) rfl d_Nm_groups_11 ?_
    refine r_aload_n X 0 d_Nm_groups_14 rfl rfl ?_
    refine r_get X f_Nm_10 b_0 e_0 (v := .ref (ads o (1))) rfl d_Nm_groups_15 ?_
    refine r_iload_n X 1 d_Nm_groups_18 rfl rfl ?_
    refine r_callV X (m_Gr_join l o mi ml b n (hn) hn40 hb) ok_Gr_join w_Nm_233 rfl b_81 e_81 rfl ⟨Nat.le_of_ble_eq_true rfl, Nat.le_of_ble_eq_true rfl⟩ (rest := []) rfl (Nat.le_of_ble_eq_true rfl) d_Nm_groups_19 ?_
    rintro _ mg zg ⟨rfl, hcnt, hjn, hfi, hfl⟩
    have hjl := jnS_le (clS (ml 2) n b) n n
    show V γ o 2 mg zg 22 [(0, .ref (ads o (0))), (1, .int (nI (b)))] []
    refine r_aload_n X 0 d_Nm_groups_22 rfl rfl ?_
    refine r_get X f_Nm_51 b_0 e_0 (v := .ref (ads o (81))) rfl d_Nm_groups_23 ?_
    refine r_get X f_Nm_237 b_81 e_81 (v := .int (nI ((jnS (clS (ml 2) n b) n n).2))) (congrArg (fun z => some (Value.int z)) (hcnt)) d_Nm_groups_26 ?_
    refine r_end_i X d_Nm_groups_29 ?_
    exact ⟨rfl, hfi, hfl⟩
  · -- not taken
    exact False.elim (by have e := rng_in (q := b) (m := 64) (by omega) (by decide); exact absurd (c_4.symm.trans e) (by decide))

set_option maxHeartbeats 4000000 in
set_option maxRecDepth 100000 in
theorem m_Nm_group_o (l : Launch) (o : OM) (mi : MI) (ml : ML) (q : Int32) (g : Int32) (w : Int32) (hq : q < nI 0 ∨ nI 64 < q) : ConD l y_Nm_group c_Nm_group 4 (some .int) 8 270 o [.ref (ads o (0)), .int (q), .int (g), .int (w)] mi ml (some (.int (((-1000000002 : Int32))))) mi ml := by
  refine Con.mk (by decide) (Nat.le_of_ble_eq_true rfl) (fun γ X => ?_)
  show V γ o 4 mi ml 0 [(0, .ref (ads o (0))), (1, .int (q)), (2, .int (g)), (3, .int (w))] []
  refine r_iload_n X 1 d_Nm_group_0 rfl rfl ?_
  refine r_callS X (m_Nm_isDistance l o mi ml q) ok_Nm_isDistance w_Nm_223 rfl ⟨Nat.le_of_ble_eq_true rfl, Nat.le_of_ble_eq_true rfl⟩ (rest := []) rfl (Nat.le_of_ble_eq_true rfl) d_Nm_group_1 ?_
  refine kD (st' := [.int (bI (!decide (q < 0) && !decide (nI 64 < q)))]) rfl ?_
  refine r_ifneB X (tgt := 10) (b := !decide (q < 0) && !decide (nI 64 < q)) d_Nm_group_4 (by decide) (fun c_4 => ?_) (fun c_4 => ?_)
  · -- taken
    exact False.elim (by have e := rng_out (m := 64) hq; exact absurd (c_4.symm.trans e) (by decide))
  · -- not taken
    refine r_ldc X (v := ((-1000000002 : Int32))) k_Nm_137 (by decide) d_Nm_group_7 ?_
    refine r_end_i X d_Nm_group_9 ?_
    first | exact ⟨rfl, rfl, rfl⟩ | (refine ⟨?_, rfl, rfl⟩; simp_all)

set_option maxHeartbeats 4000000 in
set_option maxRecDepth 100000 in
theorem m_Nm_group_u (l : Launch) (o : OM) (mi : MI) (ml : ML) (b : Nat) (g : Int32) (w : Int32) (n : Nat) (hn : mi 1 2 = nI n) (hn40 : n ≤ 40) (hb : b ≤ 64) (hu : isMk (jnS (clS (ml 2) n b) n n).2 g = false) : Con l y_Nm_group c_Nm_group 4 (some .int) 8 270 o [.ref (ads o (0)), .int (nI (b)), .int (g), .int (w)] mi ml (fun v m z => v = some (.int (-1000000001 : Int32)) ∧ (∀ t, t ≠ 81 → m t = mi t) ∧ ∀ t, t ≠ 82 → t ≠ 83 → z t = ml t) := by
  refine Con.mk (by decide) (Nat.le_of_ble_eq_true rfl) (fun γ X => ?_)
  show V γ o 4 mi ml 0 [(0, .ref (ads o (0))), (1, .int (nI (b))), (2, .int (g)), (3, .int (w))] []
  refine r_iload_n X 1 d_Nm_group_0 rfl rfl ?_
  refine r_callS X (m_Nm_isDistance l o mi ml (nI (b))) ok_Nm_isDistance w_Nm_223 rfl ⟨Nat.le_of_ble_eq_true rfl, Nat.le_of_ble_eq_true rfl⟩ (rest := []) rfl (Nat.le_of_ble_eq_true rfl) d_Nm_group_1 ?_
  refine kD (st' := [.int (bI (!decide ((nI (b)) < 0) && !decide (nI 64 < (nI (b)))))]) rfl ?_
  refine r_ifneB X (tgt := 10) (b := !decide ((nI (b)) < 0) && !decide (nI 64 < (nI (b)))) d_Nm_group_4 (by decide) (fun c_4 => ?_) (fun c_4 => ?_)
  · -- taken
    refine r_aload_n X 0 d_Nm_group_10 rfl rfl ?_
    refine r_get X f_Nm_51 b_0 e_0 (v := .ref (ads o (81))) rfl d_Nm_group_11 ?_
    refine r_aload_n X 0 d_Nm_group_14 rfl rfl ?_
    refine r_get X f_Nm_10 b_0 e_0 (v := .ref (ads o (1))) rfl d_Nm_group_15 ?_
    refine r_iload_n X 1 d_Nm_group_18 rfl rfl ?_
    refine r_callV X (m_Gr_join l o mi ml b n (hn) hn40 hb) ok_Gr_join w_Nm_233 rfl b_81 e_81 rfl ⟨Nat.le_of_ble_eq_true rfl, Nat.le_of_ble_eq_true rfl⟩ (rest := []) rfl (Nat.le_of_ble_eq_true rfl) d_Nm_group_19 ?_
    rintro _ mg zg ⟨rfl, hcnt, hjn, hfi, hfl⟩
    have hjl := jnS_le (clS (ml 2) n b) n n
    show V γ o 4 mg zg 22 [(0, .ref (ads o (0))), (1, .int (nI (b))), (2, .int (g)), (3, .int (w))] []
    refine r_aload_n X 0 d_Nm_group_22 rfl rfl ?_
    refine r_get X f_Nm_51 b_0 e_0 (v := .ref (ads o (81))) rfl d_Nm_group_23 ?_
    refine r_iload_n X 2 d_Nm_group_26 rfl rfl ?_
    refine r_callV X (m_Gr_has l o mg zg g ((jnS (clS (ml 2) n b) n n).2) (hcnt) (by omega)) ok_Gr_has w_Nm_238 rfl b_81 e_81 rfl ⟨Nat.le_of_ble_eq_true rfl, Nat.le_of_ble_eq_true rfl⟩ (rest := []) rfl (Nat.le_of_ble_eq_true rfl) d_Nm_group_27 ?_
    refine kD (st' := [.int (bI (isMk ((jnS (clS (ml 2) n b) n n).2) g))]) rfl ?_
    refine r_ifneB X (tgt := 36) (b := isMk ((jnS (clS (ml 2) n b) n n).2) g) d_Nm_group_30 (by decide) (fun c_30 => ?_) (fun c_30 => ?_)
    · -- taken
      exact False.elim (by rw [hu] at c_30; cases c_30)
    · -- not taken
      refine r_ldc X (v := ((-1000000001 : Int32))) k_Nm_146 (by decide) d_Nm_group_33 ?_
      refine r_end_i X d_Nm_group_35 ?_
      exact ⟨rfl, hfi, hfl⟩
  · -- not taken
    exact False.elim (by have e := rng_in (q := b) (m := 64) (by omega) (by decide); exact absurd (c_4.symm.trans e) (by decide))

set_option maxHeartbeats 4000000 in
set_option maxRecDepth 100000 in
theorem m_Nm_group_i (l : Launch) (o : OM) (mi : MI) (ml : ML) (b : Nat) (g : Nat) (w : Int32) (n : Nat) (hn : mi 1 2 = nI n) (hn40 : n ≤ 40) (hb : b ≤ 64) (hg0 : g < (jnS (clS (ml 2) n b) n n).2) : Con l y_Nm_group c_Nm_group 4 (some .int) 8 270 o [.ref (ads o (0)), .int (nI (b)), .int (nI (g)), .int (w)] mi ml (fun v m z => v = some (.int (oI (ix w 3) (-1000000002 : Int32) (grpC ml (clS (ml 2) n b) n g))) ∧ (∀ t, t ≠ 81 → m t = mi t) ∧ ∀ t, t ≠ 82 → t ≠ 83 → z t = ml t) := by
  refine Con.mk (by decide) (Nat.le_of_ble_eq_true rfl) (fun γ X => ?_)
  show V γ o 4 mi ml 0 [(0, .ref (ads o (0))), (1, .int (nI (b))), (2, .int (nI (g))), (3, .int (w))] []
  refine r_iload_n X 1 d_Nm_group_0 rfl rfl ?_
  refine r_callS X (m_Nm_isDistance l o mi ml (nI (b))) ok_Nm_isDistance w_Nm_223 rfl ⟨Nat.le_of_ble_eq_true rfl, Nat.le_of_ble_eq_true rfl⟩ (rest := []) rfl (Nat.le_of_ble_eq_true rfl) d_Nm_group_1 ?_
  refine kD (st' := [.int (bI (!decide ((nI (b)) < 0) && !decide (nI 64 < (nI (b)))))]) rfl ?_
  refine r_ifneB X (tgt := 10) (b := !decide ((nI (b)) < 0) && !decide (nI 64 < (nI (b)))) d_Nm_group_4 (by decide) (fun c_4 => ?_) (fun c_4 => ?_)
  · -- taken
    refine r_aload_n X 0 d_Nm_group_10 rfl rfl ?_
    refine r_get X f_Nm_51 b_0 e_0 (v := .ref (ads o (81))) rfl d_Nm_group_11 ?_
    refine r_aload_n X 0 d_Nm_group_14 rfl rfl ?_
    refine r_get X f_Nm_10 b_0 e_0 (v := .ref (ads o (1))) rfl d_Nm_group_15 ?_
    refine r_iload_n X 1 d_Nm_group_18 rfl rfl ?_
    refine r_callV X (m_Gr_join l o mi ml b n (hn) hn40 hb) ok_Gr_join w_Nm_233 rfl b_81 e_81 rfl ⟨Nat.le_of_ble_eq_true rfl, Nat.le_of_ble_eq_true rfl⟩ (rest := []) rfl (Nat.le_of_ble_eq_true rfl) d_Nm_group_19 ?_
    rintro _ mg zg ⟨rfl, hcnt, hjn, hfi, hfl⟩
    have hjl := jnS_le (clS (ml 2) n b) n n
    show V γ o 4 mg zg 22 [(0, .ref (ads o (0))), (1, .int (nI (b))), (2, .int (nI (g))), (3, .int (w))] []
    refine r_aload_n X 0 d_Nm_group_22 rfl rfl ?_
    refine r_get X f_Nm_51 b_0 e_0 (v := .ref (ads o (81))) rfl d_Nm_group_23 ?_
    refine r_iload_n X 2 d_Nm_group_26 rfl rfl ?_
    refine r_callV X (m_Gr_has l o mg zg (nI (g)) ((jnS (clS (ml 2) n b) n n).2) (hcnt) (by omega)) ok_Gr_has w_Nm_238 rfl b_81 e_81 rfl ⟨Nat.le_of_ble_eq_true rfl, Nat.le_of_ble_eq_true rfl⟩ (rest := []) rfl (Nat.le_of_ble_eq_true rfl) d_Nm_group_27 ?_
    refine kD (st' := [.int (bI (isMk ((jnS (clS (ml 2) n b) n n).2) (nI (g))))]) rfl ?_
    refine r_ifneB X (tgt := 36) (b := isMk ((jnS (clS (ml 2) n b) n n).2) (nI (g))) d_Nm_group_30 (by decide) (fun c_30 => ?_) (fun c_30 => ?_)
    · -- taken
      refine r_iload_n X 3 d_Nm_group_36 rfl rfl ?_
      rcases pk_ix w (n := 3) (by decide) with hs37 | hs37 | ⟨q37, hq37, rfl⟩
      · refine r_tswOut X (tgt := 107) d_Nm_group_37 (Or.inl (tsw_lo hs37)) (by decide) ?_
        refine r_ldc X (v := ((-1000000002 : Int32))) k_Nm_137 (by decide) d_Nm_group_107 ?_
        refine r_end_i X d_Nm_group_109 ?_
        refine ⟨?_, hfi, hfl⟩; rw [ix_lo hs37]; rfl
      · refine r_tswOut X (tgt := 107) d_Nm_group_37 (Or.inr (tsw_hi (by decide) hs37)) (by decide) ?_
        refine r_ldc X (v := ((-1000000002 : Int32))) k_Nm_137 (by decide) d_Nm_group_107 ?_
        refine r_end_i X d_Nm_group_109 ?_
        refine ⟨?_, hfi, hfl⟩; rw [ix_hi hs37]; rfl
      · match q37, hq37 with
        | 0, _ =>
          refine r_tswIn X (off := 27) (tgt := 64) d_Nm_group_37 (by decide) (by decide) (by decide) (by decide) ?_
          refine r_aload_n X 0 d_Nm_group_64 rfl rfl ?_
          refine r_get X f_Nm_51 b_0 e_0 (v := .ref (ads o (81))) rfl d_Nm_group_65 ?_
          refine r_get X f_Nm_239 b_81 e_81 (v := .ref (ads o (82))) rfl d_Nm_group_68 ?_
          refine r_iload_n X 2 d_Nm_group_71 rfl rfl ?_
          refine r_lald X (v := setC (clS (ml 2) n b) n g) b_82 e_82 (Nat.le_of_ble_eq_true rfl) (by omega) (set_at hjn (by omega)) d_Nm_group_72 ?_
          refine r_callS X (m_Lg_bitCount l o mg zg (setC (clS (ml 2) n b) n g)) ok_Lg_bitCount w_Nm_91 rfl ⟨Nat.le_of_ble_eq_true rfl, Nat.le_of_ble_eq_true rfl⟩ (rest := []) rfl (Nat.le_of_ble_eq_true rfl) d_Nm_group_73 ?_
          refine kD (st' := [.int (nI (pop (setC (clS (ml 2) n b) n g)))]) rfl ?_
          refine r_end_i X d_Nm_group_76 ?_
          refine ⟨?_, hfi, hfl⟩; rw [show ix (nI 0) 3 = some 0 from by decide]; rfl
        | 1, _ =>
          refine r_tswIn X (off := 40) (tgt := 77) d_Nm_group_37 (by decide) (by decide) (by decide) (by decide) ?_
          refine r_aload_n X 0 d_Nm_group_77 rfl rfl ?_
          refine r_get X f_Nm_51 b_0 e_0 (v := .ref (ads o (81))) rfl d_Nm_group_78 ?_
          refine r_get X f_Nm_239 b_81 e_81 (v := .ref (ads o (82))) rfl d_Nm_group_81 ?_
          refine r_iload_n X 2 d_Nm_group_84 rfl rfl ?_
          refine r_lald X (v := setC (clS (ml 2) n b) n g) b_82 e_82 (Nat.le_of_ble_eq_true rfl) (by omega) (set_at hjn (by omega)) d_Nm_group_85 ?_
          refine r_callS X (m_Nm_leastOf l o mg zg (setC (clS (ml 2) n b) n g)) ok_Nm_leastOf w_Nm_242 rfl ⟨Nat.le_of_ble_eq_true rfl, Nat.le_of_ble_eq_true rfl⟩ (rest := []) rfl (Nat.le_of_ble_eq_true rfl) d_Nm_group_86 ?_
          refine kD (st' := [.int ((fromB (bt (setC (clS (ml 2) n b) n g)) 64 0))]) rfl ?_
          refine r_end_i X d_Nm_group_89 ?_
          refine ⟨?_, hfi, hfl⟩; rw [show ix (nI 1) 3 = some 1 from by decide]; rfl
        | 2, _ =>
          refine r_tswIn X (off := 53) (tgt := 90) d_Nm_group_37 (by decide) (by decide) (by decide) (by decide) ?_
          refine r_aload_n X 0 d_Nm_group_90 rfl rfl ?_
          refine r_get X f_Nm_10 b_0 e_0 (v := .ref (ads o (1))) rfl d_Nm_group_91 ?_
          refine r_aload_n X 0 d_Nm_group_94 rfl rfl ?_
          refine r_get X f_Nm_51 b_0 e_0 (v := .ref (ads o (81))) rfl d_Nm_group_95 ?_
          refine r_get X f_Nm_239 b_81 e_81 (v := .ref (ads o (82))) rfl d_Nm_group_98 ?_
          refine r_iload_n X 2 d_Nm_group_101 rfl rfl ?_
          refine r_lald X (v := setC (clS (ml 2) n b) n g) b_82 e_82 (Nat.le_of_ble_eq_true rfl) (by omega) (set_at hjn (by omega)) d_Nm_group_102 ?_
          refine r_callV X (m_St_widthOf l o mg zg 1 (setC (clS (ml 2) n b) n g) n isSt.now ((by rw [hfi 1 (by decide)] <;> exact hn)) (by omega)) ok_St_widthOf w_Nm_245 rfl b_1 e_1 rfl ⟨Nat.le_of_ble_eq_true rfl, Nat.le_of_ble_eq_true rfl⟩ (rest := []) rfl (Nat.le_of_ble_eq_true rfl) d_Nm_group_103 ?_
          refine kD (st' := [.int (nI (wdO (bt (setC (clS (ml 2) n b) n g)) (fun p q => ds (zg 2 p) (zg 2 q)) n n))]) rfl ?_
          refine r_end_i X d_Nm_group_106 ?_
          refine ⟨?_, hfi, hfl⟩; rw [show ix (nI 2) 3 = some 2 from by decide, hfl 2 (by decide) (by decide)]; rfl
    · -- not taken
      exact False.elim (by rw [isMk_nI (by omega) (by omega)] at c_30; simp at c_30; omega)
  · -- not taken
    exact False.elim (by have e := rng_in (q := b) (m := 64) (by omega) (by decide); exact absurd (c_4.symm.trans e) (by decide))

set_option maxHeartbeats 4000000 in
set_option maxRecDepth 100000 in
theorem m_Nm_middle_o (l : Launch) (o : OM) (mi : MI) (ml : ML) (q : Int32) (g : Int32) (hq : q < nI 0 ∨ nI 64 < q) : ConD l y_Nm_middle c_Nm_middle 3 (some .long) 8 270 o [.ref (ads o (0)), .int (q), .int (g)] mi ml (some (.long (0))) mi ml := by
  refine Con.mk (by decide) (Nat.le_of_ble_eq_true rfl) (fun γ X => ?_)
  show V γ o 3 mi ml 0 [(0, .ref (ads o (0))), (1, .int (q)), (2, .int (g))] []
  refine r_iload_n X 1 d_Nm_middle_0 rfl rfl ?_
  refine r_callS X (m_Nm_isDistance l o mi ml q) ok_Nm_isDistance w_Nm_223 rfl ⟨Nat.le_of_ble_eq_true rfl, Nat.le_of_ble_eq_true rfl⟩ (rest := []) rfl (Nat.le_of_ble_eq_true rfl) d_Nm_middle_1 ?_
  refine kD (st' := [.int (bI (!decide (q < 0) && !decide (nI 64 < q)))]) rfl ?_
  refine r_ifneB X (tgt := 9) (b := !decide (q < 0) && !decide (nI 64 < q)) d_Nm_middle_4 (by decide) (fun c_4 => ?_) (fun c_4 => ?_)
  · -- taken
    exact False.elim (by have e := rng_out (m := 64) hq; exact absurd (c_4.symm.trans e) (by decide))
  · -- not taken
    refine r_lconst X (v := 0) d_Nm_middle_7 (by decide) ?_
    refine r_end_l X d_Nm_middle_8 ?_
    first | exact ⟨rfl, rfl, rfl⟩ | (refine ⟨?_, rfl, rfl⟩; simp_all)

set_option maxHeartbeats 4000000 in
set_option maxRecDepth 100000 in
theorem m_Nm_middle_u (l : Launch) (o : OM) (mi : MI) (ml : ML) (b : Nat) (g : Int32) (n : Nat) (hn : mi 1 2 = nI n) (hn40 : n ≤ 40) (hb : b ≤ 64) (hu : isMk (jnS (clS (ml 2) n b) n n).2 g = false) : Con l y_Nm_middle c_Nm_middle 3 (some .long) 8 270 o [.ref (ads o (0)), .int (nI (b)), .int (g)] mi ml (fun v m z => v = some (.long 0) ∧ (∀ t, t ≠ 81 → m t = mi t) ∧ ∀ t, t ≠ 82 → t ≠ 83 → t ≠ 84 → t ≠ 85 → z t = ml t) := by
  refine Con.mk (by decide) (Nat.le_of_ble_eq_true rfl) (fun γ X => ?_)
  show V γ o 3 mi ml 0 [(0, .ref (ads o (0))), (1, .int (nI (b))), (2, .int (g))] []
  refine r_iload_n X 1 d_Nm_middle_0 rfl rfl ?_
  refine r_callS X (m_Nm_isDistance l o mi ml (nI (b))) ok_Nm_isDistance w_Nm_223 rfl ⟨Nat.le_of_ble_eq_true rfl, Nat.le_of_ble_eq_true rfl⟩ (rest := []) rfl (Nat.le_of_ble_eq_true rfl) d_Nm_middle_1 ?_
  refine kD (st' := [.int (bI (!decide ((nI (b)) < 0) && !decide (nI 64 < (nI (b)))))]) rfl ?_
  refine r_ifneB X (tgt := 9) (b := !decide ((nI (b)) < 0) && !decide (nI 64 < (nI (b)))) d_Nm_middle_4 (by decide) (fun c_4 => ?_) (fun c_4 => ?_)
  · -- taken
    refine r_aload_n X 0 d_Nm_middle_9 rfl rfl ?_
    refine r_get X f_Nm_51 b_0 e_0 (v := .ref (ads o (81))) rfl d_Nm_middle_10 ?_
    refine r_aload_n X 0 d_Nm_middle_13 rfl rfl ?_
    refine r_get X f_Nm_10 b_0 e_0 (v := .ref (ads o (1))) rfl d_Nm_middle_14 ?_
    refine r_iload_n X 1 d_Nm_middle_17 rfl rfl ?_
    refine r_callV X (m_Gr_join l o mi ml b n (hn) hn40 hb) ok_Gr_join w_Nm_233 rfl b_81 e_81 rfl ⟨Nat.le_of_ble_eq_true rfl, Nat.le_of_ble_eq_true rfl⟩ (rest := []) rfl (Nat.le_of_ble_eq_true rfl) d_Nm_middle_18 ?_
    rintro _ mg zg ⟨rfl, hcnt, hjn, hfi, hfl⟩
    have hjl := jnS_le (clS (ml 2) n b) n n
    show V γ o 3 mg zg 21 [(0, .ref (ads o (0))), (1, .int (nI (b))), (2, .int (g))] []
    refine r_aload_n X 0 d_Nm_middle_21 rfl rfl ?_
    refine r_get X f_Nm_51 b_0 e_0 (v := .ref (ads o (81))) rfl d_Nm_middle_22 ?_
    refine r_iload_n X 2 d_Nm_middle_25 rfl rfl ?_
    refine r_callV X (m_Gr_has l o mg zg g ((jnS (clS (ml 2) n b) n n).2) (hcnt) (by omega)) ok_Gr_has w_Nm_238 rfl b_81 e_81 rfl ⟨Nat.le_of_ble_eq_true rfl, Nat.le_of_ble_eq_true rfl⟩ (rest := []) rfl (Nat.le_of_ble_eq_true rfl) d_Nm_middle_26 ?_
    refine kD (st' := [.int (bI (isMk ((jnS (clS (ml 2) n b) n n).2) g))]) rfl ?_
    refine r_ifeqB X (tgt := 55) (b := isMk ((jnS (clS (ml 2) n b) n n).2) g) d_Nm_middle_29 (by decide) (fun c_29 => ?_) (fun c_29 => ?_)
    · -- taken
      refine r_lconst X (v := 0) d_Nm_middle_55 (by decide) ?_
      refine r_end_l X d_Nm_middle_56 ?_
      exact ⟨rfl, hfi, fun t h1 h2 _ _ => hfl t h1 h2⟩
    · -- not taken
      exact False.elim (by rw [hu] at c_29; cases c_29)
  · -- not taken
    exact False.elim (by have e := rng_in (q := b) (m := 64) (by omega) (by decide); exact absurd (c_4.symm.trans e) (by decide))

set_option maxHeartbeats 4000000 in
set_option maxRecDepth 100000 in
theorem m_Nm_middle_i (l : Launch) (o : OM) (mi : MI) (ml : ML) (b : Nat) (g : Nat) (n : Nat) (hn : mi 1 2 = nI n) (hn40 : n ≤ 40) (hb : b ≤ 64) (hg0 : g < (jnS (clS (ml 2) n b) n n).2) : Con l y_Nm_middle c_Nm_middle 3 (some .long) 8 270 o [.ref (ads o (0)), .int (nI (b)), .int (nI (g))] mi ml (fun v m z => v = some (.long (midC (ml 2) n (setC (clS (ml 2) n b) n g))) ∧ (∀ t, t ≠ 81 → m t = mi t) ∧ ∀ t, t ≠ 82 → t ≠ 83 → t ≠ 84 → t ≠ 85 → z t = ml t) := by
  refine Con.mk (by decide) (Nat.le_of_ble_eq_true rfl) (fun γ X => ?_)
  show V γ o 3 mi ml 0 [(0, .ref (ads o (0))), (1, .int (nI (b))), (2, .int (nI (g)))] []
  refine r_iload_n X 1 d_Nm_middle_0 rfl rfl ?_
  refine r_callS X (m_Nm_isDistance l o mi ml (nI (b))) ok_Nm_isDistance w_Nm_223 rfl ⟨Nat.le_of_ble_eq_true rfl, Nat.le_of_ble_eq_true rfl⟩ (rest := []) rfl (Nat.le_of_ble_eq_true rfl) d_Nm_middle_1 ?_
  refine kD (st' := [.int (bI (!decide ((nI (b)) < 0) && !decide (nI 64 < (nI (b)))))]) rfl ?_
  refine r_ifneB X (tgt := 9) (b := !decide ((nI (b)) < 0) && !decide (nI 64 < (nI (b)))) d_Nm_middle_4 (by decide) (fun c_4 => ?_) (fun c_4 => ?_)
  · -- taken
    refine r_aload_n X 0 d_Nm_middle_9 rfl rfl ?_
    refine r_get X f_Nm_51 b_0 e_0 (v := .ref (ads o (81))) rfl d_Nm_middle_10 ?_
    refine r_aload_n X 0 d_Nm_middle_13 rfl rfl ?_
    refine r_get X f_Nm_10 b_0 e_0 (v := .ref (ads o (1))) rfl d_Nm_middle_14 ?_
    refine r_iload_n X 1 d_Nm_middle_17 rfl rfl ?_
    refine r_callV X (m_Gr_join l o mi ml b n (hn) hn40 hb) ok_Gr_join w_Nm_233 rfl b_81 e_81 rfl ⟨Nat.le_of_ble_eq_true rfl, Nat.le_of_ble_eq_true rfl⟩ (rest := []) rfl (Nat.le_of_ble_eq_true rfl) d_Nm_middle_18 ?_
    rintro _ mg zg ⟨rfl, hcnt, hjn, hfi, hfl⟩
    have hjl := jnS_le (clS (ml 2) n b) n n
    show V γ o 3 mg zg 21 [(0, .ref (ads o (0))), (1, .int (nI (b))), (2, .int (nI (g)))] []
    refine r_aload_n X 0 d_Nm_middle_21 rfl rfl ?_
    refine r_get X f_Nm_51 b_0 e_0 (v := .ref (ads o (81))) rfl d_Nm_middle_22 ?_
    refine r_iload_n X 2 d_Nm_middle_25 rfl rfl ?_
    refine r_callV X (m_Gr_has l o mg zg (nI (g)) ((jnS (clS (ml 2) n b) n n).2) (hcnt) (by omega)) ok_Gr_has w_Nm_238 rfl b_81 e_81 rfl ⟨Nat.le_of_ble_eq_true rfl, Nat.le_of_ble_eq_true rfl⟩ (rest := []) rfl (Nat.le_of_ble_eq_true rfl) d_Nm_middle_26 ?_
    refine kD (st' := [.int (bI (isMk ((jnS (clS (ml 2) n b) n n).2) (nI (g))))]) rfl ?_
    refine r_ifeqB X (tgt := 55) (b := isMk ((jnS (clS (ml 2) n b) n n).2) (nI (g))) d_Nm_middle_29 (by decide) (fun c_29 => ?_) (fun c_29 => ?_)
    · -- taken
      exact False.elim (by rw [isMk_nI (by omega) (by omega)] at c_29; simp at c_29; omega)
    · -- not taken
      refine r_aload_n X 0 d_Nm_middle_32 rfl rfl ?_
      refine r_get X f_Nm_58 b_0 e_0 (v := .ref (ads o (84))) rfl d_Nm_middle_33 ?_
      refine r_aload_n X 0 d_Nm_middle_36 rfl rfl ?_
      refine r_get X f_Nm_10 b_0 e_0 (v := .ref (ads o (1))) rfl d_Nm_middle_37 ?_
      refine r_aload_n X 0 d_Nm_middle_40 rfl rfl ?_
      refine r_get X f_Nm_51 b_0 e_0 (v := .ref (ads o (81))) rfl d_Nm_middle_41 ?_
      refine r_get X f_Nm_239 b_81 e_81 (v := .ref (ads o (82))) rfl d_Nm_middle_44 ?_
      refine r_iload_n X 2 d_Nm_middle_47 rfl rfl ?_
      refine r_lald X (v := setC (clS (ml 2) n b) n g) b_82 e_82 (Nat.le_of_ble_eq_true rfl) (by omega) (set_at hjn (by omega)) d_Nm_middle_48 ?_
      refine r_callV X (m_Co_mostOf l o mg zg (setC (clS (ml 2) n b) n g) n ((by rw [hfi 1 (by decide)] <;> exact hn)) (by omega)) ok_Co_mostOf w_Nm_248 rfl b_84 e_84 rfl ⟨Nat.le_of_ble_eq_true rfl, Nat.le_of_ble_eq_true rfl⟩ (rest := []) rfl (Nat.le_of_ble_eq_true rfl) d_Nm_middle_49 ?_
      rintro _ mm zc ⟨rfl, hmm, hgc⟩
      have hmm := hmm.symm
      subst hmm
      show V γ o 3 mg zc 52 [(0, .ref (ads o (0))), (1, .int (nI (b))), (2, .int (nI (g)))] [.long (midC (zg 2) n (setC (clS (ml 2) n b) n g))]
      refine r_goto X (tgt := 56) d_Nm_middle_52 (by decide) ?_
      refine r_end_l X d_Nm_middle_56 ?_
      refine ⟨?_, hfi, fun t h1 h2 h3 h4 => by rw [hgc t h3 h4]; exact hfl t h1 h2⟩; rw [hfl 2 (by decide) (by decide)]
  · -- not taken
    exact False.elim (by have e := rng_in (q := b) (m := 64) (by omega) (by decide); exact absurd (c_4.symm.trans e) (by decide))

set_option maxHeartbeats 4000000 in
set_option maxRecDepth 100000 in
theorem m_Nm_countAllLooks (l : Launch) (o : OM) (mi : MI) (ml : ML) (n : Nat) (c : Nat) (hn : mi 1 2 = nI n) (hn40 : n ≤ 40) (hc : mi 78 2 = nI c) (hc8 : c ≤ 8) : ConD l y_Nm_countAllLooks c_Nm_countAllLooks 5 (some .int) 1 23 o [.ref (ads o (0)), .ref (ads o (78))] mi ml (some (.int (nI (n + 2 * prO (ml 2) n (ml 80) c n)))) mi ml := by
  refine Con.mk (by decide) (Nat.le_of_ble_eq_true rfl) (fun γ X => ?_)
  show V γ o 5 mi ml 0 [(0, .ref (ads o (0))), (1, .ref (ads o (78)))] []
  refine r_iconst X (v := nI (0)) d_Nm_countAllLooks_0 (by decide) ?_
  refine r_istore_n X [(2, .int (nI (0))), (0, .ref (ads o (0))), (1, .ref (ads o (78)))] d_Nm_countAllLooks_1 rfl (Nat.le_of_ble_eq_true rfl) rfl ?_
  refine r_iconst X (v := nI (0)) d_Nm_countAllLooks_2 (by decide) ?_
  refine r_istore_n X [(3, .int (nI (0))), (2, .int (nI (0))), (0, .ref (ads o (0))), (1, .ref (ads o (78)))] d_Nm_countAllLooks_3 rfl (Nat.le_of_ble_eq_true rfl) rfl ?_
  have L4_1 : ∀ (d_j j : Nat), j + d_j = n → V γ o 5 mi ml 4 [(0, .ref (ads o (0))), (1, .ref (ads o (78))), (2, .int (nI (prO (ml 2) n (ml 80) c j))), (3, .int (nI (j)))] [] := by
    intro d_j
    induction d_j with
    | zero =>
      intro j hi_L4_1 
      have he_L4_1 : n = j := by omega
      subst he_L4_1
      refine r_iload_n X 3 d_Nm_countAllLooks_4 rfl rfl ?_
      refine r_aload_n X 0 d_Nm_countAllLooks_5 rfl rfl ?_
      refine r_get X f_Nm_10 b_0 e_0 (v := .ref (ads o (1))) rfl d_Nm_countAllLooks_6 ?_
      refine r_get X f_Nm_83 b_1 e_1 (v := .int (nI (n))) (congrArg (fun z => some (Value.int z)) (hn)) d_Nm_countAllLooks_9 ?_
      refine r_icge X (tgt := 74) (c := n ≤ n) d_Nm_countAllLooks_12 (by decide) (nI_leI (by omega) (by omega)) (fun c_12 => ?_) (fun c_12 => ?_)
      · -- taken
        refine r_aload_n X 0 d_Nm_countAllLooks_74 rfl rfl ?_
        refine r_get X f_Nm_10 b_0 e_0 (v := .ref (ads o (1))) rfl d_Nm_countAllLooks_75 ?_
        refine r_get X f_Nm_83 b_1 e_1 (v := .int (nI (n))) (congrArg (fun z => some (Value.int z)) (hn)) d_Nm_countAllLooks_78 ?_
        refine r_iconst X (v := nI (2)) d_Nm_countAllLooks_81 (by decide) ?_
        refine r_iload_n X 2 d_Nm_countAllLooks_82 rfl rfl ?_
        refine r_imul X (v := nI (2 * (prO (ml 2) n (ml 80) c n))) d_Nm_countAllLooks_83 (pk_mul _ _) ?_
        refine r_iadd X (v := nI (n + (2 * (prO (ml 2) n (ml 80) c n)))) d_Nm_countAllLooks_84 (nI_add _ _) ?_
        refine r_end_i X d_Nm_countAllLooks_85 ?_
        exact ⟨rfl, rfl, rfl⟩
      · -- not taken
        exact False.elim (by omega)
    | succ d_j ih_L4_1 =>
      intro j hi_L4_1 
      have hlt_L4_1 : j < n := by omega
      refine r_iload_n X 3 d_Nm_countAllLooks_4 rfl rfl ?_
      refine r_aload_n X 0 d_Nm_countAllLooks_5 rfl rfl ?_
      refine r_get X f_Nm_10 b_0 e_0 (v := .ref (ads o (1))) rfl d_Nm_countAllLooks_6 ?_
      refine r_get X f_Nm_83 b_1 e_1 (v := .int (nI (n))) (congrArg (fun z => some (Value.int z)) (hn)) d_Nm_countAllLooks_9 ?_
      refine r_icge X (tgt := 74) (c := n ≤ j) d_Nm_countAllLooks_12 (by decide) (nI_leI (by omega) (by omega)) (fun c_12_2 => ?_) (fun c_12_2 => ?_)
      · -- taken
        exact False.elim (by omega)
      · -- not taken
        refine r_iload_n X 3 d_Nm_countAllLooks_15 rfl rfl ?_
        refine r_iconst X (v := nI (1)) d_Nm_countAllLooks_16 (by decide) ?_
        refine r_iadd X (v := nI (j + 1)) d_Nm_countAllLooks_17 (nI_add _ _) ?_
        refine r_istore X [(4, .int (nI (j + 1))), (0, .ref (ads o (0))), (1, .ref (ads o (78))), (2, .int (nI (prO (ml 2) n (ml 80) c j))), (3, .int (nI (j)))] d_Nm_countAllLooks_18 (Nat.le_of_ble_eq_true rfl) rfl ?_
        have L20_3 : ∀ (d_t t : Nat), t + d_t = n - (j + 1) → V γ o 5 mi ml 20 [(0, .ref (ads o (0))), (1, .ref (ads o (78))), (2, .int (nI (prO (ml 2) n (ml 80) c j + ct (fun t => anyP (ml 2 j ^^^ ml 2 (j + 1 + t)) (ml 80) c) t))), (3, .int (nI (j))), (4, .int (nI (j + 1 + t)))] [] := by
          intro d_t
          induction d_t with
          | zero =>
            intro t hi_L20_3 
            have he_L20_3 : n - (j + 1) = t := by omega
            subst he_L20_3
            refine r_iload X 4 d_Nm_countAllLooks_20 rfl ?_
            refine r_aload_n X 0 d_Nm_countAllLooks_22 rfl rfl ?_
            refine r_get X f_Nm_10 b_0 e_0 (v := .ref (ads o (1))) rfl d_Nm_countAllLooks_23 ?_
            refine r_get X f_Nm_83 b_1 e_1 (v := .int (nI (n))) (congrArg (fun z => some (Value.int z)) (hn)) d_Nm_countAllLooks_26 ?_
            refine r_icge X (tgt := 68) (c := n ≤ (j + 1 + (n - (j + 1)))) d_Nm_countAllLooks_29 (by decide) (nI_leI (by omega) (by omega)) (fun c_29 => ?_) (fun c_29 => ?_)
            · -- taken
              refine r_iinc X 3 (v := nI (j + 1)) [(3, .int (nI (j + 1))), (0, .ref (ads o (0))), (1, .ref (ads o (78))), (2, .int (nI (prO (ml 2) n (ml 80) c j + ct (fun t => anyP (ml 2 j ^^^ ml 2 (j + 1 + t)) (ml 80) c) (n - (j + 1))))), (4, .int (nI (j + 1 + (n - (j + 1)))))] d_Nm_countAllLooks_68 rfl (nI_add _ 1) (Nat.le_of_ble_eq_true rfl) rfl ?_
              refine r_goto X (tgt := 4) d_Nm_countAllLooks_71 (by decide) ?_
              refine V.wk [1, 2, 3, 0] (V.eq (ih_L4_1 (j + 1) (by omega) ) ?_ ?_ ?_ rfl) (rfl : lv_pick _ [1, 2, 3, 0] = [(0, .ref (ads o (0))), (1, .ref (ads o (78))), (2, .int (nI (prO (ml 2) n (ml 80) c j + ct (fun t => anyP (ml 2 j ^^^ ml 2 (j + 1 + t)) (ml 80) c) (n - (j + 1))))), (3, .int (nI (j + 1)))])
              · rfl
              · rfl
              · first | rfl | (simp_all [ct, lastB, alB, fromB]; done)
            · -- not taken
              exact False.elim (by omega)
          | succ d_t ih_L20_3 =>
            intro t hi_L20_3 
            have hlt_L20_3 : t < n - (j + 1) := by omega
            refine r_iload X 4 d_Nm_countAllLooks_20 rfl ?_
            refine r_aload_n X 0 d_Nm_countAllLooks_22 rfl rfl ?_
            refine r_get X f_Nm_10 b_0 e_0 (v := .ref (ads o (1))) rfl d_Nm_countAllLooks_23 ?_
            refine r_get X f_Nm_83 b_1 e_1 (v := .int (nI (n))) (congrArg (fun z => some (Value.int z)) (hn)) d_Nm_countAllLooks_26 ?_
            refine r_icge X (tgt := 68) (c := n ≤ (j + 1 + t)) d_Nm_countAllLooks_29 (by decide) (nI_leI (by omega) (by omega)) (fun c_29_4 => ?_) (fun c_29_4 => ?_)
            · -- taken
              exact False.elim (by omega)
            · -- not taken
              refine r_aload_n X 1 d_Nm_countAllLooks_32 rfl rfl ?_
              refine r_aload_n X 0 d_Nm_countAllLooks_33 rfl rfl ?_
              refine r_get X f_Nm_10 b_0 e_0 (v := .ref (ads o (1))) rfl d_Nm_countAllLooks_34 ?_
              refine r_get X f_Nm_142 b_1 e_1 (v := .ref (ads o (2))) rfl d_Nm_countAllLooks_37 ?_
              refine r_iload_n X 3 d_Nm_countAllLooks_40 rfl rfl ?_
              refine r_lald X (v := ml 2 j) b_2 e_2 (Nat.le_of_ble_eq_true rfl) (by omega) rfl d_Nm_countAllLooks_41 ?_
              refine r_aload_n X 0 d_Nm_countAllLooks_42 rfl rfl ?_
              refine r_get X f_Nm_10 b_0 e_0 (v := .ref (ads o (1))) rfl d_Nm_countAllLooks_43 ?_
              refine r_get X f_Nm_142 b_1 e_1 (v := .ref (ads o (2))) rfl d_Nm_countAllLooks_46 ?_
              refine r_iload X 4 d_Nm_countAllLooks_49 rfl ?_
              refine r_lald X (v := ml 2 (j + 1 + t)) b_2 e_2 (Nat.le_of_ble_eq_true rfl) (by omega) rfl d_Nm_countAllLooks_51 ?_
              refine r_lxor X (v := (ml 2 j) ^^^ (ml 2 (j + 1 + t))) d_Nm_countAllLooks_52 (rfl) ?_
              refine r_callV X (m_Pt_anyAlike l o mi ml 78 ((ml 2 j) ^^^ (ml 2 (j + 1 + t))) c (Or.inr rfl) (hc) hc8) ok_Pt_anyAlike w_Nm_158 rfl b_78 e_78 rfl ⟨Nat.le_of_ble_eq_true rfl, Nat.le_of_ble_eq_true rfl⟩ (rest := []) rfl (Nat.le_of_ble_eq_true rfl) d_Nm_countAllLooks_53 ?_
              refine kD (st' := [.int (bI (anyP ((ml 2 j) ^^^ (ml 2 (j + 1 + t))) (ml 80) c))]) rfl ?_
              refine r_ifeqB X (tgt := 62) (b := anyP ((ml 2 j) ^^^ (ml 2 (j + 1 + t))) (ml 80) c) d_Nm_countAllLooks_56 (by decide) (fun c_56 => ?_) (fun c_56 => ?_)
              · -- taken
                refine r_iinc X 4 (v := nI (j + 1 + t + 1)) [(4, .int (nI (j + 1 + t + 1))), (0, .ref (ads o (0))), (1, .ref (ads o (78))), (2, .int (nI (prO (ml 2) n (ml 80) c j + ct (fun t => anyP (ml 2 j ^^^ ml 2 (j + 1 + t)) (ml 80) c) t))), (3, .int (nI (j)))] d_Nm_countAllLooks_62 rfl (nI_add _ 1) (Nat.le_of_ble_eq_true rfl) rfl ?_
                refine r_goto X (tgt := 20) d_Nm_countAllLooks_65 (by decide) ?_
                refine V.wk [1, 2, 3, 4, 0] (V.eq (ih_L20_3 (t + 1) (by omega) ) ?_ ?_ ?_ rfl) (rfl : lv_pick _ [1, 2, 3, 4, 0] = [(0, .ref (ads o (0))), (1, .ref (ads o (78))), (2, .int (nI (prO (ml 2) n (ml 80) c j + ct (fun t => anyP (ml 2 j ^^^ ml 2 (j + 1 + t)) (ml 80) c) t))), (3, .int (nI (j))), (4, .int (nI (j + 1 + t + 1)))])
                · rfl
                · rfl
                · first | (rw [ct_t (by assumption)]; first | done | rfl) | (rw [ct_f (by assumption)]; first | done | rfl)
              · -- not taken
                refine r_iinc X 2 (v := nI (prO (ml 2) n (ml 80) c j + ct (fun t => anyP (ml 2 j ^^^ ml 2 (j + 1 + t)) (ml 80) c) t + 1)) [(2, .int (nI (prO (ml 2) n (ml 80) c j + ct (fun t => anyP (ml 2 j ^^^ ml 2 (j + 1 + t)) (ml 80) c) t + 1))), (0, .ref (ads o (0))), (1, .ref (ads o (78))), (3, .int (nI (j))), (4, .int (nI (j + 1 + t)))] d_Nm_countAllLooks_59 rfl (nI_add _ 1) (Nat.le_of_ble_eq_true rfl) rfl ?_
                refine r_iinc X 4 (v := nI (j + 1 + t + 1)) [(4, .int (nI (j + 1 + t + 1))), (2, .int (nI (prO (ml 2) n (ml 80) c j + ct (fun t => anyP (ml 2 j ^^^ ml 2 (j + 1 + t)) (ml 80) c) t + 1))), (0, .ref (ads o (0))), (1, .ref (ads o (78))), (3, .int (nI (j)))] d_Nm_countAllLooks_62 rfl (nI_add _ 1) (Nat.le_of_ble_eq_true rfl) rfl ?_
                refine r_goto X (tgt := 20) d_Nm_countAllLooks_65 (by decide) ?_
                refine V.wk [2, 3, 1, 4, 0] (V.eq (ih_L20_3 (t + 1) (by omega) ) ?_ ?_ ?_ rfl) (rfl : lv_pick _ [2, 3, 1, 4, 0] = [(0, .ref (ads o (0))), (1, .ref (ads o (78))), (2, .int (nI (prO (ml 2) n (ml 80) c j + ct (fun t => anyP (ml 2 j ^^^ ml 2 (j + 1 + t)) (ml 80) c) t + 1))), (3, .int (nI (j))), (4, .int (nI (j + 1 + t + 1)))])
                · rfl
                · rfl
                · first | (rw [ct_t (by assumption)]; first | done | rfl) | (rw [ct_f (by assumption)]; first | done | rfl)
        refine V.wk [1, 2, 3, 4, 0] (V.eq (L20_3 ((n - (j + 1)) - 0) 0 (by omega) ) ?_ ?_ ?_ rfl) (rfl : lv_pick _ [1, 2, 3, 4, 0] = [(0, .ref (ads o (0))), (1, .ref (ads o (78))), (2, .int (nI (prO (ml 2) n (ml 80) c j))), (3, .int (nI (j))), (4, .int (nI (j + 1)))])
        · rfl
        · rfl
        · rfl
  refine V.wk [2, 3, 1, 0] (V.eq (L4_1 (n - 0) 0 (by omega) ) ?_ ?_ ?_ rfl) (rfl : lv_pick _ [2, 3, 1, 0] = [(0, .ref (ads o (0))), (1, .ref (ads o (78))), (2, .int (nI (0))), (3, .int (nI (0)))])
  · rfl
  · rfl
  · rfl

set_option maxHeartbeats 4000000 in
set_option maxRecDepth 100000 in
theorem m_Nm_fewest_o1 (l : Launch) (o : OM) (mi : MI) (ml : ML) (p : Int32) (w : Int32) (hp : p < nI 1 ∨ nI 8 < p) : ConD l y_Nm_fewest c_Nm_fewest 7 (some .int) 8 270 o [.ref (ads o (0)), .int (p), .int (w)] mi ml (some (.int (((-1000000002 : Int32))))) mi ml := by
  refine Con.mk (by decide) (Nat.le_of_ble_eq_true rfl) (fun γ X => ?_)
  show V γ o 7 mi ml 0 [(0, .ref (ads o (0))), (1, .int (p)), (2, .int (w))] []
  refine r_iload_n X 1 d_Nm_fewest_0 rfl rfl ?_
  refine r_iconst X (v := nI (1)) d_Nm_fewest_1 (by decide) ?_
  refine r_iclt X (tgt := 20) (c := p < (nI (1))) d_Nm_fewest_2 (by decide) (Iff.rfl) (fun c_2 => ?_) (fun c_2 => ?_)
  · -- taken
    refine r_ldc X (v := ((-1000000002 : Int32))) k_Nm_137 (by decide) d_Nm_fewest_20 ?_
    refine r_end_i X d_Nm_fewest_22 ?_
    first | exact ⟨rfl, rfl, rfl⟩ | (refine ⟨?_, rfl, rfl⟩; simp_all)
  · -- not taken
    refine r_iload_n X 1 d_Nm_fewest_5 rfl rfl ?_
    refine r_bipush X (v := nI (8)) d_Nm_fewest_6 (by decide) ?_
    refine r_icgt X (tgt := 20) (c := (nI (8)) < p) d_Nm_fewest_8 (by decide) (Iff.rfl) (fun c_8 => ?_) (fun c_8 => ?_)
    · -- taken
      refine r_ldc X (v := ((-1000000002 : Int32))) k_Nm_137 (by decide) d_Nm_fewest_20 ?_
      refine r_end_i X d_Nm_fewest_22 ?_
      first | exact ⟨rfl, rfl, rfl⟩ | (refine ⟨?_, rfl, rfl⟩; simp_all)
    · -- not taken
      exact False.elim (by exact hp.elim c_2 c_8)

set_option maxHeartbeats 4000000 in
set_option maxRecDepth 100000 in
theorem m_Nm_fewest_o2 (l : Launch) (o : OM) (mi : MI) (ml : ML) (p : Nat) (w : Int32) (hp1 : 1 ≤ p) (hp8 : p ≤ 8) (hw : w < nI 0 ∨ nI 1 < w) : ConD l y_Nm_fewest c_Nm_fewest 7 (some .int) 8 270 o [.ref (ads o (0)), .int (nI (p)), .int (w)] mi ml (some (.int (((-1000000002 : Int32))))) mi ml := by
  refine Con.mk (by decide) (Nat.le_of_ble_eq_true rfl) (fun γ X => ?_)
  show V γ o 7 mi ml 0 [(0, .ref (ads o (0))), (1, .int (nI (p))), (2, .int (w))] []
  refine r_iload_n X 1 d_Nm_fewest_0 rfl rfl ?_
  refine r_iconst X (v := nI (1)) d_Nm_fewest_1 (by decide) ?_
  refine r_iclt X (tgt := 20) (c := p < 1) d_Nm_fewest_2 (by decide) (nI_ltI (by omega) (Nat.le_of_ble_eq_true rfl)) (fun c_2 => ?_) (fun c_2 => ?_)
  · -- taken
    exact False.elim (by omega)
  · -- not taken
    refine r_iload_n X 1 d_Nm_fewest_5 rfl rfl ?_
    refine r_bipush X (v := nI (8)) d_Nm_fewest_6 (by decide) ?_
    refine r_icgt X (tgt := 20) (c := 8 < p) d_Nm_fewest_8 (by decide) (nI_ltI (Nat.le_of_ble_eq_true rfl) (by omega)) (fun c_8 => ?_) (fun c_8 => ?_)
    · -- taken
      exact False.elim (by omega)
    · -- not taken
      refine r_iload_n X 2 d_Nm_fewest_11 rfl rfl ?_
      refine r_iflt X (tgt := 20) (c := w < 0) d_Nm_fewest_12 (by decide) (Iff.rfl) (fun c_12 => ?_) (fun c_12 => ?_)
      · -- taken
        refine r_ldc X (v := ((-1000000002 : Int32))) k_Nm_137 (by decide) d_Nm_fewest_20 ?_
        refine r_end_i X d_Nm_fewest_22 ?_
        first | exact ⟨rfl, rfl, rfl⟩ | (refine ⟨?_, rfl, rfl⟩; simp_all)
      · -- not taken
        refine r_iload_n X 2 d_Nm_fewest_15 rfl rfl ?_
        refine r_iconst X (v := nI (1)) d_Nm_fewest_16 (by decide) ?_
        refine r_icle X (tgt := 23) (c := w ≤ (nI (1))) d_Nm_fewest_17 (by decide) (Iff.rfl) (fun c_17 => ?_) (fun c_17 => ?_)
        · -- taken
          exact False.elim (by exact raw_le hw c_12 c_17)
        · -- not taken
          refine r_ldc X (v := ((-1000000002 : Int32))) k_Nm_137 (by decide) d_Nm_fewest_20 ?_
          refine r_end_i X d_Nm_fewest_22 ?_
          first | exact ⟨rfl, rfl, rfl⟩ | (refine ⟨?_, rfl, rfl⟩; simp_all)

set_option maxHeartbeats 4000000 in
set_option maxRecDepth 100000 in
theorem m_Nm_fewest_i (l : Launch) (o : OM) (mi : MI) (ml : ML) (p : Nat) (w : Nat) (n : Nat) (hn : mi 1 2 = nI n) (hn40 : n ≤ 40) (hp1 : 1 ≤ p) (hp8 : p ≤ 8) (hw : w < 2) : Con l y_Nm_fewest c_Nm_fewest 7 (some .int) 8 270 o [.ref (ads o (0)), .int (nI (p)), .int (nI (w))] mi ml (fun v m z => v = some (.int (if decide (w = 0) then nI (fewC (fun h => n + 2 * prX (ml 2) n (evS p h p).1 n) 3).1 else (fewC (fun h => n + 2 * prX (ml 2) n (evS p h p).1 n) 3).2)) ∧ (∀ t, t ≠ 78 → t ≠ 79 → m t = mi t) ∧ ∀ t, t ≠ 80 → z t = ml t) := by
  refine Con.mk (by decide) (Nat.le_of_ble_eq_true rfl) (fun γ X => ?_)
  show V γ o 7 mi ml 0 [(0, .ref (ads o (0))), (1, .int (nI (p))), (2, .int (nI (w)))] []
  refine r_iload_n X 1 d_Nm_fewest_0 rfl rfl ?_
  refine r_iconst X (v := nI (1)) d_Nm_fewest_1 (by decide) ?_
  refine r_iclt X (tgt := 20) (c := p < 1) d_Nm_fewest_2 (by decide) (nI_ltI (by omega) (Nat.le_of_ble_eq_true rfl)) (fun c_2 => ?_) (fun c_2 => ?_)
  · -- taken
    exact False.elim (by omega)
  · -- not taken
    refine r_iload_n X 1 d_Nm_fewest_5 rfl rfl ?_
    refine r_bipush X (v := nI (8)) d_Nm_fewest_6 (by decide) ?_
    refine r_icgt X (tgt := 20) (c := 8 < p) d_Nm_fewest_8 (by decide) (nI_ltI (Nat.le_of_ble_eq_true rfl) (by omega)) (fun c_8 => ?_) (fun c_8 => ?_)
    · -- taken
      exact False.elim (by omega)
    · -- not taken
      refine r_iload_n X 2 d_Nm_fewest_11 rfl rfl ?_
      refine r_iflt X (tgt := 20) (c := w < 0) d_Nm_fewest_12 (by decide) ((by rw [← nI_0] <;> exact nI_ltI (by omega) (Nat.le_of_ble_eq_true rfl))) (fun c_12 => ?_) (fun c_12 => ?_)
      · -- taken
        exact False.elim (by omega)
      · -- not taken
        refine r_iload_n X 2 d_Nm_fewest_15 rfl rfl ?_
        refine r_iconst X (v := nI (1)) d_Nm_fewest_16 (by decide) ?_
        refine r_icle X (tgt := 23) (c := w ≤ 1) d_Nm_fewest_17 (by decide) (nI_leI (by omega) (Nat.le_of_ble_eq_true rfl)) (fun c_17 => ?_) (fun c_17 => ?_)
        · -- taken
          refine r_iconst X (v := nI (0)) d_Nm_fewest_23 (by decide) ?_
          refine r_istore_n X [(3, .int (nI (0))), (0, .ref (ads o (0))), (1, .int (nI (p))), (2, .int (nI (w)))] d_Nm_fewest_24 rfl (Nat.le_of_ble_eq_true rfl) rfl ?_
          refine r_iconst X (v := ((-1 : Int32))) d_Nm_fewest_25 (by decide) ?_
          refine r_istore X [(4, .int (((-1 : Int32)))), (3, .int (nI (0))), (0, .ref (ads o (0))), (1, .int (nI (p))), (2, .int (nI (w)))] d_Nm_fewest_26 (Nat.le_of_ble_eq_true rfl) rfl ?_
          refine r_iconst X (v := nI (0)) d_Nm_fewest_28 (by decide) ?_
          refine r_istore X [(5, .int (nI (0))), (4, .int (((-1 : Int32)))), (3, .int (nI (0))), (0, .ref (ads o (0))), (1, .int (nI (p))), (2, .int (nI (w)))] d_Nm_fewest_29 (Nat.le_of_ble_eq_true rfl) rfl ?_
          have L31_1 : ∀ (d_i i : Nat), i + d_i = 3 → ∀ (mi_L31_1 : MI), ∀ (ml_L31_1 : ML), (∀ t, t ≠ 78 → t ≠ 79 → mi_L31_1 t = mi t) → (∀ t, t ≠ 80 → ml_L31_1 t = ml t) → V γ o 7 mi_L31_1 ml_L31_1 31 [(0, .ref (ads o (0))), (1, .int (nI (p))), (2, .int (nI (w))), (3, .int (nI ((fewC (fun h => n + 2 * prX (ml 2) n (evS p h p).1 n) i).1))), (4, .int (((fewC (fun h => n + 2 * prX (ml 2) n (evS p h p).1 n) i).2))), (5, .int (nI (i)))] [] := by
            intro d_i
            induction d_i with
            | zero =>
              intro i hi_L31_1 mi_L31_1 ml_L31_1 hf hg
              have he_L31_1 : 3 = i := by omega
              subst he_L31_1
              refine r_iload X 5 d_Nm_fewest_31 rfl ?_
              refine r_iconst X (v := nI (3)) d_Nm_fewest_33 (by decide) ?_
              refine r_icge X (tgt := 82) (c := 3 ≤ 3) d_Nm_fewest_34 (by decide) (nI_leI (Nat.le_of_ble_eq_true rfl) (by omega)) (fun c_34 => ?_) (fun c_34 => ?_)
              · -- taken
                refine r_iload_n X 2 d_Nm_fewest_82 rfl rfl ?_
                refine r_ifneP X (tgt := 90) (c := w = 0) d_Nm_fewest_83 (by decide) ((by rw [← nI_0] <;> exact nI_eq (by omega) (Nat.le_of_ble_eq_true rfl))) (fun c_83 => ?_) (fun c_83 => ?_)
                · -- taken
                  refine r_iload X 4 d_Nm_fewest_90 rfl ?_
                  refine r_end_i X d_Nm_fewest_92 ?_
                  refine ⟨?_, hf, hg⟩; first | (rw [if_pos (decide_eq_true c_83)]; done) | (rw [if_neg (by simpa using c_83)]; done)
                · -- not taken
                  refine r_iload_n X 3 d_Nm_fewest_86 rfl rfl ?_
                  refine r_goto X (tgt := 92) d_Nm_fewest_87 (by decide) ?_
                  refine r_end_i X d_Nm_fewest_92 ?_
                  refine ⟨?_, hf, hg⟩; first | (rw [if_pos (decide_eq_true c_83)]; done) | (rw [if_neg (by simpa using c_83)]; done)
              · -- not taken
                exact False.elim (by omega)
            | succ d_i ih_L31_1 =>
              intro i hi_L31_1 mi_L31_1 ml_L31_1 hf hg
              have hlt_L31_1 : i < 3 := by omega
              have hfw : (fewC (fun h => n + 2 * prX (ml 2) n (evS p h p).1 n) i).1 ≤ 3240 := fewC_le (fun h => prX40 _ hn40 _) i
              refine r_iload X 5 d_Nm_fewest_31 rfl ?_
              refine r_iconst X (v := nI (3)) d_Nm_fewest_33 (by decide) ?_
              refine r_icge X (tgt := 82) (c := 3 ≤ i) d_Nm_fewest_34 (by decide) (nI_leI (Nat.le_of_ble_eq_true rfl) (by omega)) (fun c_34_2 => ?_) (fun c_34_2 => ?_)
              · -- taken
                exact False.elim (by omega)
              · -- not taken
                refine r_aload_n X 0 d_Nm_fewest_37 rfl rfl ?_
                refine r_get X f_Nm_45 b_0 e_0 (v := .ref (ads o (78))) rfl d_Nm_fewest_38 ?_
                refine r_iload_n X 1 d_Nm_fewest_41 rfl rfl ?_
                refine r_iload X 5 d_Nm_fewest_42 rfl ?_
                refine r_callV X (m_Pt_beginEvenly l o mi_L31_1 ml_L31_1 p i (by omega) (by omega) (by omega)) ok_Pt_beginEvenly w_Nm_252 rfl b_78 e_78 rfl ⟨Nat.le_of_ble_eq_true rfl, Nat.le_of_ble_eq_true rfl⟩ (rest := []) rfl (Nat.le_of_ble_eq_true rfl) d_Nm_fewest_44 ?_
                rintro _ mb zb ⟨rfl, hPt, hfb, hgb⟩
                have hev := ev_ok p (by omega) (by omega) i (by omega)
                show V γ o 7 mb zb 47 [(0, .ref (ads o (0))), (1, .int (nI (p))), (2, .int (nI (w))), (3, .int (nI ((fewC (fun h => n + 2 * prX (ml 2) n (evS p h p).1 n) i).1))), (4, .int (((fewC (fun h => n + 2 * prX (ml 2) n (evS p h p).1 n) i).2))), (5, .int (nI (i)))] []
                refine r_aload_n X 0 d_Nm_fewest_47 rfl rfl ?_
                refine r_aload_n X 0 d_Nm_fewest_48 rfl rfl ?_
                refine r_get X f_Nm_45 b_0 e_0 (v := .ref (ads o (78))) rfl d_Nm_fewest_49 ?_
                refine r_callV X (m_Nm_countAllLooks l o mb zb n (pop (evS p i p).1) ((by rw [hfb 1 (by decide) (by decide)] <;> exact (by rw [hf 1 (by decide) (by decide)]; exact hn))) (by omega) (hPt.1) (hev.2)) ok_Nm_countAllLooks w_Nm_256 rfl b_0 e_0 rfl ⟨Nat.le_of_ble_eq_true rfl, Nat.le_of_ble_eq_true rfl⟩ (rest := []) rfl (Nat.le_of_ble_eq_true rfl) d_Nm_fewest_52 ?_
                refine kD (st' := [.int (nI (n + 2 * prO (zb 2) n (zb 80) (pop (evS p i p).1) n))]) rfl ?_
                refine V.eq (st' := [.int (nI (n + 2 * prX (ml 2) n (evS p i p).1 n))]) ?_ rfl rfl rfl (by have e := pr_eq hPt (ml 2) n n; rw [hgb 2 (by decide), hg 2 (by decide)]; exact congrArg (fun z => [Value.int (nI (n + 2 * z))]) e.symm)
                refine r_istore X [(6, .int (nI (n + 2 * prX (ml 2) n (evS p i p).1 n))), (0, .ref (ads o (0))), (1, .int (nI (p))), (2, .int (nI (w))), (3, .int (nI ((fewC (fun h => n + 2 * prX (ml 2) n (evS p h p).1 n) i).1))), (4, .int (((fewC (fun h => n + 2 * prX (ml 2) n (evS p h p).1 n) i).2))), (5, .int (nI (i)))] d_Nm_fewest_55 (Nat.le_of_ble_eq_true rfl) rfl ?_
                refine r_iload X 5 d_Nm_fewest_57 rfl ?_
                refine r_iconst X (v := ((-1 : Int32))) d_Nm_fewest_59 (by decide) ?_
                refine r_iceq X (tgt := 69) (c := ((fewC (fun h => n + 2 * prX (ml 2) n (evS p h p).1 n) i).2) = ((-1 : Int32))) d_Nm_fewest_60 (by decide) (Iff.rfl) (fun c_60 => ?_) (fun c_60 => ?_)
                · -- taken
                  refine r_iload X 0 d_Nm_fewest_69 rfl ?_
                  refine r_istore_n X [(3, .int (nI (n + 2 * prX (ml 2) n (evS p i p).1 n))), (6, .int (nI (n + 2 * prX (ml 2) n (evS p i p).1 n))), (0, .ref (ads o (0))), (1, .int (nI (p))), (2, .int (nI (w))), (4, .int (((fewC (fun h => n + 2 * prX (ml 2) n (evS p h p).1 n) i).2))), (5, .int (nI (i)))] d_Nm_fewest_71 rfl (Nat.le_of_ble_eq_true rfl) rfl ?_
                  refine r_iload X 6 d_Nm_fewest_72 rfl ?_
                  refine r_istore X [(4, .int (nI (i))), (3, .int (nI (n + 2 * prX (ml 2) n (evS p i p).1 n))), (6, .int (nI (n + 2 * prX (ml 2) n (evS p i p).1 n))), (0, .ref (ads o (0))), (1, .int (nI (p))), (2, .int (nI (w))), (5, .int (nI (i)))] d_Nm_fewest_74 (Nat.le_of_ble_eq_true rfl) rfl ?_
                  refine r_iinc X 6 (v := nI (i + 1)) [(5, .int (nI (i + 1))), (4, .int (nI (i))), (3, .int (nI (n + 2 * prX (ml 2) n (evS p i p).1 n))), (6, .int (nI (n + 2 * prX (ml 2) n (evS p i p).1 n))), (0, .ref (ads o (0))), (1, .int (nI (p))), (2, .int (nI (w)))] d_Nm_fewest_76 rfl (nI_add _ 1) (Nat.le_of_ble_eq_true rfl) rfl ?_
                  refine r_goto X (tgt := 31) d_Nm_fewest_79 (by decide) ?_
                  refine V.wk [4, 5, 6, 2, 1, 0] (V.eq (ih_L31_1 (i + 1) (by omega) (mb) (zb) (fun t h1 h2 => by rw [hfb t h1 h2]; exact hf t h1 h2) (fun t h1 => by rw [hgb t h1]; exact hg t h1)) ?_ ?_ ?_ rfl) (rfl : lv_pick _ [4, 5, 6, 2, 1, 0] = [(0, .ref (ads o (0))), (1, .int (nI (p))), (2, .int (nI (w))), (3, .int (nI (n + 2 * prX (ml 2) n (evS p i p).1 n))), (4, .int (nI (i))), (5, .int (nI (i + 1)))])
                  · rfl
                  · rfl
                  · first | (rw [show fewC (fun h => n + 2 * prX (ml 2) n (evS p h p).1 n) (i + 1) = ((fun h => n + 2 * prX (ml 2) n (evS p h p).1 n) i, nI i) from fewC_y (by rw [decide_eq_true c_60]; rfl)]; first | done | rfl) | (rw [show fewC (fun h => n + 2 * prX (ml 2) n (evS p h p).1 n) (i + 1) = ((fun h => n + 2 * prX (ml 2) n (evS p h p).1 n) i, nI i) from fewC_y (by rw [decide_eq_false c_66]; exact Bool.or_true _)]; first | done | rfl) | (rw [show fewC (fun h => n + 2 * prX (ml 2) n (evS p h p).1 n) (i + 1) = fewC (fun h => n + 2 * prX (ml 2) n (evS p h p).1 n) i from fewC_n (by rw [decide_eq_false c_60, decide_eq_true c_66]; rfl)]; first | done | rfl)
                · -- not taken
                  refine r_iload X 0 d_Nm_fewest_63 rfl ?_
                  refine r_iload_n X 4 d_Nm_fewest_65 rfl rfl ?_
                  refine r_icge X (tgt := 76) (c := ((fewC (fun h => n + 2 * prX (ml 2) n (evS p h p).1 n) i).1) ≤ (n + 2 * prX (ml 2) n (evS p i p).1 n)) d_Nm_fewest_66 (by decide) (nI_leI (by omega) (Nat.lt_of_le_of_lt (prX40 _ hn40 _) (by decide))) (fun c_66 => ?_) (fun c_66 => ?_)
                  · -- taken
                    refine r_iinc X 6 (v := nI (i + 1)) [(5, .int (nI (i + 1))), (6, .int (nI (n + 2 * prX (ml 2) n (evS p i p).1 n))), (0, .ref (ads o (0))), (1, .int (nI (p))), (2, .int (nI (w))), (3, .int (nI ((fewC (fun h => n + 2 * prX (ml 2) n (evS p h p).1 n) i).1))), (4, .int (((fewC (fun h => n + 2 * prX (ml 2) n (evS p h p).1 n) i).2)))] d_Nm_fewest_76 rfl (nI_add _ 1) (Nat.le_of_ble_eq_true rfl) rfl ?_
                    refine r_goto X (tgt := 31) d_Nm_fewest_79 (by decide) ?_
                    refine V.wk [2, 3, 4, 5, 6, 0] (V.eq (ih_L31_1 (i + 1) (by omega) (mb) (zb) (fun t h1 h2 => by rw [hfb t h1 h2]; exact hf t h1 h2) (fun t h1 => by rw [hgb t h1]; exact hg t h1)) ?_ ?_ ?_ rfl) (rfl : lv_pick _ [2, 3, 4, 5, 6, 0] = [(0, .ref (ads o (0))), (1, .int (nI (p))), (2, .int (nI (w))), (3, .int (nI ((fewC (fun h => n + 2 * prX (ml 2) n (evS p h p).1 n) i).1))), (4, .int (((fewC (fun h => n + 2 * prX (ml 2) n (evS p h p).1 n) i).2))), (5, .int (nI (i + 1)))])
                    · rfl
                    · rfl
                    · first | (rw [show fewC (fun h => n + 2 * prX (ml 2) n (evS p h p).1 n) (i + 1) = ((fun h => n + 2 * prX (ml 2) n (evS p h p).1 n) i, nI i) from fewC_y (by rw [decide_eq_true c_60]; rfl)]; first | done | rfl) | (rw [show fewC (fun h => n + 2 * prX (ml 2) n (evS p h p).1 n) (i + 1) = ((fun h => n + 2 * prX (ml 2) n (evS p h p).1 n) i, nI i) from fewC_y (by rw [decide_eq_false c_66]; exact Bool.or_true _)]; first | done | rfl) | (rw [show fewC (fun h => n + 2 * prX (ml 2) n (evS p h p).1 n) (i + 1) = fewC (fun h => n + 2 * prX (ml 2) n (evS p h p).1 n) i from fewC_n (by rw [decide_eq_false c_60, decide_eq_true c_66]; rfl)]; first | done | rfl)
                  · -- not taken
                    refine r_iload X 0 d_Nm_fewest_69 rfl ?_
                    refine r_istore_n X [(3, .int (nI (n + 2 * prX (ml 2) n (evS p i p).1 n))), (6, .int (nI (n + 2 * prX (ml 2) n (evS p i p).1 n))), (0, .ref (ads o (0))), (1, .int (nI (p))), (2, .int (nI (w))), (4, .int (((fewC (fun h => n + 2 * prX (ml 2) n (evS p h p).1 n) i).2))), (5, .int (nI (i)))] d_Nm_fewest_71 rfl (Nat.le_of_ble_eq_true rfl) rfl ?_
                    refine r_iload X 6 d_Nm_fewest_72 rfl ?_
                    refine r_istore X [(4, .int (nI (i))), (3, .int (nI (n + 2 * prX (ml 2) n (evS p i p).1 n))), (6, .int (nI (n + 2 * prX (ml 2) n (evS p i p).1 n))), (0, .ref (ads o (0))), (1, .int (nI (p))), (2, .int (nI (w))), (5, .int (nI (i)))] d_Nm_fewest_74 (Nat.le_of_ble_eq_true rfl) rfl ?_
                    refine r_iinc X 6 (v := nI (i + 1)) [(5, .int (nI (i + 1))), (4, .int (nI (i))), (3, .int (nI (n + 2 * prX (ml 2) n (evS p i p).1 n))), (6, .int (nI (n + 2 * prX (ml 2) n (evS p i p).1 n))), (0, .ref (ads o (0))), (1, .int (nI (p))), (2, .int (nI (w)))] d_Nm_fewest_76 rfl (nI_add _ 1) (Nat.le_of_ble_eq_true rfl) rfl ?_
                    refine r_goto X (tgt := 31) d_Nm_fewest_79 (by decide) ?_
                    refine V.wk [4, 5, 6, 2, 1, 0] (V.eq (ih_L31_1 (i + 1) (by omega) (mb) (zb) (fun t h1 h2 => by rw [hfb t h1 h2]; exact hf t h1 h2) (fun t h1 => by rw [hgb t h1]; exact hg t h1)) ?_ ?_ ?_ rfl) (rfl : lv_pick _ [4, 5, 6, 2, 1, 0] = [(0, .ref (ads o (0))), (1, .int (nI (p))), (2, .int (nI (w))), (3, .int (nI (n + 2 * prX (ml 2) n (evS p i p).1 n))), (4, .int (nI (i))), (5, .int (nI (i + 1)))])
                    · rfl
                    · rfl
                    · first | (rw [show fewC (fun h => n + 2 * prX (ml 2) n (evS p h p).1 n) (i + 1) = ((fun h => n + 2 * prX (ml 2) n (evS p h p).1 n) i, nI i) from fewC_y (by rw [decide_eq_true c_60]; rfl)]; first | done | rfl) | (rw [show fewC (fun h => n + 2 * prX (ml 2) n (evS p h p).1 n) (i + 1) = ((fun h => n + 2 * prX (ml 2) n (evS p h p).1 n) i, nI i) from fewC_y (by rw [decide_eq_false c_66]; exact Bool.or_true _)]; first | done | rfl) | (rw [show fewC (fun h => n + 2 * prX (ml 2) n (evS p h p).1 n) (i + 1) = fewC (fun h => n + 2 * prX (ml 2) n (evS p h p).1 n) i from fewC_n (by rw [decide_eq_false c_60, decide_eq_true c_66]; rfl)]; first | done | rfl)
          refine V.wk [3, 4, 5, 2, 1, 0] (V.eq (L31_1 (3 - 0) 0 (by omega) (mi) (ml) (fun _ _ _ => rfl) (fun _ _ => rfl)) ?_ ?_ ?_ rfl) (rfl : lv_pick _ [3, 4, 5, 2, 1, 0] = [(0, .ref (ads o (0))), (1, .int (nI (p))), (2, .int (nI (w))), (3, .int (nI (0))), (4, .int (((-1 : Int32)))), (5, .int (nI (0)))])
          · rfl
          · rfl
          · rfl
        · -- not taken
          exact False.elim (by omega)
