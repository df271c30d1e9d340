set_option maxHeartbeats 4000000 in
set_option maxRecDepth 100000 in
theorem m_Nm_see_o (l : Launch) (o : OM) (mi : MI) (ml : ML) (q : Int32) (hq : q < nI 0 ∨ nI 64 < q) : ConD l y_Nm_see c_Nm_see 2 (some .int) 8 270 o [.ref (ads o (0)), .int (q)] mi ml (some (.int (((-1000000002 : Int32))))) mi ml := by
  refine Con.mk (by decide) (Nat.le_of_ble_eq_true rfl) (fun γ X => ?_)
  show V γ o 2 mi ml 0 [(0, .ref (ads o (0))), (1, .int (q))] []
  refine r_iload_n X 1 d_Nm_see_0 rfl rfl ?_
  refine r_callS X (m_Nm_isDistance l o mi ml q) ok_Nm_isDistance w_Nm_223 rfl ⟨Nat.le_of_ble_eq_true rfl, Nat.le_of_ble_eq_true rfl⟩ (rest := []) rfl (Nat.le_of_ble_eq_true rfl) d_Nm_see_1 ?_
  refine kD (st' := [.int (bI (!decide (q < 0) && !decide (nI 64 < q)))]) rfl ?_
  refine r_ifneB X (tgt := 10) (b := !decide (q < 0) && !decide (nI 64 < q)) d_Nm_see_4 (by decide) (fun c_4 => ?_) (fun c_4 => ?_)
  · -- taken
    exact False.elim (by have e := rng_out (m := 64) hq; exact absurd (c_4.symm.trans e) (by decide))
  · -- not taken
    refine r_ldc X (v := ((-1000000002 : Int32))) k_Nm_137 (by decide) d_Nm_see_7 ?_
    refine r_end_i X d_Nm_see_9 ?_
    first | exact ⟨rfl, rfl, rfl⟩ | (refine ⟨?_, rfl, rfl⟩; simp_all)

set_option maxHeartbeats 4000000 in
set_option maxRecDepth 100000 in
theorem m_Nm_see_f (l : Launch) (o : OM) (mi : MI) (ml : ML) (q : Nat) (s : Nat) (hs : mi 86 3 = nI s) (hs6 : s ≤ 6) (hq : q ≤ 64) (h6 : s = 6) : ConD l y_Nm_see c_Nm_see 2 (some .int) 8 270 o [.ref (ads o (0)), .int (nI (q))] mi ml (some (.int (((-1000000004 : Int32))))) mi ml := by
  refine Con.mk (by decide) (Nat.le_of_ble_eq_true rfl) (fun γ X => ?_)
  show V γ o 2 mi ml 0 [(0, .ref (ads o (0))), (1, .int (nI (q)))] []
  refine r_iload_n X 1 d_Nm_see_0 rfl rfl ?_
  refine r_callS X (m_Nm_isDistance l o mi ml (nI (q))) ok_Nm_isDistance w_Nm_223 rfl ⟨Nat.le_of_ble_eq_true rfl, Nat.le_of_ble_eq_true rfl⟩ (rest := []) rfl (Nat.le_of_ble_eq_true rfl) d_Nm_see_1 ?_
  refine kD (st' := [.int (bI (!decide ((nI (q)) < 0) && !decide (nI 64 < (nI (q)))))]) rfl ?_
  refine r_ifneB X (tgt := 10) (b := !decide ((nI (q)) < 0) && !decide (nI 64 < (nI (q)))) d_Nm_see_4 (by decide) (fun c_4 => ?_) (fun c_4 => ?_)
  · -- taken
    refine r_aload_n X 0 d_Nm_see_10 rfl rfl ?_
    refine r_get X f_Nm_65 b_0 e_0 (v := .ref (ads o (86))) rfl d_Nm_see_11 ?_
    refine r_get X f_Nm_121 b_86 e_86 (v := .int (nI (s))) (congrArg (fun z => some (Value.int z)) (hs)) d_Nm_see_14 ?_
    refine r_bipush X (v := nI (6)) d_Nm_see_17 (by decide) ?_
    refine r_iclt X (tgt := 25) (c := s < 6) d_Nm_see_19 (by decide) (nI_ltI (by omega) (Nat.le_of_ble_eq_true rfl)) (fun c_19 => ?_) (fun c_19 => ?_)
    · -- taken
      exact False.elim (by omega)
    · -- not taken
      refine r_ldc X (v := ((-1000000004 : Int32))) k_Nm_198 (by decide) d_Nm_see_22 ?_
      refine r_end_i X d_Nm_see_24 ?_
      first | exact ⟨rfl, rfl, rfl⟩ | (refine ⟨?_, rfl, rfl⟩; simp_all)
  · -- not taken
    exact False.elim (by have e := rng_in (q := q) (m := 64) (by omega) (by decide); exact absurd (c_4.symm.trans e) (by decide))

set_option maxHeartbeats 4000000 in
set_option maxRecDepth 100000 in
theorem m_Nm_see_i (l : Launch) (o : OM) (mi : MI) (ml : ML) (q : Nat) (s : Nat) (hs : mi 86 3 = nI s) (hs6 : s < 6) (hq : q ≤ 64) : ConD l y_Nm_see c_Nm_see 2 (some .int) 8 270 o [.ref (ads o (0)), .int (nI (q))] mi ml (some (.int (nI (s + 1)))) (u2 (u2 mi 88 s (nI q)) 86 3 (nI (s + 1))) (u2 ml 87 s (ml 1 0)) := by
  refine Con.mk (by decide) (Nat.le_of_ble_eq_true rfl) (fun γ X => ?_)
  show V γ o 2 mi ml 0 [(0, .ref (ads o (0))), (1, .int (nI (q)))] []
  refine r_iload_n X 1 d_Nm_see_0 rfl rfl ?_
  refine r_callS X (m_Nm_isDistance l o mi ml (nI (q))) ok_Nm_isDistance w_Nm_223 rfl ⟨Nat.le_of_ble_eq_true rfl, Nat.le_of_ble_eq_true rfl⟩ (rest := []) rfl (Nat.le_of_ble_eq_true rfl) d_Nm_see_1 ?_
  refine kD (st' := [.int (bI (!decide ((nI (q)) < 0) && !decide (nI 64 < (nI (q)))))]) rfl ?_
  refine r_ifneB X (tgt := 10) (b := !decide ((nI (q)) < 0) && !decide (nI 64 < (nI (q)))) d_Nm_see_4 (by decide) (fun c_4 => ?_) (fun c_4 => ?_)
  · -- taken
    refine r_aload_n X 0 d_Nm_see_10 rfl rfl ?_
    refine r_get X f_Nm_65 b_0 e_0 (v := .ref (ads o (86))) rfl d_Nm_see_11 ?_
    refine r_get X f_Nm_121 b_86 e_86 (v := .int (nI (s))) (congrArg (fun z => some (Value.int z)) (hs)) d_Nm_see_14 ?_
    refine r_bipush X (v := nI (6)) d_Nm_see_17 (by decide) ?_
    refine r_iclt X (tgt := 25) (c := s < 6) d_Nm_see_19 (by decide) (nI_ltI (by omega) (Nat.le_of_ble_eq_true rfl)) (fun c_19 => ?_) (fun c_19 => ?_)
    · -- taken
      refine r_aload_n X 0 d_Nm_see_25 rfl rfl ?_
      refine r_get X f_Nm_65 b_0 e_0 (v := .ref (ads o (86))) rfl d_Nm_see_26 ?_
      refine r_aload_n X 0 d_Nm_see_29 rfl rfl ?_
      refine r_get X f_Nm_10 b_0 e_0 (v := .ref (ads o (1))) rfl d_Nm_see_30 ?_
      refine r_get X f_Nm_88 b_1 e_1 (v := .long (ml 1 0)) (congrArg (fun z => some (Value.long z)) (rfl)) d_Nm_see_33 ?_
      refine r_iload_n X 1 d_Nm_see_36 rfl rfl ?_
      refine r_callV X (m_Si_add l o mi ml (ml 1 0) q s (hs) hs6) ok_Si_add w_Nm_264 rfl b_86 e_86 rfl ⟨Nat.le_of_ble_eq_true rfl, Nat.le_of_ble_eq_true rfl⟩ (rest := []) rfl (Nat.le_of_ble_eq_true rfl) d_Nm_see_37 ?_
      refine kD (st' := []) rfl ?_
      refine r_aload_n X 0 d_Nm_see_40 rfl rfl ?_
      refine r_get X f_Nm_65 b_0 e_0 (v := .ref (ads o (86))) rfl d_Nm_see_41 ?_
      refine r_get X f_Nm_121 b_86 e_86 (v := .int (nI (s + 1))) (congrArg (fun z => some (Value.int z)) ((by rw [u2_s, uf_s]))) d_Nm_see_44 ?_
      refine r_end_i X d_Nm_see_47 ?_
      exact ⟨rfl, rfl, rfl⟩
    · -- not taken
      exact False.elim (by omega)
  · -- not taken
    exact False.elim (by have e := rng_in (q := q) (m := 64) (by omega) (by decide); exact absurd (c_4.symm.trans e) (by decide))

set_option maxHeartbeats 4000000 in
set_option maxRecDepth 100000 in
theorem m_Nm_write_u (l : Launch) (o : OM) (mi : MI) (ml : ML) (j : Int32) (k : Int32) (q : Int32) (n : Nat) (hn : mi 1 2 = nI n) (hn40 : n ≤ 40) (hu : (isMk n j && (isMk n k && !decide (j = k))) = false) : ConD l y_Nm_write c_Nm_write 4 (some .int) 8 270 o [.ref (ads o (0)), .int (j), .int (k), .int (q)] mi ml (some (.int (((-1000000001 : Int32))))) mi ml := by
  refine Con.mk (by decide) (Nat.le_of_ble_eq_true rfl) (fun γ X => ?_)
  show V γ o 4 mi ml 0 [(0, .ref (ads o (0))), (1, .int (j)), (2, .int (k)), (3, .int (q))] []
  refine r_aload_n X 0 d_Nm_write_0 rfl rfl ?_
  refine r_get X f_Nm_10 b_0 e_0 (v := .ref (ads o (1))) rfl d_Nm_write_1 ?_
  refine r_iload_n X 1 d_Nm_write_4 rfl rfl ?_
  refine r_iload_n X 2 d_Nm_write_5 rfl rfl ?_
  refine r_callV X (m_St_hasBoth l o mi ml 1 j k n isSt.now (hn) hn40) ok_St_hasBoth w_Nm_230 rfl b_1 e_1 rfl ⟨Nat.le_of_ble_eq_true rfl, Nat.le_of_ble_eq_true rfl⟩ (rest := []) rfl (Nat.le_of_ble_eq_true rfl) d_Nm_write_6 ?_
  refine kD (st' := [.int (bI ((isMk n j && (isMk n k && !decide (j = k)))))]) rfl ?_
  refine r_ifneB X (tgt := 15) (b := (isMk n j && (isMk n k && !decide (j = k)))) d_Nm_write_9 (by decide) (fun c_9 => ?_) (fun c_9 => ?_)
  · -- taken
    exact False.elim (by exact absurd (c_9.symm.trans hu) (by decide))
  · -- not taken
    refine r_ldc X (v := ((-1000000001 : Int32))) k_Nm_146 (by decide) d_Nm_write_12 ?_
    refine r_end_i X d_Nm_write_14 ?_
    first | exact ⟨rfl, rfl, rfl⟩ | (refine ⟨?_, rfl, rfl⟩; simp_all)

set_option maxHeartbeats 4000000 in
set_option maxRecDepth 100000 in
theorem m_Nm_write_o (l : Launch) (o : OM) (mi : MI) (ml : ML) (j : Nat) (k : Nat) (q : Int32) (n : Nat) (hn : mi 1 2 = nI n) (hn40 : n ≤ 40) (hj : j < n) (hk : k < n) (hjk : j ≠ k) (hq : q < nI 0 ∨ nI 64 < q) : ConD l y_Nm_write c_Nm_write 4 (some .int) 8 270 o [.ref (ads o (0)), .int (nI (j)), .int (nI (k)), .int (q)] mi ml (some (.int (((-1000000002 : Int32))))) mi ml := by
  refine Con.mk (by decide) (Nat.le_of_ble_eq_true rfl) (fun γ X => ?_)
  show V γ o 4 mi ml 0 [(0, .ref (ads o (0))), (1, .int (nI (j))), (2, .int (nI (k))), (3, .int (q))] []
  refine r_aload_n X 0 d_Nm_write_0 rfl rfl ?_
  refine r_get X f_Nm_10 b_0 e_0 (v := .ref (ads o (1))) rfl d_Nm_write_1 ?_
  refine r_iload_n X 1 d_Nm_write_4 rfl rfl ?_
  refine r_iload_n X 2 d_Nm_write_5 rfl rfl ?_
  refine r_callV X (m_St_hasBoth l o mi ml 1 (nI (j)) (nI (k)) n isSt.now (hn) hn40) ok_St_hasBoth w_Nm_230 rfl b_1 e_1 rfl ⟨Nat.le_of_ble_eq_true rfl, Nat.le_of_ble_eq_true rfl⟩ (rest := []) rfl (Nat.le_of_ble_eq_true rfl) d_Nm_write_6 ?_
  refine kD (st' := [.int (bI ((isMk n (nI (j)) && (isMk n (nI (k)) && !decide ((nI (j)) = (nI (k)))))))]) rfl ?_
  refine r_ifneB X (tgt := 15) (b := (isMk n (nI (j)) && (isMk n (nI (k)) && !decide ((nI (j)) = (nI (k)))))) d_Nm_write_9 (by decide) (fun c_9 => ?_) (fun c_9 => ?_)
  · -- taken
    refine r_iload_n X 3 d_Nm_write_15 rfl rfl ?_
    refine r_callS X (m_Nm_isDistance l o mi ml q) ok_Nm_isDistance w_Nm_223 rfl ⟨Nat.le_of_ble_eq_true rfl, Nat.le_of_ble_eq_true rfl⟩ (rest := []) rfl (Nat.le_of_ble_eq_true rfl) d_Nm_write_16 ?_
    refine kD (st' := [.int (bI (!decide (q < 0) && !decide (nI 64 < q)))]) rfl ?_
    refine r_ifneB X (tgt := 25) (b := !decide (q < 0) && !decide (nI 64 < q)) d_Nm_write_19 (by decide) (fun c_19 => ?_) (fun c_19 => ?_)
    · -- taken
      exact False.elim (by have e := rng_out (m := 64) hq; exact absurd (c_19.symm.trans e) (by decide))
    · -- not taken
      refine r_ldc X (v := ((-1000000002 : Int32))) k_Nm_137 (by decide) d_Nm_write_22 ?_
      refine r_end_i X d_Nm_write_24 ?_
      first | exact ⟨rfl, rfl, rfl⟩ | (refine ⟨?_, rfl, rfl⟩; simp_all)
  · -- not taken
    exact False.elim (by have e := both_in hn40 hj hk hjk; exact absurd (c_9.symm.trans e) (by decide))

set_option maxHeartbeats 4000000 in
set_option maxRecDepth 100000 in
theorem m_Nm_write_f (l : Launch) (o : OM) (mi : MI) (ml : ML) (j : Nat) (k : Nat) (q : Nat) (n : Nat) (E : Nat) (hn : mi 1 2 = nI n) (hn40 : n ≤ 40) (hj : j < n) (hk : k < n) (hjk : j ≠ k) (hE : mi 90 3 = nI E) (hE20 : E ≤ 20) (hq : q ≤ 64) (h20 : E = 20) : ConD l y_Nm_write c_Nm_write 4 (some .int) 8 270 o [.ref (ads o (0)), .int (nI (j)), .int (nI (k)), .int (nI (q))] mi ml (some (.int (((-1000000004 : Int32))))) mi ml := by
  refine Con.mk (by decide) (Nat.le_of_ble_eq_true rfl) (fun γ X => ?_)
  show V γ o 4 mi ml 0 [(0, .ref (ads o (0))), (1, .int (nI (j))), (2, .int (nI (k))), (3, .int (nI (q)))] []
  refine r_aload_n X 0 d_Nm_write_0 rfl rfl ?_
  refine r_get X f_Nm_10 b_0 e_0 (v := .ref (ads o (1))) rfl d_Nm_write_1 ?_
  refine r_iload_n X 1 d_Nm_write_4 rfl rfl ?_
  refine r_iload_n X 2 d_Nm_write_5 rfl rfl ?_
  refine r_callV X (m_St_hasBoth l o mi ml 1 (nI (j)) (nI (k)) n isSt.now (hn) hn40) ok_St_hasBoth w_Nm_230 rfl b_1 e_1 rfl ⟨Nat.le_of_ble_eq_true rfl, Nat.le_of_ble_eq_true rfl⟩ (rest := []) rfl (Nat.le_of_ble_eq_true rfl) d_Nm_write_6 ?_
  refine kD (st' := [.int (bI ((isMk n (nI (j)) && (isMk n (nI (k)) && !decide ((nI (j)) = (nI (k)))))))]) rfl ?_
  refine r_ifneB X (tgt := 15) (b := (isMk n (nI (j)) && (isMk n (nI (k)) && !decide ((nI (j)) = (nI (k)))))) d_Nm_write_9 (by decide) (fun c_9 => ?_) (fun c_9 => ?_)
  · -- taken
    refine r_iload_n X 3 d_Nm_write_15 rfl rfl ?_
    refine r_callS X (m_Nm_isDistance l o mi ml (nI (q))) ok_Nm_isDistance w_Nm_223 rfl ⟨Nat.le_of_ble_eq_true rfl, Nat.le_of_ble_eq_true rfl⟩ (rest := []) rfl (Nat.le_of_ble_eq_true rfl) d_Nm_write_16 ?_
    refine kD (st' := [.int (bI (!decide ((nI (q)) < 0) && !decide (nI 64 < (nI (q)))))]) rfl ?_
    refine r_ifneB X (tgt := 25) (b := !decide ((nI (q)) < 0) && !decide (nI 64 < (nI (q)))) d_Nm_write_19 (by decide) (fun c_19 => ?_) (fun c_19 => ?_)
    · -- taken
      refine r_aload_n X 0 d_Nm_write_25 rfl rfl ?_
      refine r_get X f_Nm_72 b_0 e_0 (v := .ref (ads o (90))) rfl d_Nm_write_26 ?_
      refine r_get X f_Nm_132 b_90 e_90 (v := .int (nI (E))) (congrArg (fun z => some (Value.int z)) (hE)) d_Nm_write_29 ?_
      refine r_bipush X (v := nI (20)) d_Nm_write_32 (by decide) ?_
      refine r_iclt X (tgt := 40) (c := E < 20) d_Nm_write_34 (by decide) (nI_ltI (by omega) (Nat.le_of_ble_eq_true rfl)) (fun c_34 => ?_) (fun c_34 => ?_)
      · -- taken
        exact False.elim (by omega)
      · -- not taken
        refine r_ldc X (v := ((-1000000004 : Int32))) k_Nm_198 (by decide) d_Nm_write_37 ?_
        refine r_end_i X d_Nm_write_39 ?_
        first | exact ⟨rfl, rfl, rfl⟩ | (refine ⟨?_, rfl, rfl⟩; simp_all)
    · -- not taken
      exact False.elim (by have e := rng_in (q := q) (m := 64) (by omega) (by decide); exact absurd (c_19.symm.trans e) (by decide))
  · -- not taken
    exact False.elim (by have e := both_in hn40 hj hk hjk; exact absurd (c_9.symm.trans e) (by decide))

set_option maxHeartbeats 4000000 in
set_option maxRecDepth 100000 in
theorem m_Nm_write_i (l : Launch) (o : OM) (mi : MI) (ml : ML) (j : Nat) (k : Nat) (q : Nat) (n : Nat) (E : Nat) (hn : mi 1 2 = nI n) (hn40 : n ≤ 40) (hj : j < n) (hk : k < n) (hjk : j ≠ k) (hE : mi 90 3 = nI E) (hE20 : E < 20) (hq : q ≤ 64) : ConD l y_Nm_write c_Nm_write 4 (some .int) 8 270 o [.ref (ads o (0)), .int (nI (j)), .int (nI (k)), .int (nI (q))] mi ml (some (.int (nI (E + 1)))) (u2 (u2 (u2 (u2 mi 91 E (nI j)) 92 E (nI k)) 93 E (nI q)) 90 3 (nI (E + 1))) ml := by
  refine Con.mk (by decide) (Nat.le_of_ble_eq_true rfl) (fun γ X => ?_)
  show V γ o 4 mi ml 0 [(0, .ref (ads o (0))), (1, .int (nI (j))), (2, .int (nI (k))), (3, .int (nI (q)))] []
  refine r_aload_n X 0 d_Nm_write_0 rfl rfl ?_
  refine r_get X f_Nm_10 b_0 e_0 (v := .ref (ads o (1))) rfl d_Nm_write_1 ?_
  refine r_iload_n X 1 d_Nm_write_4 rfl rfl ?_
  refine r_iload_n X 2 d_Nm_write_5 rfl rfl ?_
  refine r_callV X (m_St_hasBoth l o mi ml 1 (nI (j)) (nI (k)) n isSt.now (hn) hn40) ok_St_hasBoth w_Nm_230 rfl b_1 e_1 rfl ⟨Nat.le_of_ble_eq_true rfl, Nat.le_of_ble_eq_true rfl⟩ (rest := []) rfl (Nat.le_of_ble_eq_true rfl) d_Nm_write_6 ?_
  refine kD (st' := [.int (bI ((isMk n (nI (j)) && (isMk n (nI (k)) && !decide ((nI (j)) = (nI (k)))))))]) rfl ?_
  refine r_ifneB X (tgt := 15) (b := (isMk n (nI (j)) && (isMk n (nI (k)) && !decide ((nI (j)) = (nI (k)))))) d_Nm_write_9 (by decide) (fun c_9 => ?_) (fun c_9 => ?_)
  · -- taken
    refine r_iload_n X 3 d_Nm_write_15 rfl rfl ?_
    refine r_callS X (m_Nm_isDistance l o mi ml (nI (q))) ok_Nm_isDistance w_Nm_223 rfl ⟨Nat.le_of_ble_eq_true rfl, Nat.le_of_ble_eq_true rfl⟩ (rest := []) rfl (Nat.le_of_ble_eq_true rfl) d_Nm_write_16 ?_
    refine kD (st' := [.int (bI (!decide ((nI (q)) < 0) && !decide (nI 64 < (nI (q)))))]) rfl ?_
    refine r_ifneB X (tgt := 25) (b := !decide ((nI (q)) < 0) && !decide (nI 64 < (nI (q)))) d_Nm_write_19 (by decide) (fun c_19 => ?_) (fun c_19 => ?_)
    · -- taken
      refine r_aload_n X 0 d_Nm_write_25 rfl rfl ?_
      refine r_get X f_Nm_72 b_0 e_0 (v := .ref (ads o (90))) rfl d_Nm_write_26 ?_
      refine r_get X f_Nm_132 b_90 e_90 (v := .int (nI (E))) (congrArg (fun z => some (Value.int z)) (hE)) d_Nm_write_29 ?_
      refine r_bipush X (v := nI (20)) d_Nm_write_32 (by decide) ?_
      refine r_iclt X (tgt := 40) (c := E < 20) d_Nm_write_34 (by decide) (nI_ltI (by omega) (Nat.le_of_ble_eq_true rfl)) (fun c_34 => ?_) (fun c_34 => ?_)
      · -- taken
        refine r_aload_n X 0 d_Nm_write_40 rfl rfl ?_
        refine r_get X f_Nm_72 b_0 e_0 (v := .ref (ads o (90))) rfl d_Nm_write_41 ?_
        refine r_iload_n X 1 d_Nm_write_44 rfl rfl ?_
        refine r_iload_n X 2 d_Nm_write_45 rfl rfl ?_
        refine r_iload_n X 3 d_Nm_write_46 rfl rfl ?_
        refine r_callV X (m_Bk_add l o mi ml j k q E (hE) hE20) ok_Bk_add w_Nm_268 rfl b_90 e_90 rfl ⟨Nat.le_of_ble_eq_true rfl, Nat.le_of_ble_eq_true rfl⟩ (rest := []) rfl (Nat.le_of_ble_eq_true rfl) d_Nm_write_47 ?_
        refine kD (st' := []) rfl ?_
        refine r_aload_n X 0 d_Nm_write_50 rfl rfl ?_
        refine r_get X f_Nm_72 b_0 e_0 (v := .ref (ads o (90))) rfl d_Nm_write_51 ?_
        refine r_get X f_Nm_132 b_90 e_90 (v := .int (nI (E + 1))) (congrArg (fun z => some (Value.int z)) ((by rw [u2_s, uf_s]))) d_Nm_write_54 ?_
        refine r_end_i X d_Nm_write_57 ?_
        exact ⟨rfl, rfl, rfl⟩
      · -- not taken
        exact False.elim (by omega)
    · -- not taken
      exact False.elim (by have e := rng_in (q := q) (m := 64) (by omega) (by decide); exact absurd (c_19.symm.trans e) (by decide))
  · -- not taken
    exact False.elim (by have e := both_in hn40 hj hk hjk; exact absurd (c_9.symm.trans e) (by decide))

set_option maxHeartbeats 4000000 in
set_option maxRecDepth 100000 in
theorem m_Nm_tear (l : Launch) (o : OM) (mi : MI) (ml : ML) (s : Nat) (E : Nat) (hs : mi 86 3 = nI s) (hs6 : s ≤ 6) (hE : mi 90 3 = nI E) (hE20 : E ≤ 20) : ConD l y_Nm_tear c_Nm_tear 2 (some .int) 8 270 o [.ref (ads o (0))] mi ml (some (.int (nI (s + E)))) (u2 (u2 mi 86 3 (nI 0)) 90 3 (nI 0)) ml := by
  refine Con.mk (by decide) (Nat.le_of_ble_eq_true rfl) (fun γ X => ?_)
  show V γ o 2 mi ml 0 [(0, .ref (ads o (0)))] []
  refine r_aload_n X 0 d_Nm_tear_0 rfl rfl ?_
  refine r_get X f_Nm_65 b_0 e_0 (v := .ref (ads o (86))) rfl d_Nm_tear_1 ?_
  refine r_get X f_Nm_121 b_86 e_86 (v := .int (nI (s))) (congrArg (fun z => some (Value.int z)) (hs)) d_Nm_tear_4 ?_
  refine r_aload_n X 0 d_Nm_tear_7 rfl rfl ?_
  refine r_get X f_Nm_72 b_0 e_0 (v := .ref (ads o (90))) rfl d_Nm_tear_8 ?_
  refine r_get X f_Nm_132 b_90 e_90 (v := .int (nI (E))) (congrArg (fun z => some (Value.int z)) (hE)) d_Nm_tear_11 ?_
  refine r_iadd X (v := nI (s + E)) d_Nm_tear_14 (nI_add _ _) ?_
  refine r_istore_n X [(1, .int (nI (s + E))), (0, .ref (ads o (0)))] d_Nm_tear_15 rfl (Nat.le_of_ble_eq_true rfl) rfl ?_
  refine r_aload_n X 1 d_Nm_tear_16 rfl rfl ?_
  refine r_get X f_Nm_65 b_0 e_0 (v := .ref (ads o (86))) rfl d_Nm_tear_17 ?_
  refine r_iconst X (v := nI (0)) d_Nm_tear_20 (by decide) ?_
  refine r_putI X fw_Nm_121 b_86 e_86 (fun _ _ => rfl) (Nat.le_of_ble_eq_true rfl) d_Nm_tear_21 ?_
  refine r_aload_n X 1 d_Nm_tear_24 rfl rfl ?_
  refine r_get X f_Nm_72 b_0 e_0 (v := .ref (ads o (90))) rfl d_Nm_tear_25 ?_
  refine r_iconst X (v := nI (0)) d_Nm_tear_28 (by decide) ?_
  refine r_putI X fw_Nm_132 b_90 e_90 (fun _ _ => rfl) (Nat.le_of_ble_eq_true rfl) d_Nm_tear_29 ?_
  refine r_iload_n X 0 d_Nm_tear_32 rfl rfl ?_
  refine r_end_i X d_Nm_tear_33 ?_
  exact ⟨rfl, rfl, rfl⟩

set_option maxHeartbeats 4000000 in
set_option maxRecDepth 100000 in
theorem m_Nm_seed_o (l : Launch) (o : OM) (mi : MI) (ml : ML) (v : Int32) (hv : ¬ 0 ≤ v) : ConD l y_Nm_seed c_Nm_seed 3 (some .int) 8 270 o [.ref (ads o (0)), .int (v)] mi ml (some (.int (((-1000000002 : Int32))))) mi ml := by
  refine Con.mk (by decide) (Nat.le_of_ble_eq_true rfl) (fun γ X => ?_)
  show V γ o 3 mi ml 0 [(0, .ref (ads o (0))), (1, .int (v))] []
  refine r_iload_n X 1 d_Nm_seed_0 rfl rfl ?_
  refine r_ifge X (tgt := 7) (c := 0 ≤ v) d_Nm_seed_1 (by decide) (Iff.rfl) (fun c_1 => ?_) (fun c_1 => ?_)
  · -- taken
    exact False.elim (by exact hv c_1)
  · -- not taken
    refine r_ldc X (v := ((-1000000002 : Int32))) k_Nm_137 (by decide) d_Nm_seed_4 ?_
    refine r_end_i X d_Nm_seed_6 ?_
    first | exact ⟨rfl, rfl, rfl⟩ | (refine ⟨?_, rfl, rfl⟩; simp_all)

set_option maxHeartbeats 4000000 in
set_option maxRecDepth 100000 in
theorem m_Nm_seed_i (l : Launch) (o : OM) (mi : MI) (ml : ML) (v : Int32) (hv : 0 ≤ v) : ConD l y_Nm_seed c_Nm_seed 3 (some .int) 8 270 o [.ref (ads o (0)), .int (v)] mi ml (some (.int ((mi 94 0)))) (u2 mi 94 0 v) ml := by
  refine Con.mk (by decide) (Nat.le_of_ble_eq_true rfl) (fun γ X => ?_)
  show V γ o 3 mi ml 0 [(0, .ref (ads o (0))), (1, .int (v))] []
  refine r_iload_n X 1 d_Nm_seed_0 rfl rfl ?_
  refine r_ifge X (tgt := 7) (c := 0 ≤ v) d_Nm_seed_1 (by decide) (Iff.rfl) (fun c_1 => ?_) (fun c_1 => ?_)
  · -- taken
    refine r_aload_n X 0 d_Nm_seed_7 rfl rfl ?_
    refine r_get X f_Nm_79 b_0 e_0 (v := .ref (ads o (94))) rfl d_Nm_seed_8 ?_
    refine r_get X f_Nm_271 b_94 e_94 (v := .int ((mi 94 0))) rfl d_Nm_seed_11 ?_
    refine r_istore_n X [(2, .int ((mi 94 0))), (0, .ref (ads o (0))), (1, .int (v))] d_Nm_seed_14 rfl (Nat.le_of_ble_eq_true rfl) rfl ?_
    refine r_aload_n X 1 d_Nm_seed_15 rfl rfl ?_
    refine r_get X f_Nm_79 b_0 e_0 (v := .ref (ads o (94))) rfl d_Nm_seed_16 ?_
    refine r_iload_n X 2 d_Nm_seed_19 rfl rfl ?_
    refine r_putI X fw_Nm_271 b_94 e_94 (fun _ _ => rfl) (Nat.le_of_ble_eq_true rfl) d_Nm_seed_20 ?_
    refine r_iload_n X 0 d_Nm_seed_23 rfl rfl ?_
    refine r_end_i X d_Nm_seed_24 ?_
    exact ⟨rfl, rfl, rfl⟩
  · -- not taken
    exact False.elim (by exact c_1 hv)

set_option maxHeartbeats 4000000 in
set_option maxRecDepth 100000 in
theorem m_Nm_keep_u (l : Launch) (o : OM) (mi : MI) (ml : ML) (q : Int32) (hq : q < nI 0 ∨ nI 1 < q) : ConD l y_Nm_keep c_Nm_keep 2 (some .int) 8 270 o [.ref (ads o (0)), .int (q)] mi ml (some (.int (((-1000000001 : Int32))))) mi ml := by
  refine Con.mk (by decide) (Nat.le_of_ble_eq_true rfl) (fun γ X => ?_)
  show V γ o 2 mi ml 0 [(0, .ref (ads o (0))), (1, .int (q))] []
  refine r_iload_n X 1 d_Nm_keep_0 rfl rfl ?_
  refine r_iflt X (tgt := 9) (c := q < 0) d_Nm_keep_1 (by decide) (Iff.rfl) (fun c_1 => ?_) (fun c_1 => ?_)
  · -- taken
    refine r_ldc X (v := ((-1000000001 : Int32))) k_Nm_146 (by decide) d_Nm_keep_9 ?_
    refine r_end_i X d_Nm_keep_11 ?_
    first | exact ⟨rfl, rfl, rfl⟩ | (refine ⟨?_, rfl, rfl⟩; simp_all)
  · -- not taken
    refine r_iload_n X 1 d_Nm_keep_4 rfl rfl ?_
    refine r_iconst X (v := nI (2)) d_Nm_keep_5 (by decide) ?_
    refine r_iclt X (tgt := 12) (c := q < (nI (2))) d_Nm_keep_6 (by decide) (Iff.rfl) (fun c_6 => ?_) (fun c_6 => ?_)
    · -- taken
      exact False.elim (by exact raw_lt (by decide) (by decide) rfl hq c_1 c_6)
    · -- not taken
      refine r_ldc X (v := ((-1000000001 : Int32))) k_Nm_146 (by decide) d_Nm_keep_9 ?_
      refine r_end_i X d_Nm_keep_11 ?_
      first | exact ⟨rfl, rfl, rfl⟩ | (refine ⟨?_, rfl, rfl⟩; simp_all)

set_option maxHeartbeats 4000000 in
set_option maxRecDepth 100000 in
theorem m_Nm_keep_0 (l : Launch) (o : OM) (mi : MI) (ml : ML) (n : Nat) (hn : mi 1 2 = nI n) (hn40 : n ≤ 40) : ConD l y_Nm_keep c_Nm_keep 2 (some .int) 8 270 o [.ref (ads o (0)), .int (nI (0))] mi ml (some (.int (nI (1)))) (u2 (u2 (u2 (bcI mi 68 1 n) 67 1 (mi 94 0)) 67 2 (nI 1)) 4 2 (nI 0)) (bcL ml 68 1 n) := by
  refine Con.mk (by decide) (Nat.le_of_ble_eq_true rfl) (fun γ X => ?_)
  show V γ o 2 mi ml 0 [(0, .ref (ads o (0))), (1, .int (nI (0)))] []
  refine r_iload_n X 1 d_Nm_keep_0 rfl rfl ?_
  refine r_iflt X (tgt := 9) (c := 0 < 0) d_Nm_keep_1 (by decide) ((by rw [← nI_0] <;> exact nI_ltI (Nat.le_of_ble_eq_true rfl) (Nat.le_of_ble_eq_true rfl))) (fun c_1 => ?_) (fun c_1 => ?_)
  · -- taken
    exact False.elim (by omega)
  · -- not taken
    refine r_iload_n X 1 d_Nm_keep_4 rfl rfl ?_
    refine r_iconst X (v := nI (2)) d_Nm_keep_5 (by decide) ?_
    refine r_iclt X (tgt := 12) (c := 0 < 2) d_Nm_keep_6 (by decide) (nI_ltI (Nat.le_of_ble_eq_true rfl) (Nat.le_of_ble_eq_true rfl)) (fun c_6 => ?_) (fun c_6 => ?_)
    · -- taken
      refine r_aload_n X 0 d_Nm_keep_12 rfl rfl ?_
      refine r_get X f_Nm_25 b_0 e_0 (v := .ref (ads o (66))) rfl d_Nm_keep_13 ?_
      refine r_iload_n X 1 d_Nm_keep_16 rfl rfl ?_
      refine r_aaldI X (a := ads o (67)) b_66 e_66 (Nat.le_of_ble_eq_true rfl) (by omega) rfl d_Nm_keep_17 ?_
      refine r_get X f_Nm_274 b_67 e_67 (v := .ref (ads o (68))) rfl d_Nm_keep_18 ?_
      refine r_aload_n X 0 d_Nm_keep_21 rfl rfl ?_
      refine r_get X f_Nm_10 b_0 e_0 (v := .ref (ads o (1))) rfl d_Nm_keep_22 ?_
      refine r_callV X (m_St_become l o mi ml 68 1 n isSt.im0 isSt.now (hn) hn40 (Or.inr (by decide))) ok_St_become w_Nm_276 rfl b_68 e_68 rfl ⟨Nat.le_of_ble_eq_true rfl, Nat.le_of_ble_eq_true rfl⟩ (rest := []) rfl (Nat.le_of_ble_eq_true rfl) d_Nm_keep_25 ?_
      refine kD (st' := []) rfl ?_
      refine r_aload_n X 0 d_Nm_keep_28 rfl rfl ?_
      refine r_get X f_Nm_25 b_0 e_0 (v := .ref (ads o (66))) rfl d_Nm_keep_29 ?_
      refine r_iload_n X 1 d_Nm_keep_32 rfl rfl ?_
      refine r_aaldI X (a := ads o (67)) b_66 e_66 (Nat.le_of_ble_eq_true rfl) (by omega) rfl d_Nm_keep_33 ?_
      refine r_aload_n X 0 d_Nm_keep_34 rfl rfl ?_
      refine r_get X f_Nm_79 b_0 e_0 (v := .ref (ads o (94))) rfl d_Nm_keep_35 ?_
      refine r_get X f_Nm_271 b_94 e_94 (v := .int ((mi 94 0))) (congrArg (fun z => some (Value.int z)) ((by rw [bcI_n _ (by omega) (by omega)] <;> exact rfl))) d_Nm_keep_38 ?_
      refine r_putI X fw_Nm_279 b_67 e_67 (fun _ _ => rfl) (Nat.le_of_ble_eq_true rfl) d_Nm_keep_41 ?_
      refine r_aload_n X 0 d_Nm_keep_44 rfl rfl ?_
      refine r_get X f_Nm_25 b_0 e_0 (v := .ref (ads o (66))) rfl d_Nm_keep_45 ?_
      refine r_iload_n X 1 d_Nm_keep_48 rfl rfl ?_
      refine r_aaldI X (a := ads o (67)) b_66 e_66 (Nat.le_of_ble_eq_true rfl) (by omega) rfl d_Nm_keep_49 ?_
      refine r_iconst X (v := nI (1)) d_Nm_keep_50 (by decide) ?_
      refine r_putZ X fw_Nm_281 b_67 e_67 (fun _ _ => rfl) (Nat.le_of_ble_eq_true rfl) rfl rfl d_Nm_keep_51 ?_
      refine r_aload_n X 0 d_Nm_keep_54 rfl rfl ?_
      refine r_get X f_Nm_19 b_0 e_0 (v := .ref (ads o (4))) rfl d_Nm_keep_55 ?_
      refine r_callV X (m_Pa_forget l o (u2 (u2 (bcI mi 68 1 n) 67 1 ((mi 94 0))) 67 2 (nI (1))) (bcL ml 68 1 n) ) ok_Pa_forget w_Nm_285 rfl b_4 e_4 rfl ⟨Nat.le_of_ble_eq_true rfl, Nat.le_of_ble_eq_true rfl⟩ (rest := []) rfl (Nat.le_of_ble_eq_true rfl) d_Nm_keep_58 ?_
      refine kD (st' := []) rfl ?_
      refine r_iconst X (v := nI (1)) d_Nm_keep_61 (by decide) ?_
      refine r_end_i X d_Nm_keep_62 ?_
      exact ⟨rfl, rfl, rfl⟩
    · -- not taken
      exact False.elim (by omega)

set_option maxHeartbeats 4000000 in
set_option maxRecDepth 100000 in
theorem m_Nm_keep_1 (l : Launch) (o : OM) (mi : MI) (ml : ML) (n : Nat) (hn : mi 1 2 = nI n) (hn40 : n ≤ 40) : ConD l y_Nm_keep c_Nm_keep 2 (some .int) 8 270 o [.ref (ads o (0)), .int (nI (1))] mi ml (some (.int (nI (1)))) (u2 (u2 (u2 (bcI mi 72 1 n) 71 1 (mi 94 0)) 71 2 (nI 1)) 4 2 (nI 0)) (bcL ml 72 1 n) := by
  refine Con.mk (by decide) (Nat.le_of_ble_eq_true rfl) (fun γ X => ?_)
  show V γ o 2 mi ml 0 [(0, .ref (ads o (0))), (1, .int (nI (1)))] []
  refine r_iload_n X 1 d_Nm_keep_0 rfl rfl ?_
  refine r_iflt X (tgt := 9) (c := 1 < 0) d_Nm_keep_1 (by decide) ((by rw [← nI_0] <;> exact nI_ltI (Nat.le_of_ble_eq_true rfl) (Nat.le_of_ble_eq_true rfl))) (fun c_1 => ?_) (fun c_1 => ?_)
  · -- taken
    exact False.elim (by omega)
  · -- not taken
    refine r_iload_n X 1 d_Nm_keep_4 rfl rfl ?_
    refine r_iconst X (v := nI (2)) d_Nm_keep_5 (by decide) ?_
    refine r_iclt X (tgt := 12) (c := 1 < 2) d_Nm_keep_6 (by decide) (nI_ltI (Nat.le_of_ble_eq_true rfl) (Nat.le_of_ble_eq_true rfl)) (fun c_6 => ?_) (fun c_6 => ?_)
    · -- taken
      refine r_aload_n X 0 d_Nm_keep_12 rfl rfl ?_
      refine r_get X f_Nm_25 b_0 e_0 (v := .ref (ads o (66))) rfl d_Nm_keep_13 ?_
      refine r_iload_n X 1 d_Nm_keep_16 rfl rfl ?_
      refine r_aaldI X (a := ads o (71)) b_66 e_66 (Nat.le_of_ble_eq_true rfl) (by omega) rfl d_Nm_keep_17 ?_
      refine r_get X f_Nm_274 b_71 e_71 (v := .ref (ads o (72))) rfl d_Nm_keep_18 ?_
      refine r_aload_n X 0 d_Nm_keep_21 rfl rfl ?_
      refine r_get X f_Nm_10 b_0 e_0 (v := .ref (ads o (1))) rfl d_Nm_keep_22 ?_
      refine r_callV X (m_St_become l o mi ml 72 1 n isSt.im1 isSt.now (hn) hn40 (Or.inr (by decide))) ok_St_become w_Nm_276 rfl b_72 e_72 rfl ⟨Nat.le_of_ble_eq_true rfl, Nat.le_of_ble_eq_true rfl⟩ (rest := []) rfl (Nat.le_of_ble_eq_true rfl) d_Nm_keep_25 ?_
      refine kD (st' := []) rfl ?_
      refine r_aload_n X 0 d_Nm_keep_28 rfl rfl ?_
      refine r_get X f_Nm_25 b_0 e_0 (v := .ref (ads o (66))) rfl d_Nm_keep_29 ?_
      refine r_iload_n X 1 d_Nm_keep_32 rfl rfl ?_
      refine r_aaldI X (a := ads o (71)) b_66 e_66 (Nat.le_of_ble_eq_true rfl) (by omega) rfl d_Nm_keep_33 ?_
      refine r_aload_n X 0 d_Nm_keep_34 rfl rfl ?_
      refine r_get X f_Nm_79 b_0 e_0 (v := .ref (ads o (94))) rfl d_Nm_keep_35 ?_
      refine r_get X f_Nm_271 b_94 e_94 (v := .int ((mi 94 0))) (congrArg (fun z => some (Value.int z)) ((by rw [bcI_n _ (by omega) (by omega)] <;> exact rfl))) d_Nm_keep_38 ?_
      refine r_putI X fw_Nm_279 b_71 e_71 (fun _ _ => rfl) (Nat.le_of_ble_eq_true rfl) d_Nm_keep_41 ?_
      refine r_aload_n X 0 d_Nm_keep_44 rfl rfl ?_
      refine r_get X f_Nm_25 b_0 e_0 (v := .ref (ads o (66))) rfl d_Nm_keep_45 ?_
      refine r_iload_n X 1 d_Nm_keep_48 rfl rfl ?_
      refine r_aaldI X (a := ads o (71)) b_66 e_66 (Nat.le_of_ble_eq_true rfl) (by omega) rfl d_Nm_keep_49 ?_
      refine r_iconst X (v := nI (1)) d_Nm_keep_50 (by decide) ?_
      refine r_putZ X fw_Nm_281 b_71 e_71 (fun _ _ => rfl) (Nat.le_of_ble_eq_true rfl) rfl rfl d_Nm_keep_51 ?_
      refine r_aload_n X 0 d_Nm_keep_54 rfl rfl ?_
      refine r_get X f_Nm_19 b_0 e_0 (v := .ref (ads o (4))) rfl d_Nm_keep_55 ?_
      refine r_callV X (m_Pa_forget l o (u2 (u2 (bcI mi 72 1 n) 71 1 ((mi 94 0))) 71 2 (nI (1))) (bcL ml 72 1 n) ) ok_Pa_forget w_Nm_285 rfl b_4 e_4 rfl ⟨Nat.le_of_ble_eq_true rfl, Nat.le_of_ble_eq_true rfl⟩ (rest := []) rfl (Nat.le_of_ble_eq_true rfl) d_Nm_keep_58 ?_
      refine kD (st' := []) rfl ?_
      refine r_iconst X (v := nI (1)) d_Nm_keep_61 (by decide) ?_
      refine r_end_i X d_Nm_keep_62 ?_
      exact ⟨rfl, rfl, rfl⟩
    · -- not taken
      exact False.elim (by omega)

set_option maxHeartbeats 4000000 in
set_option maxRecDepth 100000 in
theorem m_Nm_goBack_u (l : Launch) (o : OM) (mi : MI) (ml : ML) (q : Int32) (hq : q < nI 0 ∨ nI 1 < q) : ConD l y_Nm_goBack c_Nm_goBack 2 (some .int) 8 270 o [.ref (ads o (0)), .int (q)] mi ml (some (.int (((-1000000001 : Int32))))) mi ml := by
  refine Con.mk (by decide) (Nat.le_of_ble_eq_true rfl) (fun γ X => ?_)
  show V γ o 2 mi ml 0 [(0, .ref (ads o (0))), (1, .int (q))] []
  refine r_iload_n X 1 d_Nm_goBack_0 rfl rfl ?_
  refine r_iflt X (tgt := 9) (c := q < 0) d_Nm_goBack_1 (by decide) (Iff.rfl) (fun c_1 => ?_) (fun c_1 => ?_)
  · -- taken
    refine r_ldc X (v := ((-1000000001 : Int32))) k_Nm_146 (by decide) d_Nm_goBack_9 ?_
    refine r_end_i X d_Nm_goBack_11 ?_
    first | exact ⟨rfl, rfl, rfl⟩ | (refine ⟨?_, rfl, rfl⟩; simp_all)
  · -- not taken
    refine r_iload_n X 1 d_Nm_goBack_4 rfl rfl ?_
    refine r_iconst X (v := nI (2)) d_Nm_goBack_5 (by decide) ?_
    refine r_iclt X (tgt := 12) (c := q < (nI (2))) d_Nm_goBack_6 (by decide) (Iff.rfl) (fun c_6 => ?_) (fun c_6 => ?_)
    · -- taken
      exact False.elim (by exact raw_lt (by decide) (by decide) rfl hq c_1 c_6)
    · -- not taken
      refine r_ldc X (v := ((-1000000001 : Int32))) k_Nm_146 (by decide) d_Nm_goBack_9 ?_
      refine r_end_i X d_Nm_goBack_11 ?_
      first | exact ⟨rfl, rfl, rfl⟩ | (refine ⟨?_, rfl, rfl⟩; simp_all)

set_option maxHeartbeats 4000000 in
set_option maxRecDepth 100000 in
theorem m_Nm_goBack_n0 (l : Launch) (o : OM) (mi : MI) (ml : ML)  (hk : mi 67 2 = nI 0) : ConD l y_Nm_goBack c_Nm_goBack 2 (some .int) 8 270 o [.ref (ads o (0)), .int (nI (0))] mi ml (some (.int (((-1000000003 : Int32))))) mi ml := by
  refine Con.mk (by decide) (Nat.le_of_ble_eq_true rfl) (fun γ X => ?_)
  show V γ o 2 mi ml 0 [(0, .ref (ads o (0))), (1, .int (nI (0)))] []
  refine r_iload_n X 1 d_Nm_goBack_0 rfl rfl ?_
  refine r_iflt X (tgt := 9) (c := 0 < 0) d_Nm_goBack_1 (by decide) ((by rw [← nI_0] <;> exact nI_ltI (Nat.le_of_ble_eq_true rfl) (Nat.le_of_ble_eq_true rfl))) (fun c_1 => ?_) (fun c_1 => ?_)
  · -- taken
    exact False.elim (by omega)
  · -- not taken
    refine r_iload_n X 1 d_Nm_goBack_4 rfl rfl ?_
    refine r_iconst X (v := nI (2)) d_Nm_goBack_5 (by decide) ?_
    refine r_iclt X (tgt := 12) (c := 0 < 2) d_Nm_goBack_6 (by decide) (nI_ltI (Nat.le_of_ble_eq_true rfl) (Nat.le_of_ble_eq_true rfl)) (fun c_6 => ?_) (fun c_6 => ?_)
    · -- taken
      refine r_aload_n X 0 d_Nm_goBack_12 rfl rfl ?_
      refine r_get X f_Nm_25 b_0 e_0 (v := .ref (ads o (66))) rfl d_Nm_goBack_13 ?_
      refine r_iload_n X 1 d_Nm_goBack_16 rfl rfl ?_
      refine r_aaldI X (a := ads o (67)) b_66 e_66 (Nat.le_of_ble_eq_true rfl) (by omega) rfl d_Nm_goBack_17 ?_
      refine r_get X f_Nm_281 b_67 e_67 (v := .int (nI (0))) (congrArg (fun z => some (Value.int z)) (hk)) d_Nm_goBack_18 ?_
      refine r_ifneP X (tgt := 27) (c := 0 = 0) d_Nm_goBack_21 (by decide) ((by rw [← nI_0] <;> exact nI_eq (Nat.le_of_ble_eq_true rfl) (Nat.le_of_ble_eq_true rfl))) (fun c_21 => ?_) (fun c_21 => ?_)
      · -- taken
        exact False.elim (by exact c_21 rfl)
      · -- not taken
        refine r_ldc X (v := ((-1000000003 : Int32))) k_Nm_197 (by decide) d_Nm_goBack_24 ?_
        refine r_end_i X d_Nm_goBack_26 ?_
        first | exact ⟨rfl, rfl, rfl⟩ | (refine ⟨?_, rfl, rfl⟩; simp_all)
    · -- not taken
      exact False.elim (by omega)

set_option maxHeartbeats 4000000 in
set_option maxRecDepth 100000 in
theorem m_Nm_goBack_n1 (l : Launch) (o : OM) (mi : MI) (ml : ML)  (hk : mi 71 2 = nI 0) : ConD l y_Nm_goBack c_Nm_goBack 2 (some .int) 8 270 o [.ref (ads o (0)), .int (nI (1))] mi ml (some (.int (((-1000000003 : Int32))))) mi ml := by
  refine Con.mk (by decide) (Nat.le_of_ble_eq_true rfl) (fun γ X => ?_)
  show V γ o 2 mi ml 0 [(0, .ref (ads o (0))), (1, .int (nI (1)))] []
  refine r_iload_n X 1 d_Nm_goBack_0 rfl rfl ?_
  refine r_iflt X (tgt := 9) (c := 1 < 0) d_Nm_goBack_1 (by decide) ((by rw [← nI_0] <;> exact nI_ltI (Nat.le_of_ble_eq_true rfl) (Nat.le_of_ble_eq_true rfl))) (fun c_1 => ?_) (fun c_1 => ?_)
  · -- taken
    exact False.elim (by omega)
  · -- not taken
    refine r_iload_n X 1 d_Nm_goBack_4 rfl rfl ?_
    refine r_iconst X (v := nI (2)) d_Nm_goBack_5 (by decide) ?_
    refine r_iclt X (tgt := 12) (c := 1 < 2) d_Nm_goBack_6 (by decide) (nI_ltI (Nat.le_of_ble_eq_true rfl) (Nat.le_of_ble_eq_true rfl)) (fun c_6 => ?_) (fun c_6 => ?_)
    · -- taken
      refine r_aload_n X 0 d_Nm_goBack_12 rfl rfl ?_
      refine r_get X f_Nm_25 b_0 e_0 (v := .ref (ads o (66))) rfl d_Nm_goBack_13 ?_
      refine r_iload_n X 1 d_Nm_goBack_16 rfl rfl ?_
      refine r_aaldI X (a := ads o (71)) b_66 e_66 (Nat.le_of_ble_eq_true rfl) (by omega) rfl d_Nm_goBack_17 ?_
      refine r_get X f_Nm_281 b_71 e_71 (v := .int (nI (0))) (congrArg (fun z => some (Value.int z)) (hk)) d_Nm_goBack_18 ?_
      refine r_ifneP X (tgt := 27) (c := 0 = 0) d_Nm_goBack_21 (by decide) ((by rw [← nI_0] <;> exact nI_eq (Nat.le_of_ble_eq_true rfl) (Nat.le_of_ble_eq_true rfl))) (fun c_21 => ?_) (fun c_21 => ?_)
      · -- taken
        exact False.elim (by exact c_21 rfl)
      · -- not taken
        refine r_ldc X (v := ((-1000000003 : Int32))) k_Nm_197 (by decide) d_Nm_goBack_24 ?_
        refine r_end_i X d_Nm_goBack_26 ?_
        first | exact ⟨rfl, rfl, rfl⟩ | (refine ⟨?_, rfl, rfl⟩; simp_all)
    · -- not taken
      exact False.elim (by omega)

set_option maxHeartbeats 4000000 in
set_option maxRecDepth 100000 in
theorem m_Nm_goBack_i0 (l : Launch) (o : OM) (mi : MI) (ml : ML) (n : Nat) (hk : mi 67 2 = nI 1) (hn : mi 68 2 = nI n) (hn40 : n ≤ 40) (hx0 : bt (ml 68 1) 0 = true) (hx8 : pop (ml 68 1) ≤ 8) : Con l y_Nm_goBack c_Nm_goBack 2 (some .int) 8 270 o [.ref (ads o (0)), .int (nI (0))] mi ml (fun v m z => v = some (.int (nI 1)) ∧ PtOK m z 75 (ml 68 1) ∧ (∀ t, t ≠ 75 → t ≠ 76 → m t = u2 (u2 (bcI mi 1 68 n) 94 0 (mi 67 1)) 4 2 (nI 0) t) ∧ ∀ t, t ≠ 77 → z t = bcL ml 1 68 n t) := by
  refine Con.mk (by decide) (Nat.le_of_ble_eq_true rfl) (fun γ X => ?_)
  show V γ o 2 mi ml 0 [(0, .ref (ads o (0))), (1, .int (nI (0)))] []
  refine r_iload_n X 1 d_Nm_goBack_0 rfl rfl ?_
  refine r_iflt X (tgt := 9) (c := 0 < 0) d_Nm_goBack_1 (by decide) ((by rw [← nI_0] <;> exact nI_ltI (Nat.le_of_ble_eq_true rfl) (Nat.le_of_ble_eq_true rfl))) (fun c_1 => ?_) (fun c_1 => ?_)
  · -- taken
    exact False.elim (by omega)
  · -- not taken
    refine r_iload_n X 1 d_Nm_goBack_4 rfl rfl ?_
    refine r_iconst X (v := nI (2)) d_Nm_goBack_5 (by decide) ?_
    refine r_iclt X (tgt := 12) (c := 0 < 2) d_Nm_goBack_6 (by decide) (nI_ltI (Nat.le_of_ble_eq_true rfl) (Nat.le_of_ble_eq_true rfl)) (fun c_6 => ?_) (fun c_6 => ?_)
    · -- taken
      refine r_aload_n X 0 d_Nm_goBack_12 rfl rfl ?_
      refine r_get X f_Nm_25 b_0 e_0 (v := .ref (ads o (66))) rfl d_Nm_goBack_13 ?_
      refine r_iload_n X 1 d_Nm_goBack_16 rfl rfl ?_
      refine r_aaldI X (a := ads o (67)) b_66 e_66 (Nat.le_of_ble_eq_true rfl) (by omega) rfl d_Nm_goBack_17 ?_
      refine r_get X f_Nm_281 b_67 e_67 (v := .int (nI (1))) (congrArg (fun z => some (Value.int z)) (hk)) d_Nm_goBack_18 ?_
      refine r_ifneP X (tgt := 27) (c := 1 = 0) d_Nm_goBack_21 (by decide) ((by rw [← nI_0] <;> exact nI_eq (Nat.le_of_ble_eq_true rfl) (Nat.le_of_ble_eq_true rfl))) (fun c_21 => ?_) (fun c_21 => ?_)
      · -- taken
        refine r_aload_n X 0 d_Nm_goBack_27 rfl rfl ?_
        refine r_get X f_Nm_10 b_0 e_0 (v := .ref (ads o (1))) rfl d_Nm_goBack_28 ?_
        refine r_aload_n X 0 d_Nm_goBack_31 rfl rfl ?_
        refine r_get X f_Nm_25 b_0 e_0 (v := .ref (ads o (66))) rfl d_Nm_goBack_32 ?_
        refine r_iload_n X 1 d_Nm_goBack_35 rfl rfl ?_
        refine r_aaldI X (a := ads o (67)) b_66 e_66 (Nat.le_of_ble_eq_true rfl) (by omega) rfl d_Nm_goBack_36 ?_
        refine r_get X f_Nm_274 b_67 e_67 (v := .ref (ads o (68))) rfl d_Nm_goBack_37 ?_
        refine r_callV X (m_St_become l o mi ml 1 68 n isSt.now isSt.im0 (hn) hn40 (Or.inl (by decide))) ok_St_become w_Nm_276 rfl b_1 e_1 rfl ⟨Nat.le_of_ble_eq_true rfl, Nat.le_of_ble_eq_true rfl⟩ (rest := []) rfl (Nat.le_of_ble_eq_true rfl) d_Nm_goBack_40 ?_
        refine kD (st' := []) rfl ?_
        refine r_aload_n X 0 d_Nm_goBack_43 rfl rfl ?_
        refine r_get X f_Nm_79 b_0 e_0 (v := .ref (ads o (94))) rfl d_Nm_goBack_44 ?_
        refine r_aload_n X 0 d_Nm_goBack_47 rfl rfl ?_
        refine r_get X f_Nm_25 b_0 e_0 (v := .ref (ads o (66))) rfl d_Nm_goBack_48 ?_
        refine r_iload_n X 1 d_Nm_goBack_51 rfl rfl ?_
        refine r_aaldI X (a := ads o (67)) b_66 e_66 (Nat.le_of_ble_eq_true rfl) (by omega) rfl d_Nm_goBack_52 ?_
        refine r_get X f_Nm_279 b_67 e_67 (v := .int ((mi 67 1))) (congrArg (fun z => some (Value.int z)) ((by rw [bcI_n _ (by omega) (by omega)] <;> exact rfl))) d_Nm_goBack_53 ?_
        refine r_putI X fw_Nm_271 b_94 e_94 (fun _ _ => rfl) (Nat.le_of_ble_eq_true rfl) d_Nm_goBack_56 ?_
        refine r_aload_n X 0 d_Nm_goBack_59 rfl rfl ?_
        refine r_get X f_Nm_33 b_0 e_0 (v := .ref (ads o (75))) rfl d_Nm_goBack_60 ?_
        refine r_aload_n X 0 d_Nm_goBack_63 rfl rfl ?_
        refine r_get X f_Nm_10 b_0 e_0 (v := .ref (ads o (1))) rfl d_Nm_goBack_64 ?_
        refine r_get X f_Nm_37 b_1 e_1 (v := .long ((ml 68 1))) (congrArg (fun z => some (Value.long z)) ((by unfold bcL; rw [cpL_n _ (by decide), u2_s, uf_s]))) d_Nm_goBack_67 ?_
        refine r_callV X (m_Pt_beginAt l o (u2 (bcI mi 1 68 n) 94 0 ((mi 67 1))) (bcL ml 1 68 n) 75 (ml 68 1) (Or.inl rfl) (hx0) (hx8)) ok_Pt_beginAt w_Nm_41 rfl b_75 e_75 rfl ⟨Nat.le_of_ble_eq_true rfl, Nat.le_of_ble_eq_true rfl⟩ (rest := []) rfl (Nat.le_of_ble_eq_true rfl) d_Nm_goBack_70 ?_
        rintro _ mb1 zb1 ⟨rfl, hPt, hfb, hgb⟩
        show V γ o 2 mb1 zb1 73 [(0, .ref (ads o (0))), (1, .int (nI (0)))] []
        refine r_aload_n X 0 d_Nm_goBack_73 rfl rfl ?_
        refine r_get X f_Nm_19 b_0 e_0 (v := .ref (ads o (4))) rfl d_Nm_goBack_74 ?_
        refine r_callV X (m_Pa_forget l o mb1 zb1 ) ok_Pa_forget w_Nm_285 rfl b_4 e_4 rfl ⟨Nat.le_of_ble_eq_true rfl, Nat.le_of_ble_eq_true rfl⟩ (rest := []) rfl (Nat.le_of_ble_eq_true rfl) d_Nm_goBack_77 ?_
        refine kD (st' := []) rfl ?_
        refine r_iconst X (v := nI (1)) d_Nm_goBack_80 (by decide) ?_
        refine r_end_i X d_Nm_goBack_81 ?_
        exact ⟨rfl, pt_u4 hPt, fr_u4 hfb, hgb⟩
      · -- not taken
        exact False.elim (by omega)
    · -- not taken
      exact False.elim (by omega)

set_option maxHeartbeats 4000000 in
set_option maxRecDepth 100000 in
theorem m_Nm_goBack_i1 (l : Launch) (o : OM) (mi : MI) (ml : ML) (n : Nat) (hk : mi 71 2 = nI 1) (hn : mi 72 2 = nI n) (hn40 : n ≤ 40) (hx0 : bt (ml 72 1) 0 = true) (hx8 : pop (ml 72 1) ≤ 8) : Con l y_Nm_goBack c_Nm_goBack 2 (some .int) 8 270 o [.ref (ads o (0)), .int (nI (1))] mi ml (fun v m z => v = some (.int (nI 1)) ∧ PtOK m z 75 (ml 72 1) ∧ (∀ t, t ≠ 75 → t ≠ 76 → m t = u2 (u2 (bcI mi 1 72 n) 94 0 (mi 71 1)) 4 2 (nI 0) t) ∧ ∀ t, t ≠ 77 → z t = bcL ml 1 72 n t) := by
  refine Con.mk (by decide) (Nat.le_of_ble_eq_true rfl) (fun γ X => ?_)
  show V γ o 2 mi ml 0 [(0, .ref (ads o (0))), (1, .int (nI (1)))] []
  refine r_iload_n X 1 d_Nm_goBack_0 rfl rfl ?_
  refine r_iflt X (tgt := 9) (c := 1 < 0) d_Nm_goBack_1 (by decide) ((by rw [← nI_0] <;> exact nI_ltI (Nat.le_of_ble_eq_true rfl) (Nat.le_of_ble_eq_true rfl))) (fun c_1 => ?_) (fun c_1 => ?_)
  · -- taken
    exact False.elim (by omega)
  · -- not taken
    refine r_iload_n X 1 d_Nm_goBack_4 rfl rfl ?_
    refine r_iconst X (v := nI (2)) d_Nm_goBack_5 (by decide) ?_
    refine r_iclt X (tgt := 12) (c := 1 < 2) d_Nm_goBack_6 (by decide) (nI_ltI (Nat.le_of_ble_eq_true rfl) (Nat.le_of_ble_eq_true rfl)) (fun c_6 => ?_) (fun c_6 => ?_)
    · -- taken
      refine r_aload_n X 0 d_Nm_goBack_12 rfl rfl ?_
      refine r_get X f_Nm_25 b_0 e_0 (v := .ref (ads o (66))) rfl d_Nm_goBack_13 ?_
      refine r_iload_n X 1 d_Nm_goBack_16 rfl rfl ?_
      refine r_aaldI X (a := ads o (71)) b_66 e_66 (Nat.le_of_ble_eq_true rfl) (by omega) rfl d_Nm_goBack_17 ?_
      refine r_get X f_Nm_281 b_71 e_71 (v := .int (nI (1))) (congrArg (fun z => some (Value.int z)) (hk)) d_Nm_goBack_18 ?_
      refine r_ifneP X (tgt := 27) (c := 1 = 0) d_Nm_goBack_21 (by decide) ((by rw [← nI_0] <;> exact nI_eq (Nat.le_of_ble_eq_true rfl) (Nat.le_of_ble_eq_true rfl))) (fun c_21 => ?_) (fun c_21 => ?_)
      · -- taken
        refine r_aload_n X 0 d_Nm_goBack_27 rfl rfl ?_
        refine r_get X f_Nm_10 b_0 e_0 (v := .ref (ads o (1))) rfl d_Nm_goBack_28 ?_
        refine r_aload_n X 0 d_Nm_goBack_31 rfl rfl ?_
        refine r_get X f_Nm_25 b_0 e_0 (v := .ref (ads o (66))) rfl d_Nm_goBack_32 ?_
        refine r_iload_n X 1 d_Nm_goBack_35 rfl rfl ?_
        refine r_aaldI X (a := ads o (71)) b_66 e_66 (Nat.le_of_ble_eq_true rfl) (by omega) rfl d_Nm_goBack_36 ?_
        refine r_get X f_Nm_274 b_71 e_71 (v := .ref (ads o (72))) rfl d_Nm_goBack_37 ?_
        refine r_callV X (m_St_become l o mi ml 1 72 n isSt.now isSt.im1 (hn) hn40 (Or.inl (by decide))) ok_St_become w_Nm_276 rfl b_1 e_1 rfl ⟨Nat.le_of_ble_eq_true rfl, Nat.le_of_ble_eq_true rfl⟩ (rest := []) rfl (Nat.le_of_ble_eq_true rfl) d_Nm_goBack_40 ?_
        refine kD (st' := []) rfl ?_
        refine r_aload_n X 0 d_Nm_goBack_43 rfl rfl ?_
        refine r_get X f_Nm_79 b_0 e_0 (v := .ref (ads o (94))) rfl d_Nm_goBack_44 ?_
        refine r_aload_n X 0 d_Nm_goBack_47 rfl rfl ?_
        refine r_get X f_Nm_25 b_0 e_0 (v := .ref (ads o (66))) rfl d_Nm_goBack_48 ?_
        refine r_iload_n X 1 d_Nm_goBack_51 rfl rfl ?_
        refine r_aaldI X (a := ads o (71)) b_66 e_66 (Nat.le_of_ble_eq_true rfl) (by omega) rfl d_Nm_goBack_52 ?_
        refine r_get X f_Nm_279 b_71 e_71 (v := .int ((mi 71 1))) (congrArg (fun z => some (Value.int z)) ((by rw [bcI_n _ (by omega) (by omega)] <;> exact rfl))) d_Nm_goBack_53 ?_
        refine r_putI X fw_Nm_271 b_94 e_94 (fun _ _ => rfl) (Nat.le_of_ble_eq_true rfl) d_Nm_goBack_56 ?_
        refine r_aload_n X 0 d_Nm_goBack_59 rfl rfl ?_
        refine r_get X f_Nm_33 b_0 e_0 (v := .ref (ads o (75))) rfl d_Nm_goBack_60 ?_
        refine r_aload_n X 0 d_Nm_goBack_63 rfl rfl ?_
        refine r_get X f_Nm_10 b_0 e_0 (v := .ref (ads o (1))) rfl d_Nm_goBack_64 ?_
        refine r_get X f_Nm_37 b_1 e_1 (v := .long ((ml 72 1))) (congrArg (fun z => some (Value.long z)) ((by unfold bcL; rw [cpL_n _ (by decide), u2_s, uf_s]))) d_Nm_goBack_67 ?_
        refine r_callV X (m_Pt_beginAt l o (u2 (bcI mi 1 72 n) 94 0 ((mi 71 1))) (bcL ml 1 72 n) 75 (ml 72 1) (Or.inl rfl) (hx0) (hx8)) ok_Pt_beginAt w_Nm_41 rfl b_75 e_75 rfl ⟨Nat.le_of_ble_eq_true rfl, Nat.le_of_ble_eq_true rfl⟩ (rest := []) rfl (Nat.le_of_ble_eq_true rfl) d_Nm_goBack_70 ?_
        rintro _ mb1 zb1 ⟨rfl, hPt, hfb, hgb⟩
        show V γ o 2 mb1 zb1 73 [(0, .ref (ads o (0))), (1, .int (nI (1)))] []
        refine r_aload_n X 0 d_Nm_goBack_73 rfl rfl ?_
        refine r_get X f_Nm_19 b_0 e_0 (v := .ref (ads o (4))) rfl d_Nm_goBack_74 ?_
        refine r_callV X (m_Pa_forget l o mb1 zb1 ) ok_Pa_forget w_Nm_285 rfl b_4 e_4 rfl ⟨Nat.le_of_ble_eq_true rfl, Nat.le_of_ble_eq_true rfl⟩ (rest := []) rfl (Nat.le_of_ble_eq_true rfl) d_Nm_goBack_77 ?_
        refine kD (st' := []) rfl ?_
        refine r_iconst X (v := nI (1)) d_Nm_goBack_80 (by decide) ?_
        refine r_end_i X d_Nm_goBack_81 ?_
        exact ⟨rfl, pt_u4 hPt, fr_u4 hfb, hgb⟩
      · -- not taken
        exact False.elim (by omega)
    · -- not taken
      exact False.elim (by omega)
