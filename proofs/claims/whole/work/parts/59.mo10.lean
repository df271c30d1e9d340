theorem m_Mo_note (l : Launch) (o : OM) (mi : MI) (ml : ML) (c : Nat) (hc : mi 95 2 = nI c) (hc20 : c ≤ 20) : ConD l y_Mo_note c_Mo_note 2 none 1 24 o [.ref (ads o (95))] mi ml none (noteI mi c) (noteL ml c) := by
  by_cases h : c = 20
  · subst h; unfold noteI noteL; rw [if_pos rfl, if_pos rfl]; exact m_Mo_note_f l o mi ml hc
  · unfold noteI noteL; rw [if_neg h, if_neg h]; exact m_Mo_note_s l o mi ml c hc (by omega)
set_option maxHeartbeats 4000000 in
set_option maxRecDepth 100000 in
theorem m_Mo_hand (l : Launch) (o : OM) (mi : MI) (ml : ML)   : ConD l y_Mo_hand c_Mo_hand 1 (some .long) 8 270 o [.ref (ads o (95))] mi ml (some (.long (ml 96 0))) mi ml := by
  refine Con.mk (by decide) (Nat.le_of_ble_eq_true rfl) (fun γ X => ?_)
  show V γ o 1 mi ml 0 [(0, .ref (ads o (95)))] []
  refine r_aload_n X 0 d_Mo_hand_0 rfl rfl ?_
  refine r_get X f_Mo_7 b_95 e_95 (v := .ref (ads o (96))) rfl d_Mo_hand_1 ?_
  refine r_iconst X (v := nI (0)) d_Mo_hand_4 (by decide) ?_
  refine r_lald X (v := ml 96 0) b_96 e_96 (Nat.le_of_ble_eq_true rfl) (by omega) rfl d_Mo_hand_5 ?_
  refine r_end_l X d_Mo_hand_6 ?_
  first | exact ⟨rfl, rfl, rfl⟩ | (refine ⟨?_, rfl, rfl⟩; simp_all)

set_option maxHeartbeats 4000000 in
set_option maxRecDepth 100000 in
theorem m_Mo_type_i (l : Launch) (o : OM) (mi : MI) (ml : ML) (r : Nat) (d : Nat) (c : Nat) (hc : mi 95 2 = nI c) (hc20 : c ≤ 20) (hr : r < 8) (hd : d < 256) : ConD l y_Mo_type c_Mo_type 3 (some .int) 8 270 o [.ref (ads o (95)), .int (nI (r)), .int (nI (d))] mi ml (some (.int (nI (pop (typed (ml 96 0) r d))))) (noteI mi c) (u2 (noteL ml c) 96 0 (typed (ml 96 0) r d)) := by
  refine Con.mk (by decide) (Nat.le_of_ble_eq_true rfl) (fun γ X => ?_)
  show V γ o 3 mi ml 0 [(0, .ref (ads o (95))), (1, .int (nI (r))), (2, .int (nI (d)))] []
  refine r_iload_n X 1 d_Mo_type_0 rfl rfl ?_
  refine r_i2l X (v := lN (r)) d_Mo_type_1 (nI_l (by omega)) ?_
  refine r_lconst X (v := 0) d_Mo_type_2 (by decide) ?_
  refine r_ldc2 X (v := (7 : Int64)) k_Mo_159 d_Mo_type_3 ?_
  refine r_callS X (m_Mo_in l o mi ml (lN (r)) 0 (7 : Int64)) ok_Mo_in w_Mo_63 rfl ⟨Nat.le_of_ble_eq_true rfl, Nat.le_of_ble_eq_true rfl⟩ (rest := []) rfl (Nat.le_of_ble_eq_true rfl) d_Mo_type_6 ?_
  refine kD (st' := [.int (bI (!decide ((lN (r)) < 0) && !decide ((7 : Int64) < (lN (r)))))]) rfl ?_
  refine r_ifeqB X (tgt := 24) (b := !decide ((lN (r)) < 0) && !decide ((7 : Int64) < (lN (r)))) d_Mo_type_9 (by decide) (fun c_9 => ?_) (fun c_9 => ?_)
  · -- taken
    exact False.elim (by have e := in_nat (a := 0) (j := r) (m := 7) (by omega) (by omega) (by decide); exact absurd (c_9.symm.trans e) (by decide))
  · -- not taken
    refine r_iload_n X 2 d_Mo_type_12 rfl rfl ?_
    refine r_i2l X (v := lN (d)) d_Mo_type_13 (nI_l (by omega)) ?_
    refine r_lconst X (v := 0) d_Mo_type_14 (by decide) ?_
    refine r_ldc2 X (v := (255 : Int64)) k_Mo_161 d_Mo_type_15 ?_
    refine r_callS X (m_Mo_in l o mi ml (lN (d)) 0 (255 : Int64)) ok_Mo_in w_Mo_63 rfl ⟨Nat.le_of_ble_eq_true rfl, Nat.le_of_ble_eq_true rfl⟩ (rest := []) rfl (Nat.le_of_ble_eq_true rfl) d_Mo_type_18 ?_
    refine kD (st' := [.int (bI (!decide ((lN (d)) < 0) && !decide ((255 : Int64) < (lN (d)))))]) rfl ?_
    refine r_ifneB X (tgt := 27) (b := !decide ((lN (d)) < 0) && !decide ((255 : Int64) < (lN (d)))) d_Mo_type_21 (by decide) (fun c_21 => ?_) (fun c_21 => ?_)
    · -- taken
      refine r_aload_n X 0 d_Mo_type_27 rfl rfl ?_
      refine r_callV X (m_Mo_note l o mi ml c (hc) hc20) ok_Mo_note w_Mo_163 rfl b_95 e_95 rfl ⟨Nat.le_of_ble_eq_true rfl, Nat.le_of_ble_eq_true rfl⟩ (rest := []) rfl (Nat.le_of_ble_eq_true rfl) d_Mo_type_28 ?_
      refine kD (st' := []) rfl ?_
      refine r_aload_n X 0 d_Mo_type_31 rfl rfl ?_
      refine r_get X f_Mo_7 b_95 e_95 (v := .ref (ads o (96))) rfl d_Mo_type_32 ?_
      refine r_iconst X (v := nI (0)) d_Mo_type_35 (by decide) ?_
      refine r_aload_n X 0 d_Mo_type_36 rfl rfl ?_
      refine r_get X f_Mo_7 b_95 e_95 (v := .ref (ads o (96))) rfl d_Mo_type_37 ?_
      refine r_iconst X (v := nI (0)) d_Mo_type_40 (by decide) ?_
      refine r_lald X (v := ml 96 0) b_96 e_96 (Nat.le_of_ble_eq_true rfl) (by omega) ((by rw [noteL_n _ _ (by decide)] <;> exact rfl)) d_Mo_type_41 ?_
      refine r_ldc2 X (v := (255 : Int64)) k_Mo_161 d_Mo_type_42 ?_
      refine r_bipush X (v := nI (8)) d_Mo_type_45 (by decide) ?_
      refine r_iload_n X 1 d_Mo_type_47 rfl rfl ?_
      refine r_imul X (v := nI (8 * r)) d_Mo_type_48 (pk_mul _ _) ?_
      refine r_lshl X (v := shl ((255 : Int64)) (8 * r)) d_Mo_type_49 (rfl) ?_
      refine r_ldc2 X (v := (-1 : Int64)) k_Mo_166 d_Mo_type_50 ?_
      refine r_lxor X (v := (shl ((255 : Int64)) (8 * r)) ^^^ ((-1 : Int64))) d_Mo_type_53 (rfl) ?_
      refine r_land X (v := (ml 96 0) &&& ((shl ((255 : Int64)) (8 * r)) ^^^ ((-1 : Int64)))) d_Mo_type_54 (rfl) ?_
      refine r_iload_n X 2 d_Mo_type_55 rfl rfl ?_
      refine r_i2l X (v := lN (d)) d_Mo_type_56 (nI_l (by omega)) ?_
      refine r_bipush X (v := nI (8)) d_Mo_type_57 (by decide) ?_
      refine r_iload_n X 1 d_Mo_type_59 rfl rfl ?_
      refine r_imul X (v := nI (8 * r)) d_Mo_type_60 (pk_mul _ _) ?_
      refine r_lshl X (v := shl (lN (d)) (8 * r)) d_Mo_type_61 (rfl) ?_
      refine r_lor X (v := ((ml 96 0) &&& ((shl ((255 : Int64)) (8 * r)) ^^^ ((-1 : Int64)))) ||| (shl (lN (d)) (8 * r))) d_Mo_type_62 (rfl) ?_
      refine r_last X b_96 e_96 (Nat.le_of_ble_eq_true rfl) (by omega) d_Mo_type_63 ?_
      refine r_aload_n X 0 d_Mo_type_64 rfl rfl ?_
      refine r_get X f_Mo_7 b_95 e_95 (v := .ref (ads o (96))) rfl d_Mo_type_65 ?_
      refine r_iconst X (v := nI (0)) d_Mo_type_68 (by decide) ?_
      refine r_lald X (v := ((ml 96 0) &&& ((shl ((255 : Int64)) (8 * r)) ^^^ ((-1 : Int64)))) ||| (shl (lN (d)) (8 * r))) b_96 e_96 (Nat.le_of_ble_eq_true rfl) (by omega) ((by rw [u2_s, uf_s])) d_Mo_type_69 ?_
      refine r_callS X (m_Mo_ones l o (noteI mi c) (u2 (noteL ml c) 96 0 (((ml 96 0) &&& ((shl ((255 : Int64)) (8 * r)) ^^^ ((-1 : Int64)))) ||| (shl (lN (d)) (8 * r)))) (((ml 96 0) &&& ((shl ((255 : Int64)) (8 * r)) ^^^ ((-1 : Int64)))) ||| (shl (lN (d)) (8 * r)))) ok_Mo_ones w_Mo_71 rfl ⟨Nat.le_of_ble_eq_true rfl, Nat.le_of_ble_eq_true rfl⟩ (rest := []) rfl (Nat.le_of_ble_eq_true rfl) d_Mo_type_70 ?_
      refine kD (st' := [.int (nI (pop (((ml 96 0) &&& ((shl ((255 : Int64)) (8 * r)) ^^^ ((-1 : Int64)))) ||| (shl (lN (d)) (8 * r)))))]) rfl ?_
      refine r_end_i X d_Mo_type_73 ?_
      exact ⟨rfl, rfl, rfl⟩
    · -- not taken
      exact False.elim (by have e := in_nat (a := 0) (j := d) (m := 255) (by omega) (by omega) (by decide); exact absurd (c_21.symm.trans e) (by decide))

set_option maxHeartbeats 4000000 in
set_option maxRecDepth 100000 in
theorem m_Mo_type_o1 (l : Launch) (o : OM) (mi : MI) (ml : ML) (r : Int32) (d : Int32) (hr : r < nI 0 ∨ nI 7 < r) : ConD l y_Mo_type c_Mo_type 3 (some .int) 8 270 o [.ref (ads o (95)), .int (r), .int (d)] mi ml (some (.int (((-1000000002 : Int32))))) mi ml := by
  refine Con.mk (by decide) (Nat.le_of_ble_eq_true rfl) (fun γ X => ?_)
  show V γ o 3 mi ml 0 [(0, .ref (ads o (95))), (1, .int (r)), (2, .int (d))] []
  refine r_iload_n X 1 d_Mo_type_0 rfl rfl ?_
  refine r_i2l X (v := (r).toInt64) d_Mo_type_1 (rfl) ?_
  refine r_lconst X (v := 0) d_Mo_type_2 (by decide) ?_
  refine r_ldc2 X (v := (7 : Int64)) k_Mo_159 d_Mo_type_3 ?_
  refine r_callS X (m_Mo_in l o mi ml ((r).toInt64) 0 (7 : Int64)) ok_Mo_in w_Mo_63 rfl ⟨Nat.le_of_ble_eq_true rfl, Nat.le_of_ble_eq_true rfl⟩ (rest := []) rfl (Nat.le_of_ble_eq_true rfl) d_Mo_type_6 ?_
  refine kD (st' := [.int (bI (!decide (((r).toInt64) < 0) && !decide ((7 : Int64) < ((r).toInt64))))]) rfl ?_
  refine r_ifeqB X (tgt := 24) (b := !decide (((r).toInt64) < 0) && !decide ((7 : Int64) < ((r).toInt64))) d_Mo_type_9 (by decide) (fun c_9 => ?_) (fun c_9 => ?_)
  · -- taken
    refine r_ldc X (v := ((-1000000002 : Int32))) k_Mo_144 (by decide) d_Mo_type_24 ?_
    refine r_end_i X d_Mo_type_26 ?_
    first | exact ⟨rfl, rfl, rfl⟩ | (refine ⟨?_, rfl, rfl⟩; simp_all)
  · -- not taken
    exact False.elim (by have e := in_out (a := 0) (m := 7) (by decide) (by decide) hr; exact absurd (c_9.symm.trans e) (by decide))

set_option maxHeartbeats 4000000 in
set_option maxRecDepth 100000 in
theorem m_Mo_type_o2 (l : Launch) (o : OM) (mi : MI) (ml : ML) (r : Nat) (d : Int32) (hr : r < 8) (hd : d < nI 0 ∨ nI 255 < d) : ConD l y_Mo_type c_Mo_type 3 (some .int) 8 270 o [.ref (ads o (95)), .int (nI (r)), .int (d)] mi ml (some (.int (((-1000000002 : Int32))))) mi ml := by
  refine Con.mk (by decide) (Nat.le_of_ble_eq_true rfl) (fun γ X => ?_)
  show V γ o 3 mi ml 0 [(0, .ref (ads o (95))), (1, .int (nI (r))), (2, .int (d))] []
  refine r_iload_n X 1 d_Mo_type_0 rfl rfl ?_
  refine r_i2l X (v := lN (r)) d_Mo_type_1 (nI_l (by omega)) ?_
  refine r_lconst X (v := 0) d_Mo_type_2 (by decide) ?_
  refine r_ldc2 X (v := (7 : Int64)) k_Mo_159 d_Mo_type_3 ?_
  refine r_callS X (m_Mo_in l o mi ml (lN (r)) 0 (7 : Int64)) ok_Mo_in w_Mo_63 rfl ⟨Nat.le_of_ble_eq_true rfl, Nat.le_of_ble_eq_true rfl⟩ (rest := []) rfl (Nat.le_of_ble_eq_true rfl) d_Mo_type_6 ?_
  refine kD (st' := [.int (bI (!decide ((lN (r)) < 0) && !decide ((7 : Int64) < (lN (r)))))]) rfl ?_
  refine r_ifeqB X (tgt := 24) (b := !decide ((lN (r)) < 0) && !decide ((7 : Int64) < (lN (r)))) d_Mo_type_9 (by decide) (fun c_9 => ?_) (fun c_9 => ?_)
  · -- taken
    exact False.elim (by have e := in_nat (a := 0) (j := r) (m := 7) (by omega) (by omega) (by decide); exact absurd (c_9.symm.trans e) (by decide))
  · -- not taken
    refine r_iload_n X 2 d_Mo_type_12 rfl rfl ?_
    refine r_i2l X (v := (d).toInt64) d_Mo_type_13 (rfl) ?_
    refine r_lconst X (v := 0) d_Mo_type_14 (by decide) ?_
    refine r_ldc2 X (v := (255 : Int64)) k_Mo_161 d_Mo_type_15 ?_
    refine r_callS X (m_Mo_in l o mi ml ((d).toInt64) 0 (255 : Int64)) ok_Mo_in w_Mo_63 rfl ⟨Nat.le_of_ble_eq_true rfl, Nat.le_of_ble_eq_true rfl⟩ (rest := []) rfl (Nat.le_of_ble_eq_true rfl) d_Mo_type_18 ?_
    refine kD (st' := [.int (bI (!decide (((d).toInt64) < 0) && !decide ((255 : Int64) < ((d).toInt64))))]) rfl ?_
    refine r_ifneB X (tgt := 27) (b := !decide (((d).toInt64) < 0) && !decide ((255 : Int64) < ((d).toInt64))) d_Mo_type_21 (by decide) (fun c_21 => ?_) (fun c_21 => ?_)
    · -- taken
      exact False.elim (by have e := in_out (a := 0) (m := 255) (by decide) (by decide) hd; exact absurd (c_21.symm.trans e) (by decide))
    · -- not taken
      refine r_ldc X (v := ((-1000000002 : Int32))) k_Mo_144 (by decide) d_Mo_type_24 ?_
      refine r_end_i X d_Mo_type_26 ?_
      first | exact ⟨rfl, rfl, rfl⟩ | (refine ⟨?_, rfl, rfl⟩; simp_all)

set_option maxHeartbeats 4000000 in
set_option maxRecDepth 100000 in
theorem m_Mo_flip_i (l : Launch) (o : OM) (mi : MI) (ml : ML) (b : Nat) (c : Nat) (hc : mi 95 2 = nI c) (hc20 : c ≤ 20) (hb : b < 64) : ConD l y_Mo_flip c_Mo_flip 2 (some .int) 8 270 o [.ref (ads o (95)), .int (nI (b))] mi ml (some (.int (nI (pop ((ml 96 0) ^^^ (shl (1) (b))))))) (noteI mi c) (u2 (noteL ml c) 96 0 ((ml 96 0) ^^^ (shl (1) (b)))) := by
  refine Con.mk (by decide) (Nat.le_of_ble_eq_true rfl) (fun γ X => ?_)
  show V γ o 2 mi ml 0 [(0, .ref (ads o (95))), (1, .int (nI (b)))] []
  refine r_iload_n X 1 d_Mo_flip_0 rfl rfl ?_
  refine r_i2l X (v := lN (b)) d_Mo_flip_1 (nI_l (by omega)) ?_
  refine r_lconst X (v := 0) d_Mo_flip_2 (by decide) ?_
  refine r_ldc2 X (v := (63 : Int64)) k_Mo_168 d_Mo_flip_3 ?_
  refine r_callS X (m_Mo_in l o mi ml (lN (b)) 0 (63 : Int64)) ok_Mo_in w_Mo_63 rfl ⟨Nat.le_of_ble_eq_true rfl, Nat.le_of_ble_eq_true rfl⟩ (rest := []) rfl (Nat.le_of_ble_eq_true rfl) d_Mo_flip_6 ?_
  refine kD (st' := [.int (bI (!decide ((lN (b)) < 0) && !decide ((63 : Int64) < (lN (b)))))]) rfl ?_
  refine r_ifneB X (tgt := 15) (b := !decide ((lN (b)) < 0) && !decide ((63 : Int64) < (lN (b)))) d_Mo_flip_9 (by decide) (fun c_9 => ?_) (fun c_9 => ?_)
  · -- taken
    refine r_aload_n X 0 d_Mo_flip_15 rfl rfl ?_
    refine r_callV X (m_Mo_note l o mi ml c (hc) hc20) ok_Mo_note w_Mo_163 rfl b_95 e_95 rfl ⟨Nat.le_of_ble_eq_true rfl, Nat.le_of_ble_eq_true rfl⟩ (rest := []) rfl (Nat.le_of_ble_eq_true rfl) d_Mo_flip_16 ?_
    refine kD (st' := []) rfl ?_
    refine r_aload_n X 0 d_Mo_flip_19 rfl rfl ?_
    refine r_get X f_Mo_7 b_95 e_95 (v := .ref (ads o (96))) rfl d_Mo_flip_20 ?_
    refine r_iconst X (v := nI (0)) d_Mo_flip_23 (by decide) ?_
    refine r_aload_n X 0 d_Mo_flip_24 rfl rfl ?_
    refine r_get X f_Mo_7 b_95 e_95 (v := .ref (ads o (96))) rfl d_Mo_flip_25 ?_
    refine r_iconst X (v := nI (0)) d_Mo_flip_28 (by decide) ?_
    refine r_lald X (v := ml 96 0) b_96 e_96 (Nat.le_of_ble_eq_true rfl) (by omega) ((by rw [noteL_n _ _ (by decide)] <;> exact rfl)) d_Mo_flip_29 ?_
    refine r_lconst X (v := 1) d_Mo_flip_30 (by decide) ?_
    refine r_iload_n X 1 d_Mo_flip_31 rfl rfl ?_
    refine r_lshl X (v := shl (1) (b)) d_Mo_flip_32 (rfl) ?_
    refine r_lxor X (v := (ml 96 0) ^^^ (shl (1) (b))) d_Mo_flip_33 (rfl) ?_
    refine r_last X b_96 e_96 (Nat.le_of_ble_eq_true rfl) (by omega) d_Mo_flip_34 ?_
    refine r_aload_n X 0 d_Mo_flip_35 rfl rfl ?_
    refine r_get X f_Mo_7 b_95 e_95 (v := .ref (ads o (96))) rfl d_Mo_flip_36 ?_
    refine r_iconst X (v := nI (0)) d_Mo_flip_39 (by decide) ?_
    refine r_lald X (v := (ml 96 0) ^^^ (shl (1) (b))) b_96 e_96 (Nat.le_of_ble_eq_true rfl) (by omega) ((by rw [u2_s, uf_s])) d_Mo_flip_40 ?_
    refine r_callS X (m_Mo_ones l o (noteI mi c) (u2 (noteL ml c) 96 0 ((ml 96 0) ^^^ (shl (1) (b)))) ((ml 96 0) ^^^ (shl (1) (b)))) ok_Mo_ones w_Mo_71 rfl ⟨Nat.le_of_ble_eq_true rfl, Nat.le_of_ble_eq_true rfl⟩ (rest := []) rfl (Nat.le_of_ble_eq_true rfl) d_Mo_flip_41 ?_
    refine kD (st' := [.int (nI (pop ((ml 96 0) ^^^ (shl (1) (b)))))]) rfl ?_
    refine r_end_i X d_Mo_flip_44 ?_
    exact ⟨rfl, rfl, rfl⟩
  · -- not taken
    exact False.elim (by have e := in_nat (a := 0) (j := b) (m := 63) (by omega) (by omega) (by decide); exact absurd (c_9.symm.trans e) (by decide))

set_option maxHeartbeats 4000000 in
set_option maxRecDepth 100000 in
theorem m_Mo_flip_o (l : Launch) (o : OM) (mi : MI) (ml : ML) (b : Int32) (hb : b < nI 0 ∨ nI 63 < b) : ConD l y_Mo_flip c_Mo_flip 2 (some .int) 8 270 o [.ref (ads o (95)), .int (b)] mi ml (some (.int (((-1000000002 : Int32))))) mi ml := by
  refine Con.mk (by decide) (Nat.le_of_ble_eq_true rfl) (fun γ X => ?_)
  show V γ o 2 mi ml 0 [(0, .ref (ads o (95))), (1, .int (b))] []
  refine r_iload_n X 1 d_Mo_flip_0 rfl rfl ?_
  refine r_i2l X (v := (b).toInt64) d_Mo_flip_1 (rfl) ?_
  refine r_lconst X (v := 0) d_Mo_flip_2 (by decide) ?_
  refine r_ldc2 X (v := (63 : Int64)) k_Mo_168 d_Mo_flip_3 ?_
  refine r_callS X (m_Mo_in l o mi ml ((b).toInt64) 0 (63 : Int64)) ok_Mo_in w_Mo_63 rfl ⟨Nat.le_of_ble_eq_true rfl, Nat.le_of_ble_eq_true rfl⟩ (rest := []) rfl (Nat.le_of_ble_eq_true rfl) d_Mo_flip_6 ?_
  refine kD (st' := [.int (bI (!decide (((b).toInt64) < 0) && !decide ((63 : Int64) < ((b).toInt64))))]) rfl ?_
  refine r_ifneB X (tgt := 15) (b := !decide (((b).toInt64) < 0) && !decide ((63 : Int64) < ((b).toInt64))) d_Mo_flip_9 (by decide) (fun c_9 => ?_) (fun c_9 => ?_)
  · -- taken
    exact False.elim (by have e := in_out (a := 0) (m := 63) (by decide) (by decide) hb; exact absurd (c_9.symm.trans e) (by decide))
  · -- not taken
    refine r_ldc X (v := ((-1000000002 : Int32))) k_Mo_144 (by decide) d_Mo_flip_12 ?_
    refine r_end_i X d_Mo_flip_14 ?_
    first | exact ⟨rfl, rfl, rfl⟩ | (refine ⟨?_, rfl, rfl⟩; simp_all)

set_option maxHeartbeats 4000000 in
set_option maxRecDepth 100000 in
theorem m_Mo_row (l : Launch) (o : OM) (mi : MI) (ml : ML)   : ConD l y_Mo_row c_Mo_row 1 (some .int) 0 0 o [.ref (ads o (95))] mi ml (some (.int ((((ml 96 0) &&& (255 : Int64)).toInt32)))) mi ml := by
  refine Con.mk (by decide) (Nat.le_of_ble_eq_true rfl) (fun γ X => ?_)
  show V γ o 1 mi ml 0 [(0, .ref (ads o (95)))] []
  refine r_aload_n X 0 d_Mo_row_0 rfl rfl ?_
  refine r_get X f_Mo_7 b_95 e_95 (v := .ref (ads o (96))) rfl d_Mo_row_1 ?_
  refine r_iconst X (v := nI (0)) d_Mo_row_4 (by decide) ?_
  refine r_lald X (v := ml 96 0) b_96 e_96 (Nat.le_of_ble_eq_true rfl) (by omega) rfl d_Mo_row_5 ?_
  refine r_ldc2 X (v := (255 : Int64)) k_Mo_161 d_Mo_row_6 ?_
  refine r_land X (v := (ml 96 0) &&& ((255 : Int64))) d_Mo_row_9 (rfl) ?_
  refine r_l2i X (v := (((ml 96 0) &&& ((255 : Int64))).toInt32)) d_Mo_row_10 (rfl) ?_
  refine r_end_i X d_Mo_row_11 ?_
  first | exact ⟨rfl, rfl, rfl⟩ | (refine ⟨?_, rfl, rfl⟩; simp_all)

set_option maxHeartbeats 4000000 in
set_option maxRecDepth 100000 in
theorem m_Mo_turn (l : Launch) (o : OM) (mi : MI) (ml : ML) (c : Nat) (hc : mi 95 2 = nI c) (hc20 : c ≤ 20) : ConD l y_Mo_turn c_Mo_turn 4 (some .int) 8 270 o [.ref (ads o (95))] mi ml (some (.int ((((turnS (ml 96 0) 64) &&& (255 : Int64)).toInt32)))) (noteI mi c) (u2 (noteL ml c) 96 0 (turnS (ml 96 0) 64)) := by
  refine Con.mk (by decide) (Nat.le_of_ble_eq_true rfl) (fun γ X => ?_)
  show V γ o 4 mi ml 0 [(0, .ref (ads o (95)))] []
  refine r_aload_n X 0 d_Mo_turn_0 rfl rfl ?_
  refine r_callV X (m_Mo_note l o mi ml c (hc) hc20) ok_Mo_note w_Mo_163 rfl b_95 e_95 rfl ⟨Nat.le_of_ble_eq_true rfl, Nat.le_of_ble_eq_true rfl⟩ (rest := []) rfl (Nat.le_of_ble_eq_true rfl) d_Mo_turn_1 ?_
  refine kD (st' := []) rfl ?_
  refine r_lconst X (v := 0) d_Mo_turn_4 (by decide) ?_
  refine r_lstore_n X [(1, .long (0)), (0, .ref (ads o (95)))] d_Mo_turn_5 rfl (Nat.le_of_ble_eq_true rfl) rfl ?_
  refine r_iconst X (v := nI (0)) d_Mo_turn_6 (by decide) ?_
  refine r_istore_n X [(3, .int (nI (0))), (1, .long (0)), (0, .ref (ads o (95)))] d_Mo_turn_7 rfl (Nat.le_of_ble_eq_true rfl) rfl ?_
  have L8_1 : ∀ (d_i i : Nat), i + d_i = 64 → V γ o 4 (noteI mi c) (noteL ml c) 8 [(0, .ref (ads o (95))), (1, .long (turnS (ml 96 0) (i))), (3, .int (nI (i)))] [] := by
    intro d_i
    induction d_i with
    | zero =>
      intro i hi_L8_1 
      have he_L8_1 : 64 = i := by omega
      subst he_L8_1
      refine r_iload_n X 2 d_Mo_turn_8 rfl rfl ?_
      refine r_bipush X (v := nI (64)) d_Mo_turn_9 (by decide) ?_
      refine r_icge X (tgt := 57) (c := 64 ≤ 64) d_Mo_turn_11 (by decide) (nI_leI (Nat.le_of_ble_eq_true rfl) (by omega)) (fun c_11 => ?_) (fun c_11 => ?_)
      · -- taken
        refine r_aload_n X 0 d_Mo_turn_57 rfl rfl ?_
        refine r_get X f_Mo_7 b_95 e_95 (v := .ref (ads o (96))) rfl d_Mo_turn_58 ?_
        refine r_iconst X (v := nI (0)) d_Mo_turn_61 (by decide) ?_
        refine r_lload_n X 1 d_Mo_turn_62 rfl rfl ?_
        refine r_last X b_96 e_96 (Nat.le_of_ble_eq_true rfl) (by omega) d_Mo_turn_63 ?_
        refine r_aload_n X 0 d_Mo_turn_64 rfl rfl ?_
        refine r_callV X (m_Mo_row l o (noteI mi c) (u2 (noteL ml c) 96 0 (turnS (ml 96 0) (64))) ) ok_Mo_row w_Mo_170 rfl b_95 e_95 rfl ⟨Nat.le_of_ble_eq_true rfl, Nat.le_of_ble_eq_true rfl⟩ (rest := []) rfl (Nat.le_of_ble_eq_true rfl) d_Mo_turn_65 ?_
        refine kD (st' := [.int (((((u2 (noteL ml c) 96 0 (turnS (ml 96 0) (64))) 96 0) &&& (255 : Int64)).toInt32))]) rfl ?_
        refine V.eq (st' := [.int ((((turnS (ml 96 0) (64)) &&& (255 : Int64)).toInt32))]) ?_ rfl rfl rfl (by rw [u2_s, uf_s])
        refine r_end_i X d_Mo_turn_68 ?_
        exact ⟨rfl, rfl, rfl⟩
      · -- not taken
        exact False.elim (by omega)
    | succ d_i ih_L8_1 =>
      intro i hi_L8_1 
      have hlt_L8_1 : i < 64 := by omega
      refine r_iload_n X 2 d_Mo_turn_8 rfl rfl ?_
      refine r_bipush X (v := nI (64)) d_Mo_turn_9 (by decide) ?_
      refine r_icge X (tgt := 57) (c := 64 ≤ i) d_Mo_turn_11 (by decide) (nI_leI (Nat.le_of_ble_eq_true rfl) (by omega)) (fun c_11_2 => ?_) (fun c_11_2 => ?_)
      · -- taken
        exact False.elim (by omega)
      · -- not taken
        refine r_lload_n X 1 d_Mo_turn_14 rfl rfl ?_
        refine r_aload_n X 0 d_Mo_turn_15 rfl rfl ?_
        refine r_get X f_Mo_7 b_95 e_95 (v := .ref (ads o (96))) rfl d_Mo_turn_16 ?_
        refine r_iconst X (v := nI (0)) d_Mo_turn_19 (by decide) ?_
        refine r_lald X (v := ml 96 0) b_96 e_96 (Nat.le_of_ble_eq_true rfl) (by omega) ((by rw [noteL_n _ _ (by decide)] <;> exact rfl)) d_Mo_turn_20 ?_
        refine r_iload_n X 2 d_Mo_turn_21 rfl rfl ?_
        refine r_callS X (m_Mo_has l o (noteI mi c) (noteL ml c) (ml 96 0) i (by omega)) ok_Mo_has w_Mo_75 rfl ⟨Nat.le_of_ble_eq_true rfl, Nat.le_of_ble_eq_true rfl⟩ (rest := [.long (turnS (ml 96 0) (i))]) rfl (Nat.le_of_ble_eq_true rfl) d_Mo_turn_22 ?_
        refine kD (st' := [.int (bI (bt (ml 96 0) i)), .long (turnS (ml 96 0) (i))]) rfl ?_
        have hJ_3 : V γ o 4 (noteI mi c) (noteL ml c) 49 [(0, .ref (ads o (95))), (1, .long (turnS (ml 96 0) (i))), (3, .int (nI (i)))] [.long (if (bt (ml 96 0) i) then shl (1) (8 * ((i) % (8)) + 7 - ((i) / (8))) else 0), .long (turnS (ml 96 0) (i))] := by
          refine r_lor X (v := (turnS (ml 96 0) (i)) ||| (if (bt (ml 96 0) i) then shl (1) (8 * ((i) % (8)) + 7 - ((i) / (8))) else 0)) d_Mo_turn_49 (rfl) ?_
          refine r_lstore_n X [(1, .long ((turnS (ml 96 0) (i)) ||| (if (bt (ml 96 0) i) then shl (1) (8 * ((i) % (8)) + 7 - ((i) / (8))) else 0))), (0, .ref (ads o (95))), (3, .int (nI (i)))] d_Mo_turn_50 rfl (Nat.le_of_ble_eq_true rfl) rfl ?_
          refine r_iinc X 2 (v := nI (i + 1)) [(3, .int (nI (i + 1))), (1, .long ((turnS (ml 96 0) (i)) ||| (if (bt (ml 96 0) i) then shl (1) (8 * ((i) % (8)) + 7 - ((i) / (8))) else 0))), (0, .ref (ads o (95)))] d_Mo_turn_51 rfl (nI_add _ 1) (Nat.le_of_ble_eq_true rfl) rfl ?_
          refine r_goto X (tgt := 8) d_Mo_turn_54 (by decide) ?_
          refine V.wk [2, 1, 0] (V.eq (ih_L8_1 (i + 1) (by omega) ) ?_ ?_ ?_ rfl) (rfl : lv_pick _ [2, 1, 0] = [(0, .ref (ads o (95))), (1, .long ((turnS (ml 96 0) (i)) ||| (if (bt (ml 96 0) i) then shl (1) (8 * ((i) % (8)) + 7 - ((i) / (8))) else 0))), (3, .int (nI (i + 1)))])
          · rfl
          · rfl
          · first | rfl | (simp_all [ct, lastB, alB, fromB]; done)
        refine r_ifeqB X (tgt := 48) (b := bt (ml 96 0) i) d_Mo_turn_25 (by decide) (fun c_25 => ?_) (fun c_25 => ?_)
        · -- taken
          refine r_lconst X (v := 0) d_Mo_turn_48 (by decide) ?_
          exact V.eq hJ_3 rfl rfl rfl (by rw [show (if (bt (ml 96 0) i) then shl (1) (8 * ((i) % (8)) + 7 - ((i) / (8))) else 0) = (0) from by first | (simp only [c_25, decide_true, decide_false, Bool.not_true, Bool.not_false, Bool.true_and, Bool.false_and, Bool.and_true, Bool.and_false, Bool.true_or, Bool.false_or, Bool.or_true, Bool.or_false, if_true, if_false, ite_true, ite_false, cond_true, cond_false, Bool.false_eq_true, reduceIte]; done) | (simp [c_25]; done) | (simp_all; done)])
        · -- not taken
          refine r_lconst X (v := 1) d_Mo_turn_28 (by decide) ?_
          refine r_bipush X (v := nI (8)) d_Mo_turn_29 (by decide) ?_
          refine r_iload_n X 2 d_Mo_turn_31 rfl rfl ?_
          refine r_bipush X (v := nI (8)) d_Mo_turn_32 (by decide) ?_
          refine r_irem X (v := nI ((i) % (8))) d_Mo_turn_34 (nI_ne0 (by omega) (Nat.le_of_ble_eq_true rfl)) (pk_rem (by omega) (by omega) (Nat.le_of_ble_eq_true rfl)) ?_
          refine r_imul X (v := nI (8 * ((i) % (8)))) d_Mo_turn_35 (pk_mul _ _) ?_
          refine r_bipush X (v := nI (7)) d_Mo_turn_36 (by decide) ?_
          refine r_iadd X (v := nI (8 * ((i) % (8)) + 7)) d_Mo_turn_38 (nI_add _ _) ?_
          refine r_iload_n X 2 d_Mo_turn_39 rfl rfl ?_
          refine r_bipush X (v := nI (8)) d_Mo_turn_40 (by decide) ?_
          refine r_idiv X (v := nI ((i) / (8))) d_Mo_turn_42 (nI_ne0 (by omega) (Nat.le_of_ble_eq_true rfl)) (pk_div (by omega) (by omega) (Nat.le_of_ble_eq_true rfl)) ?_
          refine r_isub X (v := nI (8 * ((i) % (8)) + 7 - ((i) / (8)))) d_Mo_turn_43 (pk_sub (by omega)) ?_
          refine r_lshl X (v := shl (1) (8 * ((i) % (8)) + 7 - ((i) / (8)))) d_Mo_turn_44 (rfl) ?_
          refine r_goto X (tgt := 49) d_Mo_turn_45 (by decide) ?_
          exact V.eq hJ_3 rfl rfl rfl (by rw [show (if (bt (ml 96 0) i) then shl (1) (8 * ((i) % (8)) + 7 - ((i) / (8))) else 0) = (shl (1) (8 * ((i) % (8)) + 7 - ((i) / (8)))) from by first | (simp only [c_25, decide_true, decide_false, Bool.not_true, Bool.not_false, Bool.true_and, Bool.false_and, Bool.and_true, Bool.and_false, Bool.true_or, Bool.false_or, Bool.or_true, Bool.or_false, if_true, if_false, ite_true, ite_false, cond_true, cond_false, Bool.false_eq_true, reduceIte]; done) | (simp [c_25]; done) | (simp_all; done)])
  refine V.wk [2, 1, 0] (V.eq (L8_1 (64 - 0) 0 (by omega) ) ?_ ?_ ?_ rfl) (rfl : lv_pick _ [2, 1, 0] = [(0, .ref (ads o (95))), (1, .long (0)), (3, .int (nI (0)))])
  · rfl
  · rfl
  · rfl

set_option maxHeartbeats 4000000 in
set_option maxRecDepth 100000 in
theorem m_Mo_mirror (l : Launch) (o : OM) (mi : MI) (ml : ML) (c : Nat) (hc : mi 95 2 = nI c) (hc20 : c ≤ 20) : ConD l y_Mo_mirror c_Mo_mirror 4 (some .int) 8 270 o [.ref (ads o (95))] mi ml (some (.int ((((mirS (ml 96 0) 64) &&& (255 : Int64)).toInt32)))) (noteI mi c) (u2 (noteL ml c) 96 0 (mirS (ml 96 0) 64)) := by
  refine Con.mk (by decide) (Nat.le_of_ble_eq_true rfl) (fun γ X => ?_)
  show V γ o 4 mi ml 0 [(0, .ref (ads o (95)))] []
  refine r_aload_n X 0 d_Mo_mirror_0 rfl rfl ?_
  refine r_callV X (m_Mo_note l o mi ml c (hc) hc20) ok_Mo_note w_Mo_163 rfl b_95 e_95 rfl ⟨Nat.le_of_ble_eq_true rfl, Nat.le_of_ble_eq_true rfl⟩ (rest := []) rfl (Nat.le_of_ble_eq_true rfl) d_Mo_mirror_1 ?_
  refine kD (st' := []) rfl ?_
  refine r_lconst X (v := 0) d_Mo_mirror_4 (by decide) ?_
  refine r_lstore_n X [(1, .long (0)), (0, .ref (ads o (95)))] d_Mo_mirror_5 rfl (Nat.le_of_ble_eq_true rfl) rfl ?_
  refine r_iconst X (v := nI (0)) d_Mo_mirror_6 (by decide) ?_
  refine r_istore_n X [(3, .int (nI (0))), (1, .long (0)), (0, .ref (ads o (95)))] d_Mo_mirror_7 rfl (Nat.le_of_ble_eq_true rfl) rfl ?_
  have L8_1 : ∀ (d_i i : Nat), i + d_i = 64 → V γ o 4 (noteI mi c) (noteL ml c) 8 [(0, .ref (ads o (95))), (1, .long (mirS (ml 96 0) (i))), (3, .int (nI (i)))] [] := by
    intro d_i
    induction d_i with
    | zero =>
      intro i hi_L8_1 
      have he_L8_1 : 64 = i := by omega
      subst he_L8_1
      refine r_iload_n X 2 d_Mo_mirror_8 rfl rfl ?_
      refine r_bipush X (v := nI (64)) d_Mo_mirror_9 (by decide) ?_
      refine r_icge X (tgt := 57) (c := 64 ≤ 64) d_Mo_mirror_11 (by decide) (nI_leI (Nat.le_of_ble_eq_true rfl) (by omega)) (fun c_11 => ?_) (fun c_11 => ?_)
      · -- taken
        refine r_aload_n X 0 d_Mo_mirror_57 rfl rfl ?_
        refine r_get X f_Mo_7 b_95 e_95 (v := .ref (ads o (96))) rfl d_Mo_mirror_58 ?_
        refine r_iconst X (v := nI (0)) d_Mo_mirror_61 (by decide) ?_
        refine r_lload_n X 1 d_Mo_mirror_62 rfl rfl ?_
        refine r_last X b_96 e_96 (Nat.le_of_ble_eq_true rfl) (by omega) d_Mo_mirror_63 ?_
        refine r_aload_n X 0 d_Mo_mirror_64 rfl rfl ?_
        refine r_callV X (m_Mo_row l o (noteI mi c) (u2 (noteL ml c) 96 0 (mirS (ml 96 0) (64))) ) ok_Mo_row w_Mo_170 rfl b_95 e_95 rfl ⟨Nat.le_of_ble_eq_true rfl, Nat.le_of_ble_eq_true rfl⟩ (rest := []) rfl (Nat.le_of_ble_eq_true rfl) d_Mo_mirror_65 ?_
        refine kD (st' := [.int (((((u2 (noteL ml c) 96 0 (mirS (ml 96 0) (64))) 96 0) &&& (255 : Int64)).toInt32))]) rfl ?_
        refine V.eq (st' := [.int ((((mirS (ml 96 0) (64)) &&& (255 : Int64)).toInt32))]) ?_ rfl rfl rfl (by rw [u2_s, uf_s])
        refine r_end_i X d_Mo_mirror_68 ?_
        exact ⟨rfl, rfl, rfl⟩
      · -- not taken
        exact False.elim (by omega)
    | succ d_i ih_L8_1 =>
      intro i hi_L8_1 
      have hlt_L8_1 : i < 64 := by omega
      refine r_iload_n X 2 d_Mo_mirror_8 rfl rfl ?_
      refine r_bipush X (v := nI (64)) d_Mo_mirror_9 (by decide) ?_
      refine r_icge X (tgt := 57) (c := 64 ≤ i) d_Mo_mirror_11 (by decide) (nI_leI (Nat.le_of_ble_eq_true rfl) (by omega)) (fun c_11_2 => ?_) (fun c_11_2 => ?_)
      · -- taken
        exact False.elim (by omega)
      · -- not taken
        refine r_lload_n X 1 d_Mo_mirror_14 rfl rfl ?_
        refine r_aload_n X 0 d_Mo_mirror_15 rfl rfl ?_
        refine r_get X f_Mo_7 b_95 e_95 (v := .ref (ads o (96))) rfl d_Mo_mirror_16 ?_
        refine r_iconst X (v := nI (0)) d_Mo_mirror_19 (by decide) ?_
        refine r_lald X (v := ml 96 0) b_96 e_96 (Nat.le_of_ble_eq_true rfl) (by omega) ((by rw [noteL_n _ _ (by decide)] <;> exact rfl)) d_Mo_mirror_20 ?_
        refine r_iload_n X 2 d_Mo_mirror_21 rfl rfl ?_
        refine r_callS X (m_Mo_has l o (noteI mi c) (noteL ml c) (ml 96 0) i (by omega)) ok_Mo_has w_Mo_75 rfl ⟨Nat.le_of_ble_eq_true rfl, Nat.le_of_ble_eq_true rfl⟩ (rest := [.long (mirS (ml 96 0) (i))]) rfl (Nat.le_of_ble_eq_true rfl) d_Mo_mirror_22 ?_
        refine kD (st' := [.int (bI (bt (ml 96 0) i)), .long (mirS (ml 96 0) (i))]) rfl ?_
        have hJ_3 : V γ o 4 (noteI mi c) (noteL ml c) 49 [(0, .ref (ads o (95))), (1, .long (mirS (ml 96 0) (i))), (3, .int (nI (i)))] [.long (if (bt (ml 96 0) i) then shl (1) (((i) / (8)) * 8 + 7 - ((i) % (8))) else 0), .long (mirS (ml 96 0) (i))] := by
          refine r_lor X (v := (mirS (ml 96 0) (i)) ||| (if (bt (ml 96 0) i) then shl (1) (((i) / (8)) * 8 + 7 - ((i) % (8))) else 0)) d_Mo_mirror_49 (rfl) ?_
          refine r_lstore_n X [(1, .long ((mirS (ml 96 0) (i)) ||| (if (bt (ml 96 0) i) then shl (1) (((i) / (8)) * 8 + 7 - ((i) % (8))) else 0))), (0, .ref (ads o (95))), (3, .int (nI (i)))] d_Mo_mirror_50 rfl (Nat.le_of_ble_eq_true rfl) rfl ?_
          refine r_iinc X 2 (v := nI (i + 1)) [(3, .int (nI (i + 1))), (1, .long ((mirS (ml 96 0) (i)) ||| (if (bt (ml 96 0) i) then shl (1) (((i) / (8)) * 8 + 7 - ((i) % (8))) else 0))), (0, .ref (ads o (95)))] d_Mo_mirror_51 rfl (nI_add _ 1) (Nat.le_of_ble_eq_true rfl) rfl ?_
          refine r_goto X (tgt := 8) d_Mo_mirror_54 (by decide) ?_
          refine V.wk [2, 1, 0] (V.eq (ih_L8_1 (i + 1) (by omega) ) ?_ ?_ ?_ rfl) (rfl : lv_pick _ [2, 1, 0] = [(0, .ref (ads o (95))), (1, .long ((mirS (ml 96 0) (i)) ||| (if (bt (ml 96 0) i) then shl (1) (((i) / (8)) * 8 + 7 - ((i) % (8))) else 0))), (3, .int (nI (i + 1)))])
          · rfl
          · rfl
          · first | rfl | (simp_all [ct, lastB, alB, fromB]; done)
        refine r_ifeqB X (tgt := 48) (b := bt (ml 96 0) i) d_Mo_mirror_25 (by decide) (fun c_25 => ?_) (fun c_25 => ?_)
        · -- taken
          refine r_lconst X (v := 0) d_Mo_mirror_48 (by decide) ?_
          exact V.eq hJ_3 rfl rfl rfl (by rw [show (if (bt (ml 96 0) i) then shl (1) (((i) / (8)) * 8 + 7 - ((i) % (8))) else 0) = (0) from by first | (simp only [c_25, decide_true, decide_false, Bool.not_true, Bool.not_false, Bool.true_and, Bool.false_and, Bool.and_true, Bool.and_false, Bool.true_or, Bool.false_or, Bool.or_true, Bool.or_false, if_true, if_false, ite_true, ite_false, cond_true, cond_false, Bool.false_eq_true, reduceIte]; done) | (simp [c_25]; done) | (simp_all; done)])
        · -- not taken
          refine r_lconst X (v := 1) d_Mo_mirror_28 (by decide) ?_
          refine r_iload_n X 2 d_Mo_mirror_29 rfl rfl ?_
          refine r_bipush X (v := nI (8)) d_Mo_mirror_30 (by decide) ?_
          refine r_idiv X (v := nI ((i) / (8))) d_Mo_mirror_32 (nI_ne0 (by omega) (Nat.le_of_ble_eq_true rfl)) (pk_div (by omega) (by omega) (Nat.le_of_ble_eq_true rfl)) ?_
          refine r_bipush X (v := nI (8)) d_Mo_mirror_33 (by decide) ?_
          refine r_imul X (v := nI (((i) / (8)) * 8)) d_Mo_mirror_35 (pk_mul _ _) ?_
          refine r_bipush X (v := nI (7)) d_Mo_mirror_36 (by decide) ?_
          refine r_iadd X (v := nI (((i) / (8)) * 8 + 7)) d_Mo_mirror_38 (nI_add _ _) ?_
          refine r_iload_n X 2 d_Mo_mirror_39 rfl rfl ?_
          refine r_bipush X (v := nI (8)) d_Mo_mirror_40 (by decide) ?_
          refine r_irem X (v := nI ((i) % (8))) d_Mo_mirror_42 (nI_ne0 (by omega) (Nat.le_of_ble_eq_true rfl)) (pk_rem (by omega) (by omega) (Nat.le_of_ble_eq_true rfl)) ?_
          refine r_isub X (v := nI (((i) / (8)) * 8 + 7 - ((i) % (8)))) d_Mo_mirror_43 (pk_sub (by omega)) ?_
          refine r_lshl X (v := shl (1) (((i) / (8)) * 8 + 7 - ((i) % (8)))) d_Mo_mirror_44 (rfl) ?_
          refine r_goto X (tgt := 49) d_Mo_mirror_45 (by decide) ?_
          exact V.eq hJ_3 rfl rfl rfl (by rw [show (if (bt (ml 96 0) i) then shl (1) (((i) / (8)) * 8 + 7 - ((i) % (8))) else 0) = (shl (1) (((i) / (8)) * 8 + 7 - ((i) % (8)))) from by first | (simp only [c_25, decide_true, decide_false, Bool.not_true, Bool.not_false, Bool.true_and, Bool.false_and, Bool.and_true, Bool.and_false, Bool.true_or, Bool.false_or, Bool.or_true, Bool.or_false, if_true, if_false, ite_true, ite_false, cond_true, cond_false, Bool.false_eq_true, reduceIte]; done) | (simp [c_25]; done) | (simp_all; done)])
  refine V.wk [2, 1, 0] (V.eq (L8_1 (64 - 0) 0 (by omega) ) ?_ ?_ ?_ rfl) (rfl : lv_pick _ [2, 1, 0] = [(0, .ref (ads o (95))), (1, .long (0)), (3, .int (nI (0)))])
  · rfl
  · rfl
  · rfl

set_option maxHeartbeats 4000000 in
set_option maxRecDepth 100000 in
theorem m_Mo_hold_i (l : Launch) (o : OM) (mi : MI) (ml : ML) (k : Nat) (n : Nat) (c : Nat) (hn : ml 96 2 = lN n) (hn40 : n ≤ 40) (hc : mi 95 2 = nI c) (hc20 : c ≤ 20) (hk : k < n) : ConD l y_Mo_hold c_Mo_hold 3 (some .int) 8 270 o [.ref (ads o (95)), .int (nI (k))] mi ml (some (.int (nI (ds (oM ml k) (ml 96 0))))) (noteI mi c) (u2 (noteL ml c) 96 0 (oM (noteL ml c) k)) := by
  refine Con.mk (by decide) (Nat.le_of_ble_eq_true rfl) (fun γ X => ?_)
  show V γ o 3 mi ml 0 [(0, .ref (ads o (95))), (1, .int (nI (k)))] []
  refine r_aload_n X 0 d_Mo_hold_0 rfl rfl ?_
  refine r_iload_n X 1 d_Mo_hold_1 rfl rfl ?_
  refine r_callV X (m_Mo_isMark l o mi ml (nI (k)) n (hn) hn40) ok_Mo_isMark w_Mo_114 rfl b_95 e_95 rfl ⟨Nat.le_of_ble_eq_true rfl, Nat.le_of_ble_eq_true rfl⟩ (rest := []) rfl (Nat.le_of_ble_eq_true rfl) d_Mo_hold_2 ?_
  refine kD (st' := [.int (bI (isMk n (nI (k))))]) rfl ?_
  refine r_ifneB X (tgt := 11) (b := isMk n (nI (k))) d_Mo_hold_5 (by decide) (fun c_5 => ?_) (fun c_5 => ?_)
  · -- taken
    refine r_aload_n X 0 d_Mo_hold_11 rfl rfl ?_
    refine r_iload_n X 1 d_Mo_hold_12 rfl rfl ?_
    refine r_callV X (m_Mo_off l o mi ml k (by omega)) ok_Mo_off w_Mo_82 rfl b_95 e_95 rfl ⟨Nat.le_of_ble_eq_true rfl, Nat.le_of_ble_eq_true rfl⟩ (rest := []) rfl (Nat.le_of_ble_eq_true rfl) d_Mo_hold_13 ?_
    refine kD (st' := [.int (nI (ds (oM ml k) (ml 96 0)))]) rfl ?_
    refine r_istore_n X [(2, .int (nI (ds (oM ml k) (ml 96 0)))), (0, .ref (ads o (95))), (1, .int (nI (k)))] d_Mo_hold_16 rfl (Nat.le_of_ble_eq_true rfl) rfl ?_
    refine r_aload_n X 1 d_Mo_hold_17 rfl rfl ?_
    refine r_callV X (m_Mo_note l o mi ml c (hc) hc20) ok_Mo_note w_Mo_163 rfl b_95 e_95 rfl ⟨Nat.le_of_ble_eq_true rfl, Nat.le_of_ble_eq_true rfl⟩ (rest := []) rfl (Nat.le_of_ble_eq_true rfl) d_Mo_hold_18 ?_
    refine kD (st' := []) rfl ?_
    refine r_aload_n X 1 d_Mo_hold_21 rfl rfl ?_
    refine r_get X f_Mo_7 b_95 e_95 (v := .ref (ads o (96))) rfl d_Mo_hold_22 ?_
    refine r_iconst X (v := nI (0)) d_Mo_hold_25 (by decide) ?_
    refine r_aload_n X 1 d_Mo_hold_26 rfl rfl ?_
    refine r_iload_n X 2 d_Mo_hold_27 rfl rfl ?_
    refine r_callV X (m_Mo_own l o (noteI mi c) (noteL ml c) k (by omega)) ok_Mo_own w_Mo_67 rfl b_95 e_95 rfl ⟨Nat.le_of_ble_eq_true rfl, Nat.le_of_ble_eq_true rfl⟩ (rest := [.int (nI (0)), .ref (ads o (96))]) rfl (Nat.le_of_ble_eq_true rfl) d_Mo_hold_28 ?_
    refine kD (st' := [.long (oM (noteL ml c) k), .int (nI (0)), .ref (ads o (96))]) rfl ?_
    refine r_last X b_96 e_96 (Nat.le_of_ble_eq_true rfl) (by omega) d_Mo_hold_31 ?_
    refine r_iload_n X 0 d_Mo_hold_32 rfl rfl ?_
    refine r_end_i X d_Mo_hold_33 ?_
    exact ⟨rfl, rfl, rfl⟩
  · -- not taken
    exact False.elim (by rw [isMk_nI (by omega) (by omega)] at c_5; simp at c_5; omega)

set_option maxHeartbeats 4000000 in
set_option maxRecDepth 100000 in
theorem m_Mo_hold_u (l : Launch) (o : OM) (mi : MI) (ml : ML) (k : Int32) (n : Nat) (hn : ml 96 2 = lN n) (hn40 : n ≤ 40) (hu : isMk n k = false) : ConD l y_Mo_hold c_Mo_hold 3 (some .int) 8 270 o [.ref (ads o (95)), .int (k)] mi ml (some (.int (((-1000000001 : Int32))))) mi ml := by
  refine Con.mk (by decide) (Nat.le_of_ble_eq_true rfl) (fun γ X => ?_)
  show V γ o 3 mi ml 0 [(0, .ref (ads o (95))), (1, .int (k))] []
  refine r_aload_n X 0 d_Mo_hold_0 rfl rfl ?_
  refine r_iload_n X 1 d_Mo_hold_1 rfl rfl ?_
  refine r_callV X (m_Mo_isMark l o mi ml k n (hn) hn40) ok_Mo_isMark w_Mo_114 rfl b_95 e_95 rfl ⟨Nat.le_of_ble_eq_true rfl, Nat.le_of_ble_eq_true rfl⟩ (rest := []) rfl (Nat.le_of_ble_eq_true rfl) d_Mo_hold_2 ?_
  refine kD (st' := [.int (bI (isMk n k))]) rfl ?_
  refine r_ifneB X (tgt := 11) (b := isMk n k) d_Mo_hold_5 (by decide) (fun c_5 => ?_) (fun c_5 => ?_)
  · -- taken
    exact False.elim (by rw [hu] at c_5; cases c_5)
  · -- not taken
    refine r_ldc X (v := ((-1000000001 : Int32))) k_Mo_145 (by decide) d_Mo_hold_8 ?_
    refine r_end_i X d_Mo_hold_10 ?_
    first | exact ⟨rfl, rfl, rfl⟩ | (refine ⟨?_, rfl, rfl⟩; simp_all)

set_option maxHeartbeats 4000000 in
set_option maxRecDepth 100000 in
theorem m_Mo_add (l : Launch) (o : OM) (mi : MI) (ml : ML) (q : Nat) (n : Nat) (h : Int64) (hn : ml 96 2 = lN n) (hn40 : n < 40) (hh : ml 96 0 = h) : ConD l y_Mo_add c_Mo_add 2 none 1 20 o [.ref (ads o (95)), .int (nI (q))] mi ml none (u2 mi 97 n (nI q)) (u2 (u2 ml 96 (3 + n) h) 96 2 (lN (n + 1))) := by
  refine Con.mk (by decide) (Nat.le_of_ble_eq_true rfl) (fun γ X => ?_)
  show V γ o 2 mi ml 0 [(0, .ref (ads o (95))), (1, .int (nI (q)))] []
  refine r_aload_n X 0 d_Mo_add_0 rfl rfl ?_
  refine r_get X f_Mo_7 b_95 e_95 (v := .ref (ads o (96))) rfl d_Mo_add_1 ?_
  refine r_iconst X (v := nI (3)) d_Mo_add_4 (by decide) ?_
  refine r_aload_n X 0 d_Mo_add_5 rfl rfl ?_
  refine r_callV X (m_Mo_marks l o mi ml n (hn) (by omega)) ok_Mo_marks w_Mo_59 rfl b_95 e_95 rfl ⟨Nat.le_of_ble_eq_true rfl, Nat.le_of_ble_eq_true rfl⟩ (rest := [.int (nI (3)), .ref (ads o (96))]) rfl (Nat.le_of_ble_eq_true rfl) d_Mo_add_6 ?_
  refine kD (st' := [.int (nI (n)), .int (nI (3)), .ref (ads o (96))]) rfl ?_
  refine r_iadd X (v := nI (3 + n)) d_Mo_add_9 (nI_add _ _) ?_
  refine r_aload_n X 0 d_Mo_add_10 rfl rfl ?_
  refine r_get X f_Mo_7 b_95 e_95 (v := .ref (ads o (96))) rfl d_Mo_add_11 ?_
  refine r_iconst X (v := nI (0)) d_Mo_add_14 (by decide) ?_
  refine r_lald X (v := h) b_96 e_96 (Nat.le_of_ble_eq_true rfl) (by omega) (hh) d_Mo_add_15 ?_
  refine r_last X b_96 e_96 (Nat.le_of_ble_eq_true rfl) (by omega) d_Mo_add_16 ?_
  refine r_aload_n X 0 d_Mo_add_17 rfl rfl ?_
  refine r_get X f_Mo_13 b_95 e_95 (v := .ref (ads o (97))) rfl d_Mo_add_18 ?_
  refine r_aload_n X 0 d_Mo_add_21 rfl rfl ?_
  refine r_callV X (m_Mo_marks l o mi (u2 ml 96 (3 + n) (h)) n ((by rw [u2_s, uf_n _ _ (by omega)] <;> exact hn)) (by omega)) ok_Mo_marks w_Mo_59 rfl b_95 e_95 rfl ⟨Nat.le_of_ble_eq_true rfl, Nat.le_of_ble_eq_true rfl⟩ (rest := [.ref (ads o (97))]) rfl (Nat.le_of_ble_eq_true rfl) d_Mo_add_22 ?_
  refine kD (st' := [.int (nI (n)), .ref (ads o (97))]) rfl ?_
  refine r_iload_n X 1 d_Mo_add_25 rfl rfl ?_
  refine r_iast X b_97 e_97 (Nat.le_of_ble_eq_true rfl) (by omega) d_Mo_add_26 ?_
  refine r_aload_n X 0 d_Mo_add_27 rfl rfl ?_
  refine r_get X f_Mo_7 b_95 e_95 (v := .ref (ads o (96))) rfl d_Mo_add_28 ?_
  refine r_iconst X (v := nI (2)) d_Mo_add_31 (by decide) ?_
  refine r_dup2_11 X d_Mo_add_32 rfl rfl ?_
  refine r_lald X (v := lN (n)) b_96 e_96 (Nat.le_of_ble_eq_true rfl) (by omega) ((by rw [u2_s, uf_n _ _ (by omega)] <;> exact hn)) d_Mo_add_33 ?_
  refine r_lconst X (v := 1) d_Mo_add_34 (by decide) ?_
  refine r_ladd X (v := lN (n + 1)) d_Mo_add_35 (lN_1 _) ?_
  refine r_last X b_96 e_96 (Nat.le_of_ble_eq_true rfl) (by omega) d_Mo_add_36 ?_
  refine r_end_v X d_Mo_add_37 ?_
  exact ⟨rfl, rfl, rfl⟩

set_option maxHeartbeats 4000000 in
set_option maxRecDepth 100000 in
theorem m_Mo_put_o (l : Launch) (o : OM) (mi : MI) (ml : ML) (q : Int32) (hq : q < nI 0 ∨ nI 2 < q) : ConD l y_Mo_put c_Mo_put 2 (some .int) 8 270 o [.ref (ads o (95)), .int (q)] mi ml (some (.int (((-1000000002 : Int32))))) mi ml := by
  refine Con.mk (by decide) (Nat.le_of_ble_eq_true rfl) (fun γ X => ?_)
  show V γ o 2 mi ml 0 [(0, .ref (ads o (95))), (1, .int (q))] []
  refine r_iload_n X 1 d_Mo_put_0 rfl rfl ?_
  refine r_i2l X (v := (q).toInt64) d_Mo_put_1 (rfl) ?_
  refine r_lconst X (v := 0) d_Mo_put_2 (by decide) ?_
  refine r_ldc2 X (v := (2 : Int64)) k_Mo_173 d_Mo_put_3 ?_
  refine r_callS X (m_Mo_in l o mi ml ((q).toInt64) 0 (2 : Int64)) ok_Mo_in w_Mo_63 rfl ⟨Nat.le_of_ble_eq_true rfl, Nat.le_of_ble_eq_true rfl⟩ (rest := []) rfl (Nat.le_of_ble_eq_true rfl) d_Mo_put_6 ?_
  refine kD (st' := [.int (bI (!decide (((q).toInt64) < 0) && !decide ((2 : Int64) < ((q).toInt64))))]) rfl ?_
  refine r_ifneB X (tgt := 15) (b := !decide (((q).toInt64) < 0) && !decide ((2 : Int64) < ((q).toInt64))) d_Mo_put_9 (by decide) (fun c_9 => ?_) (fun c_9 => ?_)
  · -- taken
    exact False.elim (by have e := in_out (a := 0) (m := 2) (by decide) (by decide) hq; exact absurd (c_9.symm.trans e) (by decide))
  · -- not taken
    refine r_ldc X (v := ((-1000000002 : Int32))) k_Mo_144 (by decide) d_Mo_put_12 ?_
    refine r_end_i X d_Mo_put_14 ?_
    first | exact ⟨rfl, rfl, rfl⟩ | (refine ⟨?_, rfl, rfl⟩; simp_all)

set_option maxHeartbeats 4000000 in
set_option maxRecDepth 100000 in
theorem m_Mo_put_n (l : Launch) (o : OM) (mi : MI) (ml : ML) (q : Nat) (n : Nat) (hn : ml 96 2 = lN n) (hn40 : n ≤ 40) (hq : q < 3) (hl : ¬ lastB (fun k => decide (oM ml k = ml 96 0)) n = -1) : ConD l y_Mo_put c_Mo_put 2 (some .int) 8 270 o [.ref (ads o (95)), .int (nI (q))] mi ml (some (.int (((-1000000003 : Int32))))) mi ml := by
  refine Con.mk (by decide) (Nat.le_of_ble_eq_true rfl) (fun γ X => ?_)
  show V γ o 2 mi ml 0 [(0, .ref (ads o (95))), (1, .int (nI (q)))] []
  refine r_iload_n X 1 d_Mo_put_0 rfl rfl ?_
  refine r_i2l X (v := lN (q)) d_Mo_put_1 (nI_l (by omega)) ?_
  refine r_lconst X (v := 0) d_Mo_put_2 (by decide) ?_
  refine r_ldc2 X (v := (2 : Int64)) k_Mo_173 d_Mo_put_3 ?_
  refine r_callS X (m_Mo_in l o mi ml (lN (q)) 0 (2 : Int64)) ok_Mo_in w_Mo_63 rfl ⟨Nat.le_of_ble_eq_true rfl, Nat.le_of_ble_eq_true rfl⟩ (rest := []) rfl (Nat.le_of_ble_eq_true rfl) d_Mo_put_6 ?_
  refine kD (st' := [.int (bI (!decide ((lN (q)) < 0) && !decide ((2 : Int64) < (lN (q)))))]) rfl ?_
  refine r_ifneB X (tgt := 15) (b := !decide ((lN (q)) < 0) && !decide ((2 : Int64) < (lN (q)))) d_Mo_put_9 (by decide) (fun c_9 => ?_) (fun c_9 => ?_)
  · -- taken
    refine r_aload_n X 0 d_Mo_put_15 rfl rfl ?_
    refine r_aload_n X 0 d_Mo_put_16 rfl rfl ?_
    refine r_get X f_Mo_7 b_95 e_95 (v := .ref (ads o (96))) rfl d_Mo_put_17 ?_
    refine r_iconst X (v := nI (0)) d_Mo_put_20 (by decide) ?_
    refine r_lald X (v := ml 96 0) b_96 e_96 (Nat.le_of_ble_eq_true rfl) (by omega) (rfl) d_Mo_put_21 ?_
    refine r_callV X (m_Mo_like l o mi ml (ml 96 0) n (hn) hn40) ok_Mo_like w_Mo_120 rfl b_95 e_95 rfl ⟨Nat.le_of_ble_eq_true rfl, Nat.le_of_ble_eq_true rfl⟩ (rest := []) rfl (Nat.le_of_ble_eq_true rfl) d_Mo_put_22 ?_
    refine kD (st' := [.int ((lastB (fun k => decide (oM ml k = (ml 96 0))) n))]) rfl ?_
    refine r_iconst X (v := ((-1 : Int32))) d_Mo_put_25 (by decide) ?_
    refine r_iceq X (tgt := 32) (c := (lastB (fun k => decide (oM ml k = (ml 96 0))) n) = ((-1 : Int32))) d_Mo_put_26 (by decide) (Iff.rfl) (fun c_26 => ?_) (fun c_26 => ?_)
    · -- taken
      exact False.elim (by exact hl c_26)
    · -- not taken
      refine r_ldc X (v := ((-1000000003 : Int32))) k_Mo_175 (by decide) d_Mo_put_29 ?_
      refine r_end_i X d_Mo_put_31 ?_
      first | exact ⟨rfl, rfl, rfl⟩ | (refine ⟨?_, rfl, rfl⟩; simp_all)
  · -- not taken
    exact False.elim (by have e := in_nat (a := 0) (j := q) (m := 2) (by omega) (by omega) (by decide); exact absurd (c_9.symm.trans e) (by decide))

set_option maxHeartbeats 4000000 in
set_option maxRecDepth 100000 in
theorem m_Mo_put_f (l : Launch) (o : OM) (mi : MI) (ml : ML) (q : Nat) (n : Nat) (hn : ml 96 2 = lN n) (hn40 : n ≤ 40) (hq : q < 3) (hl : lastB (fun k => decide (oM ml k = ml 96 0)) n = -1) (h40 : n = 40) : ConD l y_Mo_put c_Mo_put 2 (some .int) 8 270 o [.ref (ads o (95)), .int (nI (q))] mi ml (some (.int (((-1000000004 : Int32))))) mi ml := by
  refine Con.mk (by decide) (Nat.le_of_ble_eq_true rfl) (fun γ X => ?_)
  show V γ o 2 mi ml 0 [(0, .ref (ads o (95))), (1, .int (nI (q)))] []
  refine r_iload_n X 1 d_Mo_put_0 rfl rfl ?_
  refine r_i2l X (v := lN (q)) d_Mo_put_1 (nI_l (by omega)) ?_
  refine r_lconst X (v := 0) d_Mo_put_2 (by decide) ?_
  refine r_ldc2 X (v := (2 : Int64)) k_Mo_173 d_Mo_put_3 ?_
  refine r_callS X (m_Mo_in l o mi ml (lN (q)) 0 (2 : Int64)) ok_Mo_in w_Mo_63 rfl ⟨Nat.le_of_ble_eq_true rfl, Nat.le_of_ble_eq_true rfl⟩ (rest := []) rfl (Nat.le_of_ble_eq_true rfl) d_Mo_put_6 ?_
  refine kD (st' := [.int (bI (!decide ((lN (q)) < 0) && !decide ((2 : Int64) < (lN (q)))))]) rfl ?_
  refine r_ifneB X (tgt := 15) (b := !decide ((lN (q)) < 0) && !decide ((2 : Int64) < (lN (q)))) d_Mo_put_9 (by decide) (fun c_9 => ?_) (fun c_9 => ?_)
  · -- taken
    refine r_aload_n X 0 d_Mo_put_15 rfl rfl ?_
    refine r_aload_n X 0 d_Mo_put_16 rfl rfl ?_
    refine r_get X f_Mo_7 b_95 e_95 (v := .ref (ads o (96))) rfl d_Mo_put_17 ?_
    refine r_iconst X (v := nI (0)) d_Mo_put_20 (by decide) ?_
    refine r_lald X (v := ml 96 0) b_96 e_96 (Nat.le_of_ble_eq_true rfl) (by omega) (rfl) d_Mo_put_21 ?_
    refine r_callV X (m_Mo_like l o mi ml (ml 96 0) n (hn) hn40) ok_Mo_like w_Mo_120 rfl b_95 e_95 rfl ⟨Nat.le_of_ble_eq_true rfl, Nat.le_of_ble_eq_true rfl⟩ (rest := []) rfl (Nat.le_of_ble_eq_true rfl) d_Mo_put_22 ?_
    refine kD (st' := [.int ((lastB (fun k => decide (oM ml k = (ml 96 0))) n))]) rfl ?_
    refine r_iconst X (v := ((-1 : Int32))) d_Mo_put_25 (by decide) ?_
    refine r_iceq X (tgt := 32) (c := (lastB (fun k => decide (oM ml k = (ml 96 0))) n) = ((-1 : Int32))) d_Mo_put_26 (by decide) (Iff.rfl) (fun c_26 => ?_) (fun c_26 => ?_)
    · -- taken
      refine r_aload_n X 0 d_Mo_put_32 rfl rfl ?_
      refine r_callV X (m_Mo_marks l o mi ml n (hn) hn40) ok_Mo_marks w_Mo_59 rfl b_95 e_95 rfl ⟨Nat.le_of_ble_eq_true rfl, Nat.le_of_ble_eq_true rfl⟩ (rest := []) rfl (Nat.le_of_ble_eq_true rfl) d_Mo_put_33 ?_
      refine kD (st' := [.int (nI (n))]) rfl ?_
      refine r_bipush X (v := nI (40)) d_Mo_put_36 (by decide) ?_
      refine r_icneP X (tgt := 44) (c := n = 40) d_Mo_put_38 (by decide) (nI_eq (by omega) (Nat.le_of_ble_eq_true rfl)) (fun c_38 => ?_) (fun c_38 => ?_)
      · -- taken
        exact False.elim (by omega)
      · -- not taken
        refine r_ldc X (v := ((-1000000004 : Int32))) k_Mo_176 (by decide) d_Mo_put_41 ?_
        refine r_end_i X d_Mo_put_43 ?_
        first | exact ⟨rfl, rfl, rfl⟩ | (refine ⟨?_, rfl, rfl⟩; simp_all)
    · -- not taken
      exact False.elim (by exact c_26 hl)
  · -- not taken
    exact False.elim (by have e := in_nat (a := 0) (j := q) (m := 2) (by omega) (by omega) (by decide); exact absurd (c_9.symm.trans e) (by decide))

set_option maxHeartbeats 4000000 in
set_option maxRecDepth 100000 in
theorem m_Mo_put_i (l : Launch) (o : OM) (mi : MI) (ml : ML) (q : Nat) (n : Nat) (c : Nat) (hn : ml 96 2 = lN n) (hn40 : n < 40) (hc : mi 95 2 = nI c) (hc20 : c ≤ 20) (hq : q < 3) (hl : lastB (fun k => decide (oM ml k = ml 96 0)) n = -1) : ConD l y_Mo_put c_Mo_put 2 (some .int) 8 270 o [.ref (ads o (95)), .int (nI (q))] mi ml (some (.int (nI (n)))) (u2 (noteI mi c) 97 n (nI q)) (u2 (u2 (noteL ml c) 96 (3 + n) (ml 96 0)) 96 2 (lN (n + 1))) := by
  refine Con.mk (by decide) (Nat.le_of_ble_eq_true rfl) (fun γ X => ?_)
  show V γ o 2 mi ml 0 [(0, .ref (ads o (95))), (1, .int (nI (q)))] []
  refine r_iload_n X 1 d_Mo_put_0 rfl rfl ?_
  refine r_i2l X (v := lN (q)) d_Mo_put_1 (nI_l (by omega)) ?_
  refine r_lconst X (v := 0) d_Mo_put_2 (by decide) ?_
  refine r_ldc2 X (v := (2 : Int64)) k_Mo_173 d_Mo_put_3 ?_
  refine r_callS X (m_Mo_in l o mi ml (lN (q)) 0 (2 : Int64)) ok_Mo_in w_Mo_63 rfl ⟨Nat.le_of_ble_eq_true rfl, Nat.le_of_ble_eq_true rfl⟩ (rest := []) rfl (Nat.le_of_ble_eq_true rfl) d_Mo_put_6 ?_
  refine kD (st' := [.int (bI (!decide ((lN (q)) < 0) && !decide ((2 : Int64) < (lN (q)))))]) rfl ?_
  refine r_ifneB X (tgt := 15) (b := !decide ((lN (q)) < 0) && !decide ((2 : Int64) < (lN (q)))) d_Mo_put_9 (by decide) (fun c_9 => ?_) (fun c_9 => ?_)
  · -- taken
    refine r_aload_n X 0 d_Mo_put_15 rfl rfl ?_
    refine r_aload_n X 0 d_Mo_put_16 rfl rfl ?_
    refine r_get X f_Mo_7 b_95 e_95 (v := .ref (ads o (96))) rfl d_Mo_put_17 ?_
    refine r_iconst X (v := nI (0)) d_Mo_put_20 (by decide) ?_
    refine r_lald X (v := ml 96 0) b_96 e_96 (Nat.le_of_ble_eq_true rfl) (by omega) (rfl) d_Mo_put_21 ?_
    refine r_callV X (m_Mo_like l o mi ml (ml 96 0) n (hn) (by omega)) ok_Mo_like w_Mo_120 rfl b_95 e_95 rfl ⟨Nat.le_of_ble_eq_true rfl, Nat.le_of_ble_eq_true rfl⟩ (rest := []) rfl (Nat.le_of_ble_eq_true rfl) d_Mo_put_22 ?_
    refine kD (st' := [.int ((lastB (fun k => decide (oM ml k = (ml 96 0))) n))]) rfl ?_
    refine r_iconst X (v := ((-1 : Int32))) d_Mo_put_25 (by decide) ?_
    refine r_iceq X (tgt := 32) (c := (lastB (fun k => decide (oM ml k = (ml 96 0))) n) = ((-1 : Int32))) d_Mo_put_26 (by decide) (Iff.rfl) (fun c_26 => ?_) (fun c_26 => ?_)
    · -- taken
      refine r_aload_n X 0 d_Mo_put_32 rfl rfl ?_
      refine r_callV X (m_Mo_marks l o mi ml n (hn) (by omega)) ok_Mo_marks w_Mo_59 rfl b_95 e_95 rfl ⟨Nat.le_of_ble_eq_true rfl, Nat.le_of_ble_eq_true rfl⟩ (rest := []) rfl (Nat.le_of_ble_eq_true rfl) d_Mo_put_33 ?_
      refine kD (st' := [.int (nI (n))]) rfl ?_
      refine r_bipush X (v := nI (40)) d_Mo_put_36 (by decide) ?_
      refine r_icneP X (tgt := 44) (c := n = 40) d_Mo_put_38 (by decide) (nI_eq (by omega) (Nat.le_of_ble_eq_true rfl)) (fun c_38 => ?_) (fun c_38 => ?_)
      · -- taken
        refine r_aload_n X 0 d_Mo_put_44 rfl rfl ?_
        refine r_callV X (m_Mo_note l o mi ml c (hc) hc20) ok_Mo_note w_Mo_163 rfl b_95 e_95 rfl ⟨Nat.le_of_ble_eq_true rfl, Nat.le_of_ble_eq_true rfl⟩ (rest := []) rfl (Nat.le_of_ble_eq_true rfl) d_Mo_put_45 ?_
        refine kD (st' := []) rfl ?_
        refine r_aload_n X 0 d_Mo_put_48 rfl rfl ?_
        refine r_iload_n X 1 d_Mo_put_49 rfl rfl ?_
        refine r_callV X (m_Mo_add l o (noteI mi c) (noteL ml c) q n (ml 96 0) ((by rw [noteL_n _ _ (by decide)] <;> exact hn)) (by omega) ((by rw [noteL_n _ _ (by decide)] <;> exact rfl))) ok_Mo_add w_Mo_177 rfl b_95 e_95 rfl ⟨Nat.le_of_ble_eq_true rfl, Nat.le_of_ble_eq_true rfl⟩ (rest := []) rfl (Nat.le_of_ble_eq_true rfl) d_Mo_put_50 ?_
        refine kD (st' := []) rfl ?_
        refine r_aload_n X 0 d_Mo_put_53 rfl rfl ?_
        refine r_callV X (m_Mo_marks l o (u2 (noteI mi c) 97 n (nI q)) (u2 (u2 (noteL ml c) 96 (3 + n) (ml 96 0)) 96 2 (lN (n + 1))) (n + 1) ((by rw [u2_s, uf_s])) (by omega)) ok_Mo_marks w_Mo_59 rfl b_95 e_95 rfl ⟨Nat.le_of_ble_eq_true rfl, Nat.le_of_ble_eq_true rfl⟩ (rest := []) rfl (Nat.le_of_ble_eq_true rfl) d_Mo_put_54 ?_
        refine kD (st' := [.int (nI ((n + 1)))]) rfl ?_
        refine r_iconst X (v := nI (1)) d_Mo_put_57 (by decide) ?_
        refine r_isub X (v := nI ((n + 1) - 1)) d_Mo_put_58 (pk_sub (by omega)) ?_
        refine r_end_i X d_Mo_put_59 ?_
        exact ⟨rfl, rfl, rfl⟩
      · -- not taken
        exact False.elim (by omega)
    · -- not taken
      exact False.elim (by exact c_26 hl)
  · -- not taken
    exact False.elim (by have e := in_nat (a := 0) (j := q) (m := 2) (by omega) (by omega) (by decide); exact absurd (c_9.symm.trans e) (by decide))

set_option maxHeartbeats 4000000 in
set_option maxRecDepth 100000 in
theorem m_Mo_cut_i (l : Launch) (o : OM) (mi : MI) (ml : ML) (x : Int64) (c : Nat) (hc : mi 95 2 = nI c) (hc20 : c ≤ 20) (hx0 : bt x 0 = true) (hx8 : pop x ≤ 8) : ConD l y_Mo_cut c_Mo_cut 3 (some .int) 8 270 o [.ref (ads o (95)), .long (x)] mi ml (some (.int (nI (pop x - 1)))) (noteI mi c) (u2 (noteL ml c) 96 1 x) := by
  refine Con.mk (by decide) (Nat.le_of_ble_eq_true rfl) (fun γ X => ?_)
  show V γ o 3 mi ml 0 [(0, .ref (ads o (95))), (1, .long (x))] []
  refine r_lload_n X 1 d_Mo_cut_0 rfl rfl ?_
  refine r_iconst X (v := nI (0)) d_Mo_cut_1 (by decide) ?_
  refine r_callS X (m_Mo_has l o mi ml x 0 (by omega)) ok_Mo_has w_Mo_75 rfl ⟨Nat.le_of_ble_eq_true rfl, Nat.le_of_ble_eq_true rfl⟩ (rest := []) rfl (Nat.le_of_ble_eq_true rfl) d_Mo_cut_2 ?_
  refine kD (st' := [.int (bI (bt x 0))]) rfl ?_
  refine r_ifeqB X (tgt := 17) (b := bt x 0) d_Mo_cut_5 (by decide) (fun c_5 => ?_) (fun c_5 => ?_)
  · -- taken
    exact False.elim (by rw [hx0] at c_5; cases c_5)
  · -- not taken
    refine r_lload_n X 1 d_Mo_cut_8 rfl rfl ?_
    refine r_callS X (m_Mo_ones l o mi ml x) ok_Mo_ones w_Mo_71 rfl ⟨Nat.le_of_ble_eq_true rfl, Nat.le_of_ble_eq_true rfl⟩ (rest := []) rfl (Nat.le_of_ble_eq_true rfl) d_Mo_cut_9 ?_
    refine kD (st' := [.int (nI (pop x))]) rfl ?_
    refine r_bipush X (v := nI (8)) d_Mo_cut_12 (by decide) ?_
    refine r_icle X (tgt := 20) (c := (pop x) ≤ 8) d_Mo_cut_14 (by decide) (nI_leI (pop_lt _) (Nat.le_of_ble_eq_true rfl)) (fun c_14 => ?_) (fun c_14 => ?_)
    · -- taken
      refine r_aload_n X 0 d_Mo_cut_20 rfl rfl ?_
      refine r_callV X (m_Mo_note l o mi ml c (hc) hc20) ok_Mo_note w_Mo_163 rfl b_95 e_95 rfl ⟨Nat.le_of_ble_eq_true rfl, Nat.le_of_ble_eq_true rfl⟩ (rest := []) rfl (Nat.le_of_ble_eq_true rfl) d_Mo_cut_21 ?_
      refine kD (st' := []) rfl ?_
      refine r_aload_n X 0 d_Mo_cut_24 rfl rfl ?_
      refine r_get X f_Mo_7 b_95 e_95 (v := .ref (ads o (96))) rfl d_Mo_cut_25 ?_
      refine r_iconst X (v := nI (1)) d_Mo_cut_28 (by decide) ?_
      refine r_lload_n X 1 d_Mo_cut_29 rfl rfl ?_
      refine r_last X b_96 e_96 (Nat.le_of_ble_eq_true rfl) (by omega) d_Mo_cut_30 ?_
      refine r_aload_n X 0 d_Mo_cut_31 rfl rfl ?_
      refine r_callV X (m_Mo_parts l o (noteI mi c) (u2 (noteL ml c) 96 1 (x)) ) ok_Mo_parts w_Mo_86 rfl b_95 e_95 rfl ⟨Nat.le_of_ble_eq_true rfl, Nat.le_of_ble_eq_true rfl⟩ (rest := []) rfl (Nat.le_of_ble_eq_true rfl) d_Mo_cut_32 ?_
      refine kD (st' := [.int (nI (pop ((u2 (noteL ml c) 96 1 (x)) 96 1)))]) rfl ?_
      refine V.eq (st' := [.int (nI (pop x))]) ?_ rfl rfl rfl (by rw [u2_s, uf_s])
      have hp1 := pop_pos hx0
      refine r_iconst X (v := nI (1)) d_Mo_cut_35 (by decide) ?_
      refine r_isub X (v := nI (pop x - 1)) d_Mo_cut_36 (pk_sub (by omega)) ?_
      refine r_end_i X d_Mo_cut_37 ?_
      exact ⟨rfl, rfl, rfl⟩
    · -- not taken
      exact False.elim (by omega)

set_option maxHeartbeats 4000000 in
set_option maxRecDepth 100000 in
theorem m_Mo_cut_o1 (l : Launch) (o : OM) (mi : MI) (ml : ML) (x : Int64) (hx0 : bt x 0 = false) : ConD l y_Mo_cut c_Mo_cut 3 (some .int) 8 270 o [.ref (ads o (95)), .long (x)] mi ml (some (.int (((-1000000002 : Int32))))) mi ml := by
  refine Con.mk (by decide) (Nat.le_of_ble_eq_true rfl) (fun γ X => ?_)
  show V γ o 3 mi ml 0 [(0, .ref (ads o (95))), (1, .long (x))] []
  refine r_lload_n X 1 d_Mo_cut_0 rfl rfl ?_
  refine r_iconst X (v := nI (0)) d_Mo_cut_1 (by decide) ?_
  refine r_callS X (m_Mo_has l o mi ml x 0 (by omega)) ok_Mo_has w_Mo_75 rfl ⟨Nat.le_of_ble_eq_true rfl, Nat.le_of_ble_eq_true rfl⟩ (rest := []) rfl (Nat.le_of_ble_eq_true rfl) d_Mo_cut_2 ?_
  refine kD (st' := [.int (bI (bt x 0))]) rfl ?_
  refine r_ifeqB X (tgt := 17) (b := bt x 0) d_Mo_cut_5 (by decide) (fun c_5 => ?_) (fun c_5 => ?_)
  · -- taken
    refine r_ldc X (v := ((-1000000002 : Int32))) k_Mo_144 (by decide) d_Mo_cut_17 ?_
    refine r_end_i X d_Mo_cut_19 ?_
    first | exact ⟨rfl, rfl, rfl⟩ | (refine ⟨?_, rfl, rfl⟩; simp_all)
  · -- not taken
    exact False.elim (by rw [hx0] at c_5; cases c_5)

set_option maxHeartbeats 4000000 in
set_option maxRecDepth 100000 in
theorem m_Mo_cut_o2 (l : Launch) (o : OM) (mi : MI) (ml : ML) (x : Int64) (hx0 : bt x 0 = true) (hx8 : 8 < pop x) : ConD l y_Mo_cut c_Mo_cut 3 (some .int) 8 270 o [.ref (ads o (95)), .long (x)] mi ml (some (.int (((-1000000002 : Int32))))) mi ml := by
  refine Con.mk (by decide) (Nat.le_of_ble_eq_true rfl) (fun γ X => ?_)
  show V γ o 3 mi ml 0 [(0, .ref (ads o (95))), (1, .long (x))] []
  refine r_lload_n X 1 d_Mo_cut_0 rfl rfl ?_
  refine r_iconst X (v := nI (0)) d_Mo_cut_1 (by decide) ?_
  refine r_callS X (m_Mo_has l o mi ml x 0 (by omega)) ok_Mo_has w_Mo_75 rfl ⟨Nat.le_of_ble_eq_true rfl, Nat.le_of_ble_eq_true rfl⟩ (rest := []) rfl (Nat.le_of_ble_eq_true rfl) d_Mo_cut_2 ?_
  refine kD (st' := [.int (bI (bt x 0))]) rfl ?_
  refine r_ifeqB X (tgt := 17) (b := bt x 0) d_Mo_cut_5 (by decide) (fun c_5 => ?_) (fun c_5 => ?_)
  · -- taken
    exact False.elim (by rw [hx0] at c_5; cases c_5)
  · -- not taken
    refine r_lload_n X 1 d_Mo_cut_8 rfl rfl ?_
    refine r_callS X (m_Mo_ones l o mi ml x) ok_Mo_ones w_Mo_71 rfl ⟨Nat.le_of_ble_eq_true rfl, Nat.le_of_ble_eq_true rfl⟩ (rest := []) rfl (Nat.le_of_ble_eq_true rfl) d_Mo_cut_9 ?_
    refine kD (st' := [.int (nI (pop x))]) rfl ?_
    refine r_bipush X (v := nI (8)) d_Mo_cut_12 (by decide) ?_
    refine r_icle X (tgt := 20) (c := (pop x) ≤ 8) d_Mo_cut_14 (by decide) (nI_leI (pop_lt _) (Nat.le_of_ble_eq_true rfl)) (fun c_14 => ?_) (fun c_14 => ?_)
    · -- taken
      exact False.elim (by omega)
    · -- not taken
      refine r_ldc X (v := ((-1000000002 : Int32))) k_Mo_144 (by decide) d_Mo_cut_17 ?_
      refine r_end_i X d_Mo_cut_19 ?_
      first | exact ⟨rfl, rfl, rfl⟩ | (refine ⟨?_, rfl, rfl⟩; simp_all)

set_option maxHeartbeats 4000000 in
set_option maxRecDepth 100000 in
theorem m_Mo_take_i (l : Launch) (o : OM) (mi : MI) (ml : ML) (k : Nat) (n : Nat) (c : Nat) (hn : ml 96 2 = lN n) (hn40 : n ≤ 40) (hc : mi 95 2 = nI c) (hc20 : c ≤ 20) (hk : k < n) : ConD l y_Mo_take c_Mo_take 4 (some .int) 8 270 o [.ref (ads o (95)), .int (nI (k))] mi ml (some (.int (nI (n - 1)))) (u2 (shL (noteI mi c) 97 k 1 (n - 1 - k)) 97 (n - 1) (nI 0)) (u2 (u2 (shL (noteL ml c) 96 (3 + k) 1 (n - 1 - k)) 96 (3 + (n - 1)) 0) 96 2 (lN (n - 1))) := by
  refine Con.mk (by decide) (Nat.le_of_ble_eq_true rfl) (fun γ X => ?_)
  show V γ o 4 mi ml 0 [(0, .ref (ads o (95))), (1, .int (nI (k)))] []
  refine r_aload_n X 0 d_Mo_take_0 rfl rfl ?_
  refine r_iload_n X 1 d_Mo_take_1 rfl rfl ?_
  refine r_callV X (m_Mo_isMark l o mi ml (nI (k)) n (hn) hn40) ok_Mo_isMark w_Mo_114 rfl b_95 e_95 rfl ⟨Nat.le_of_ble_eq_true rfl, Nat.le_of_ble_eq_true rfl⟩ (rest := []) rfl (Nat.le_of_ble_eq_true rfl) d_Mo_take_2 ?_
  refine kD (st' := [.int (bI (isMk n (nI (k))))]) rfl ?_
  refine r_ifneB X (tgt := 11) (b := isMk n (nI (k))) d_Mo_take_5 (by decide) (fun c_5 => ?_) (fun c_5 => ?_)
  · -- taken
    refine r_aload_n X 0 d_Mo_take_11 rfl rfl ?_
    refine r_callV X (m_Mo_note l o mi ml c (hc) hc20) ok_Mo_note w_Mo_163 rfl b_95 e_95 rfl ⟨Nat.le_of_ble_eq_true rfl, Nat.le_of_ble_eq_true rfl⟩ (rest := []) rfl (Nat.le_of_ble_eq_true rfl) d_Mo_take_12 ?_
    refine kD (st' := []) rfl ?_
    refine r_aload_n X 0 d_Mo_take_15 rfl rfl ?_
    refine r_callV X (m_Mo_marks l o (noteI mi c) (noteL ml c) n ((by rw [noteL_n _ _ (by decide)] <;> exact hn)) (by omega)) ok_Mo_marks w_Mo_59 rfl b_95 e_95 rfl ⟨Nat.le_of_ble_eq_true rfl, Nat.le_of_ble_eq_true rfl⟩ (rest := []) rfl (Nat.le_of_ble_eq_true rfl) d_Mo_take_16 ?_
    refine kD (st' := [.int (nI (n))]) rfl ?_
    refine r_iconst X (v := nI (1)) d_Mo_take_19 (by decide) ?_
    refine r_isub X (v := nI (n - 1)) d_Mo_take_20 (pk_sub (by omega)) ?_
    refine r_istore_n X [(2, .int (nI (n - 1))), (0, .ref (ads o (95))), (1, .int (nI (k)))] d_Mo_take_21 rfl (Nat.le_of_ble_eq_true rfl) rfl ?_
    refine r_iload_n X 2 d_Mo_take_22 rfl rfl ?_
    refine r_istore_n X [(3, .int (nI (k))), (2, .int (nI (n - 1))), (0, .ref (ads o (95))), (1, .int (nI (k)))] d_Mo_take_23 rfl (Nat.le_of_ble_eq_true rfl) rfl ?_
    have L24_1 : ∀ (d_i i : Nat), i + d_i = n - 1 - k → V γ o 4 (shL (noteI mi c) 97 k 1 (i)) (shL (noteL ml c) 96 (3 + k) 1 (i)) 24 [(0, .ref (ads o (95))), (1, .int (nI (k))), (2, .int (nI (n - 1))), (3, .int (nI (k + i)))] [] := by
      intro d_i
      induction d_i with
      | zero =>
        intro i hi_L24_1 
        have he_L24_1 : n - 1 - k = i := by omega
        subst he_L24_1
        refine r_iload_n X 3 d_Mo_take_24 rfl rfl ?_
        refine r_iload_n X 2 d_Mo_take_25 rfl rfl ?_
        refine r_icge X (tgt := 65) (c := (n - 1) ≤ (k + (n - 1 - k))) d_Mo_take_26 (by decide) (nI_leI (by omega) (by omega)) (fun c_26 => ?_) (fun c_26 => ?_)
        · -- taken
          refine r_aload_n X 0 d_Mo_take_65 rfl rfl ?_
          refine r_get X f_Mo_7 b_95 e_95 (v := .ref (ads o (96))) rfl d_Mo_take_66 ?_
          refine r_iconst X (v := nI (3)) d_Mo_take_69 (by decide) ?_
          refine r_iload_n X 2 d_Mo_take_70 rfl rfl ?_
          refine r_iadd X (v := nI (3 + (n - 1))) d_Mo_take_71 (nI_add _ _) ?_
          refine r_lconst X (v := 0) d_Mo_take_72 (by decide) ?_
          refine r_last X b_96 e_96 (Nat.le_of_ble_eq_true rfl) (by omega) d_Mo_take_73 ?_
          refine r_aload_n X 0 d_Mo_take_74 rfl rfl ?_
          refine r_get X f_Mo_13 b_95 e_95 (v := .ref (ads o (97))) rfl d_Mo_take_75 ?_
          refine r_iload_n X 2 d_Mo_take_78 rfl rfl ?_
          refine r_iconst X (v := nI (0)) d_Mo_take_79 (by decide) ?_
          refine r_iast X b_97 e_97 (Nat.le_of_ble_eq_true rfl) (by omega) d_Mo_take_80 ?_
          refine r_aload_n X 0 d_Mo_take_81 rfl rfl ?_
          refine r_get X f_Mo_7 b_95 e_95 (v := .ref (ads o (96))) rfl d_Mo_take_82 ?_
          refine r_iconst X (v := nI (2)) d_Mo_take_85 (by decide) ?_
          refine r_dup2_11 X d_Mo_take_86 rfl rfl ?_
          refine r_lald X (v := lN (n)) b_96 e_96 (Nat.le_of_ble_eq_true rfl) (by omega) ((by rw [u2_s, uf_n _ _ (by omega)] <;> exact (by rw [shL_out _ (by omega), noteL_n _ _ (by decide)]; exact hn))) d_Mo_take_87 ?_
          refine r_lconst X (v := 1) d_Mo_take_88 (by decide) ?_
          refine r_lsub X (v := lN (n - 1)) d_Mo_take_89 (lN_sub (a := n) (b := 1) (by omega)) ?_
          refine r_last X b_96 e_96 (Nat.le_of_ble_eq_true rfl) (by omega) d_Mo_take_90 ?_
          refine r_iload_n X 2 d_Mo_take_91 rfl rfl ?_
          refine r_end_i X d_Mo_take_92 ?_
          exact ⟨rfl, rfl, rfl⟩
        · -- not taken
          exact False.elim (by omega)
      | succ d_i ih_L24_1 =>
        intro i hi_L24_1 
        have hlt_L24_1 : i < n - 1 - k := by omega
        refine r_iload_n X 3 d_Mo_take_24 rfl rfl ?_
        refine r_iload_n X 2 d_Mo_take_25 rfl rfl ?_
        refine r_icge X (tgt := 65) (c := (n - 1) ≤ (k + i)) d_Mo_take_26 (by decide) (nI_leI (by omega) (by omega)) (fun c_26_2 => ?_) (fun c_26_2 => ?_)
        · -- taken
          exact False.elim (by omega)
        · -- not taken
          refine r_aload_n X 0 d_Mo_take_29 rfl rfl ?_
          refine r_get X f_Mo_7 b_95 e_95 (v := .ref (ads o (96))) rfl d_Mo_take_30 ?_
          refine r_iconst X (v := nI (3)) d_Mo_take_33 (by decide) ?_
          refine r_iload_n X 3 d_Mo_take_34 rfl rfl ?_
          refine r_iadd X (v := nI (3 + (k + i))) d_Mo_take_35 (nI_add _ _) ?_
          refine r_aload_n X 0 d_Mo_take_36 rfl rfl ?_
          refine r_get X f_Mo_7 b_95 e_95 (v := .ref (ads o (96))) rfl d_Mo_take_37 ?_
          refine r_iconst X (v := nI (4)) d_Mo_take_40 (by decide) ?_
          refine r_iload_n X 3 d_Mo_take_41 rfl rfl ?_
          refine r_iadd X (v := nI (4 + (k + i))) d_Mo_take_42 (nI_add _ _) ?_
          refine r_lald X (v := (shL (noteL ml c) 96 (3 + k) 1 (i)) 96 (4 + (k + i))) b_96 e_96 (Nat.le_of_ble_eq_true rfl) (by omega) rfl d_Mo_take_43 ?_
          refine r_last X b_96 e_96 (Nat.le_of_ble_eq_true rfl) (by omega) d_Mo_take_44 ?_
          refine r_aload_n X 0 d_Mo_take_45 rfl rfl ?_
          refine r_get X f_Mo_13 b_95 e_95 (v := .ref (ads o (97))) rfl d_Mo_take_46 ?_
          refine r_iload_n X 3 d_Mo_take_49 rfl rfl ?_
          refine r_aload_n X 0 d_Mo_take_50 rfl rfl ?_
          refine r_get X f_Mo_13 b_95 e_95 (v := .ref (ads o (97))) rfl d_Mo_take_51 ?_
          refine r_iload_n X 3 d_Mo_take_54 rfl rfl ?_
          refine r_iconst X (v := nI (1)) d_Mo_take_55 (by decide) ?_
          refine r_iadd X (v := nI (k + i + 1)) d_Mo_take_56 (nI_add _ _) ?_
          refine r_iald X (v := ((shL (noteI mi c) 97 k 1 (i)) 97 (k + i + 1))) b_97 e_97 (Nat.le_of_ble_eq_true rfl) (by omega) rfl d_Mo_take_57 ?_
          refine r_iast X b_97 e_97 (Nat.le_of_ble_eq_true rfl) (by omega) d_Mo_take_58 ?_
          refine r_iinc X 3 (v := nI (k + i + 1)) [(3, .int (nI (k + i + 1))), (0, .ref (ads o (95))), (1, .int (nI (k))), (2, .int (nI (n - 1)))] d_Mo_take_59 rfl (nI_add _ 1) (Nat.le_of_ble_eq_true rfl) rfl ?_
          refine r_goto X (tgt := 24) d_Mo_take_62 (by decide) ?_
          refine V.wk [1, 2, 3, 0] (V.eq (ih_L24_1 (i + 1) (by omega) ) ?_ ?_ ?_ rfl) (rfl : lv_pick _ [1, 2, 3, 0] = [(0, .ref (ads o (95))), (1, .int (nI (k))), (2, .int (nI (n - 1))), (3, .int (nI (k + i + 1)))])
          · exact shL_step _ (by decide) (by omega) (by omega)
          · exact shL_step _ (by decide) (by omega) (by omega)
          · rfl
    refine V.wk [2, 3, 1, 0] (V.eq (L24_1 ((n - 1 - k) - 0) 0 (by omega) ) ?_ ?_ ?_ rfl) (rfl : lv_pick _ [2, 3, 1, 0] = [(0, .ref (ads o (95))), (1, .int (nI (k))), (2, .int (nI (n - 1))), (3, .int (nI (k)))])
    · exact shL_0 _ _ _ _
    · exact shL_0 _ _ _ _
    · rfl
  · -- not taken
    exact False.elim (by rw [isMk_nI (by omega) (by omega)] at c_5; simp at c_5; omega)

set_option maxHeartbeats 4000000 in
set_option maxRecDepth 100000 in
theorem m_Mo_take_u (l : Launch) (o : OM) (mi : MI) (ml : ML) (k : Int32) (n : Nat) (hn : ml 96 2 = lN n) (hn40 : n ≤ 40) (hu : isMk n k = false) : ConD l y_Mo_take c_Mo_take 4 (some .int) 8 270 o [.ref (ads o (95)), .int (k)] mi ml (some (.int (((-1000000001 : Int32))))) mi ml := by
  refine Con.mk (by decide) (Nat.le_of_ble_eq_true rfl) (fun γ X => ?_)
  show V γ o 4 mi ml 0 [(0, .ref (ads o (95))), (1, .int (k))] []
  refine r_aload_n X 0 d_Mo_take_0 rfl rfl ?_
  refine r_iload_n X 1 d_Mo_take_1 rfl rfl ?_
  refine r_callV X (m_Mo_isMark l o mi ml k n (hn) hn40) ok_Mo_isMark w_Mo_114 rfl b_95 e_95 rfl ⟨Nat.le_of_ble_eq_true rfl, Nat.le_of_ble_eq_true rfl⟩ (rest := []) rfl (Nat.le_of_ble_eq_true rfl) d_Mo_take_2 ?_
  refine kD (st' := [.int (bI (isMk n k))]) rfl ?_
  refine r_ifneB X (tgt := 11) (b := isMk n k) d_Mo_take_5 (by decide) (fun c_5 => ?_) (fun c_5 => ?_)
  · -- taken
    exact False.elim (by rw [hu] at c_5; cases c_5)
  · -- not taken
    refine r_ldc X (v := ((-1000000001 : Int32))) k_Mo_145 (by decide) d_Mo_take_8 ?_
    refine r_end_i X d_Mo_take_10 ?_
    first | exact ⟨rfl, rfl, rfl⟩ | (refine ⟨?_, rfl, rfl⟩; simp_all)

set_option maxHeartbeats 4000000 in
set_option maxRecDepth 100000 in
theorem m_Mo_kind_i (l : Launch) (o : OM) (mi : MI) (ml : ML) (k : Nat) (q : Nat) (n : Nat) (c : Nat) (hn : ml 96 2 = lN n) (hn40 : n ≤ 40) (hc : mi 95 2 = nI c) (hc20 : c ≤ 20) (hk : k < n) (hq : q < 3) : ConD l y_Mo_kind c_Mo_kind 4 (some .int) 8 270 o [.ref (ads o (95)), .int (nI (k)), .int (nI (q))] mi ml (some (.int ((noteI mi c 97 k)))) (u2 (noteI mi c) 97 k (nI q)) (noteL ml c) := by
  refine Con.mk (by decide) (Nat.le_of_ble_eq_true rfl) (fun γ X => ?_)
  show V γ o 4 mi ml 0 [(0, .ref (ads o (95))), (1, .int (nI (k))), (2, .int (nI (q)))] []
  refine r_aload_n X 0 d_Mo_kind_0 rfl rfl ?_
  refine r_iload_n X 1 d_Mo_kind_1 rfl rfl ?_
  refine r_callV X (m_Mo_isMark l o mi ml (nI (k)) n (hn) hn40) ok_Mo_isMark w_Mo_114 rfl b_95 e_95 rfl ⟨Nat.le_of_ble_eq_true rfl, Nat.le_of_ble_eq_true rfl⟩ (rest := []) rfl (Nat.le_of_ble_eq_true rfl) d_Mo_kind_2 ?_
  refine kD (st' := [.int (bI (isMk n (nI (k))))]) rfl ?_
  refine r_ifneB X (tgt := 11) (b := isMk n (nI (k))) d_Mo_kind_5 (by decide) (fun c_5 => ?_) (fun c_5 => ?_)
  · -- taken
    refine r_iload_n X 2 d_Mo_kind_11 rfl rfl ?_
    refine r_i2l X (v := lN (q)) d_Mo_kind_12 (nI_l (by omega)) ?_
    refine r_lconst X (v := 0) d_Mo_kind_13 (by decide) ?_
    refine r_ldc2 X (v := (2 : Int64)) k_Mo_173 d_Mo_kind_14 ?_
    refine r_callS X (m_Mo_in l o mi ml (lN (q)) 0 (2 : Int64)) ok_Mo_in w_Mo_63 rfl ⟨Nat.le_of_ble_eq_true rfl, Nat.le_of_ble_eq_true rfl⟩ (rest := []) rfl (Nat.le_of_ble_eq_true rfl) d_Mo_kind_17 ?_
    refine kD (st' := [.int (bI (!decide ((lN (q)) < 0) && !decide ((2 : Int64) < (lN (q)))))]) rfl ?_
    refine r_ifneB X (tgt := 26) (b := !decide ((lN (q)) < 0) && !decide ((2 : Int64) < (lN (q)))) d_Mo_kind_20 (by decide) (fun c_20 => ?_) (fun c_20 => ?_)
    · -- taken
      refine r_aload_n X 0 d_Mo_kind_26 rfl rfl ?_
      refine r_callV X (m_Mo_note l o mi ml c (hc) hc20) ok_Mo_note w_Mo_163 rfl b_95 e_95 rfl ⟨Nat.le_of_ble_eq_true rfl, Nat.le_of_ble_eq_true rfl⟩ (rest := []) rfl (Nat.le_of_ble_eq_true rfl) d_Mo_kind_27 ?_
      refine kD (st' := []) rfl ?_
      refine r_aload_n X 0 d_Mo_kind_30 rfl rfl ?_
      refine r_get X f_Mo_13 b_95 e_95 (v := .ref (ads o (97))) rfl d_Mo_kind_31 ?_
      refine r_iload_n X 1 d_Mo_kind_34 rfl rfl ?_
      refine r_iald X (v := ((noteI mi c) 97 k)) b_97 e_97 (Nat.le_of_ble_eq_true rfl) (by omega) rfl d_Mo_kind_35 ?_
      refine r_istore_n X [(3, .int (((noteI mi c) 97 k))), (0, .ref (ads o (95))), (1, .int (nI (k))), (2, .int (nI (q)))] d_Mo_kind_36 rfl (Nat.le_of_ble_eq_true rfl) rfl ?_
      refine r_aload_n X 1 d_Mo_kind_37 rfl rfl ?_
      refine r_get X f_Mo_13 b_95 e_95 (v := .ref (ads o (97))) rfl d_Mo_kind_38 ?_
      refine r_iload_n X 2 d_Mo_kind_41 rfl rfl ?_
      refine r_iload_n X 3 d_Mo_kind_42 rfl rfl ?_
      refine r_iast X b_97 e_97 (Nat.le_of_ble_eq_true rfl) (by omega) d_Mo_kind_43 ?_
      refine r_iload_n X 0 d_Mo_kind_44 rfl rfl ?_
      refine r_end_i X d_Mo_kind_45 ?_
      exact ⟨rfl, rfl, rfl⟩
    · -- not taken
      exact False.elim (by have e := in_nat (a := 0) (j := q) (m := 2) (by omega) (by omega) (by decide); exact absurd (c_20.symm.trans e) (by decide))
  · -- not taken
    exact False.elim (by rw [isMk_nI (by omega) (by omega)] at c_5; simp at c_5; omega)

set_option maxHeartbeats 4000000 in
set_option maxRecDepth 100000 in
theorem m_Mo_kind_u (l : Launch) (o : OM) (mi : MI) (ml : ML) (k : Int32) (q : Int32) (n : Nat) (hn : ml 96 2 = lN n) (hn40 : n ≤ 40) (hu : isMk n k = false) : ConD l y_Mo_kind c_Mo_kind 4 (some .int) 8 270 o [.ref (ads o (95)), .int (k), .int (q)] mi ml (some (.int (((-1000000001 : Int32))))) mi ml := by
  refine Con.mk (by decide) (Nat.le_of_ble_eq_true rfl) (fun γ X => ?_)
  show V γ o 4 mi ml 0 [(0, .ref (ads o (95))), (1, .int (k)), (2, .int (q))] []
  refine r_aload_n X 0 d_Mo_kind_0 rfl rfl ?_
  refine r_iload_n X 1 d_Mo_kind_1 rfl rfl ?_
  refine r_callV X (m_Mo_isMark l o mi ml k n (hn) hn40) ok_Mo_isMark w_Mo_114 rfl b_95 e_95 rfl ⟨Nat.le_of_ble_eq_true rfl, Nat.le_of_ble_eq_true rfl⟩ (rest := []) rfl (Nat.le_of_ble_eq_true rfl) d_Mo_kind_2 ?_
  refine kD (st' := [.int (bI (isMk n k))]) rfl ?_
  refine r_ifneB X (tgt := 11) (b := isMk n k) d_Mo_kind_5 (by decide) (fun c_5 => ?_) (fun c_5 => ?_)
  · -- taken
    exact False.elim (by rw [hu] at c_5; cases c_5)
  · -- not taken
    refine r_ldc X (v := ((-1000000001 : Int32))) k_Mo_145 (by decide) d_Mo_kind_8 ?_
    refine r_end_i X d_Mo_kind_10 ?_
    first | exact ⟨rfl, rfl, rfl⟩ | (refine ⟨?_, rfl, rfl⟩; simp_all)

set_option maxHeartbeats 4000000 in
set_option maxRecDepth 100000 in
theorem m_Mo_kind_o (l : Launch) (o : OM) (mi : MI) (ml : ML) (k : Nat) (q : Int32) (n : Nat) (hn : ml 96 2 = lN n) (hn40 : n ≤ 40) (hk : k < n) (hq : q < nI 0 ∨ nI 2 < q) : ConD l y_Mo_kind c_Mo_kind 4 (some .int) 8 270 o [.ref (ads o (95)), .int (nI (k)), .int (q)] mi ml (some (.int (((-1000000002 : Int32))))) mi ml := by
  refine Con.mk (by decide) (Nat.le_of_ble_eq_true rfl) (fun γ X => ?_)
  show V γ o 4 mi ml 0 [(0, .ref (ads o (95))), (1, .int (nI (k))), (2, .int (q))] []
  refine r_aload_n X 0 d_Mo_kind_0 rfl rfl ?_
  refine r_iload_n X 1 d_Mo_kind_1 rfl rfl ?_
  refine r_callV X (m_Mo_isMark l o mi ml (nI (k)) n (hn) hn40) ok_Mo_isMark w_Mo_114 rfl b_95 e_95 rfl ⟨Nat.le_of_ble_eq_true rfl, Nat.le_of_ble_eq_true rfl⟩ (rest := []) rfl (Nat.le_of_ble_eq_true rfl) d_Mo_kind_2 ?_
  refine kD (st' := [.int (bI (isMk n (nI (k))))]) rfl ?_
  refine r_ifneB X (tgt := 11) (b := isMk n (nI (k))) d_Mo_kind_5 (by decide) (fun c_5 => ?_) (fun c_5 => ?_)
  · -- taken
    refine r_iload_n X 2 d_Mo_kind_11 rfl rfl ?_
    refine r_i2l X (v := (q).toInt64) d_Mo_kind_12 (rfl) ?_
    refine r_lconst X (v := 0) d_Mo_kind_13 (by decide) ?_
    refine r_ldc2 X (v := (2 : Int64)) k_Mo_173 d_Mo_kind_14 ?_
    refine r_callS X (m_Mo_in l o mi ml ((q).toInt64) 0 (2 : Int64)) ok_Mo_in w_Mo_63 rfl ⟨Nat.le_of_ble_eq_true rfl, Nat.le_of_ble_eq_true rfl⟩ (rest := []) rfl (Nat.le_of_ble_eq_true rfl) d_Mo_kind_17 ?_
    refine kD (st' := [.int (bI (!decide (((q).toInt64) < 0) && !decide ((2 : Int64) < ((q).toInt64))))]) rfl ?_
    refine r_ifneB X (tgt := 26) (b := !decide (((q).toInt64) < 0) && !decide ((2 : Int64) < ((q).toInt64))) d_Mo_kind_20 (by decide) (fun c_20 => ?_) (fun c_20 => ?_)
    · -- taken
      exact False.elim (by have e := in_out (a := 0) (m := 2) (by decide) (by decide) hq; exact absurd (c_20.symm.trans e) (by decide))
    · -- not taken
      refine r_ldc X (v := ((-1000000002 : Int32))) k_Mo_144 (by decide) d_Mo_kind_23 ?_
      refine r_end_i X d_Mo_kind_25 ?_
      first | exact ⟨rfl, rfl, rfl⟩ | (refine ⟨?_, rfl, rfl⟩; simp_all)
  · -- not taken
    exact False.elim (by rw [isMk_nI (by omega) (by omega)] at c_5; simp at c_5; omega)
