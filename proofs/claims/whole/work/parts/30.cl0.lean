set_option maxHeartbeats 4000000 in
set_option maxRecDepth 100000 in
theorem m_Lg_bitCount_n (l : Launch) (o : OM) (mi : MI) (ml : ML) (D : Nat) (hD : D < 2 ^ 64) : ConD l y_Lg_bitCount c_Lg_bitCount 2 (some .int) 0 0 o [.long (lN D)] mi ml (some (.int (nI (pop (lN D))))) mi ml := by
  refine Con.mk (by decide) (Nat.le_of_ble_eq_true rfl) (fun γ X => ?_)
  obtain ⟨g1, g2, g3⟩ := q_le D hD
  have g4 : qq 8 D < 2 ^ 63 := by unfold qq q3; exact Nat.lt_of_le_of_lt Nat.and_le_right (by decide)
  show V γ o 2 mi ml 0 [(0, .long (lN D))] []
  refine r_lload_n X 0 d_Lg_bitCount_0 rfl rfl ?_
  refine r_lload_n X 0 d_Lg_bitCount_1 rfl rfl ?_
  refine r_iconst X (v := nI (1)) d_Lg_bitCount_2 (by decide) ?_
  refine r_lushr X (v := lN (D / 2)) d_Lg_bitCount_3 (ushr_lN (X := D) (k := 1) (hD) (by decide)) ?_
  refine r_ldc2 X (v := (6148914691236517205 : Int64)) k_Lg_314 d_Lg_bitCount_4 ?_
  refine r_land X (v := lN ((D / 2) &&& mk8 85 8)) d_Lg_bitCount_7 (by rw [show (6148914691236517205 : Int64) = lN (mk8 85 8) from by decide]; exact lN_land _ _) ?_
  refine r_lsub X (v := lN (q1 8 D)) d_Lg_bitCount_8 (lN_sub g3) ?_
  refine r_lstore_n X [(0, .long (lN (q1 8 D)))] d_Lg_bitCount_9 rfl (Nat.le_of_ble_eq_true rfl) rfl ?_
  refine r_lload_n X 0 d_Lg_bitCount_10 rfl rfl ?_
  refine r_ldc2 X (v := (3689348814741910323 : Int64)) k_Lg_316 d_Lg_bitCount_11 ?_
  refine r_land X (v := lN ((q1 8 D) &&& mk8 51 8)) d_Lg_bitCount_14 (by rw [show (3689348814741910323 : Int64) = lN (mk8 51 8) from by decide]; exact lN_land _ _) ?_
  refine r_lload_n X 0 d_Lg_bitCount_15 rfl rfl ?_
  refine r_iconst X (v := nI (2)) d_Lg_bitCount_16 (by decide) ?_
  refine r_lushr X (v := lN ((q1 8 D) / 4)) d_Lg_bitCount_17 (ushr_lN (X := (q1 8 D)) (k := 2) (g1) (by decide)) ?_
  refine r_ldc2 X (v := (3689348814741910323 : Int64)) k_Lg_316 d_Lg_bitCount_18 ?_
  refine r_land X (v := lN ((q1 8 D / 4) &&& mk8 51 8)) d_Lg_bitCount_21 (by rw [show (3689348814741910323 : Int64) = lN (mk8 51 8) from by decide]; exact lN_land _ _) ?_
  refine r_ladd X (v := lN (q2 8 (q1 8 D))) d_Lg_bitCount_22 (lN_add _ _) ?_
  refine r_lstore_n X [(0, .long (lN (q2 8 (q1 8 D))))] d_Lg_bitCount_23 rfl (Nat.le_of_ble_eq_true rfl) rfl ?_
  refine r_lload_n X 0 d_Lg_bitCount_24 rfl rfl ?_
  refine r_lload_n X 0 d_Lg_bitCount_25 rfl rfl ?_
  refine r_iconst X (v := nI (4)) d_Lg_bitCount_26 (by decide) ?_
  refine r_lushr X (v := lN ((q2 8 (q1 8 D)) / 16)) d_Lg_bitCount_27 (ushr_lN (X := (q2 8 (q1 8 D))) (k := 4) (by omega) (by decide)) ?_
  refine r_ladd X (v := lN (q2 8 (q1 8 D) + q2 8 (q1 8 D) / 16)) d_Lg_bitCount_28 (lN_add _ _) ?_
  refine r_ldc2 X (v := (1085102592571150095 : Int64)) k_Lg_318 d_Lg_bitCount_29 ?_
  refine r_land X (v := lN (qq 8 D)) d_Lg_bitCount_32 (by rw [show (1085102592571150095 : Int64) = lN (mk8 15 8) from by decide]; exact lN_land _ _) ?_
  refine r_lstore_n X [(0, .long (lN (qq 8 D)))] d_Lg_bitCount_33 rfl (Nat.le_of_ble_eq_true rfl) rfl ?_
  refine r_lload_n X 0 d_Lg_bitCount_34 rfl rfl ?_
  refine r_lload_n X 0 d_Lg_bitCount_35 rfl rfl ?_
  refine r_bipush X (v := nI (8)) d_Lg_bitCount_36 (by decide) ?_
  refine r_lushr X (v := lN ((qq 8 D) / 256)) d_Lg_bitCount_38 (ushr_lN (X := (qq 8 D)) (k := 8) (by omega) (by decide)) ?_
  refine r_ladd X (v := lN (qq 8 D + qq 8 D / 256)) d_Lg_bitCount_39 (lN_add _ _) ?_
  refine r_lstore_n X [(0, .long (lN (qq 8 D + qq 8 D / 256)))] d_Lg_bitCount_40 rfl (Nat.le_of_ble_eq_true rfl) rfl ?_
  refine r_lload_n X 0 d_Lg_bitCount_41 rfl rfl ?_
  refine r_lload_n X 0 d_Lg_bitCount_42 rfl rfl ?_
  refine r_bipush X (v := nI (16)) d_Lg_bitCount_43 (by decide) ?_
  refine r_lushr X (v := lN ((qq 8 D + qq 8 D / 256) / 65536)) d_Lg_bitCount_45 (ushr_lN (X := (qq 8 D + qq 8 D / 256)) (k := 16) (by omega) (by decide)) ?_
  refine r_ladd X (v := lN ((qq 8 D + qq 8 D / 256) + (qq 8 D + qq 8 D / 256) / 65536)) d_Lg_bitCount_46 (lN_add _ _) ?_
  refine r_lstore_n X [(0, .long (lN ((qq 8 D + qq 8 D / 256) + (qq 8 D + qq 8 D / 256) / 65536)))] d_Lg_bitCount_47 rfl (Nat.le_of_ble_eq_true rfl) rfl ?_
  refine r_lload_n X 0 d_Lg_bitCount_48 rfl rfl ?_
  refine r_lload_n X 0 d_Lg_bitCount_49 rfl rfl ?_
  refine r_bipush X (v := nI (32)) d_Lg_bitCount_50 (by decide) ?_
  refine r_lushr X (v := lN (((qq 8 D + qq 8 D / 256) + (qq 8 D + qq 8 D / 256) / 65536) / 4294967296)) d_Lg_bitCount_52 (ushr_lN (X := ((qq 8 D + qq 8 D / 256) + (qq 8 D + qq 8 D / 256) / 65536)) (k := 32) (by omega) (by decide)) ?_
  refine r_ladd X (v := lN (((qq 8 D + qq 8 D / 256) + (qq 8 D + qq 8 D / 256) / 65536) + ((qq 8 D + qq 8 D / 256) + (qq 8 D + qq 8 D / 256) / 65536) / 4294967296)) d_Lg_bitCount_53 (lN_add _ _) ?_
  refine r_lstore_n X [(0, .long (lN (((qq 8 D + qq 8 D / 256) + (qq 8 D + qq 8 D / 256) / 65536) + ((qq 8 D + qq 8 D / 256) + (qq 8 D + qq 8 D / 256) / 65536) / 4294967296)))] d_Lg_bitCount_54 rfl (Nat.le_of_ble_eq_true rfl) rfl ?_
  refine r_lload_n X 0 d_Lg_bitCount_55 rfl rfl ?_
  refine r_l2i X (v := nI ((((qq 8 D + qq 8 D / 256) + (qq 8 D + qq 8 D / 256) / 65536) + ((qq 8 D + qq 8 D / 256) + (qq 8 D + qq 8 D / 256) / 65536) / 4294967296))) d_Lg_bitCount_56 (lN_i _) ?_
  refine r_bipush X (v := nI (127)) d_Lg_bitCount_57 (by decide) ?_
  refine r_iand X (v := nI ((((qq 8 D + qq 8 D / 256) + (qq 8 D + qq 8 D / 256) / 65536) + ((qq 8 D + qq 8 D / 256) + (qq 8 D + qq 8 D / 256) / 65536) / 4294967296) % 128)) d_Lg_bitCount_59 (nI_127 _) ?_
  refine r_end_i X d_Lg_bitCount_60 ?_
  refine ⟨?_, rfl, rfl⟩; exact congrArg (fun z => some (Value.int z)) (bc_end hD rfl rfl rfl)
theorem m_Lg_bitCount (l : Launch) (o : OM) (mi : MI) (ml : ML) (x : Int64) : ConD l y_Lg_bitCount c_Lg_bitCount 2 (some .int) 0 0 o [.long (x)] mi ml (some (.int (nI (pop x)))) mi ml := by
  have h := m_Lg_bitCount_n l o mi ml x.toBitVec.toNat x.toBitVec.isLt
  rw [lN_of x] at h
  exact h
