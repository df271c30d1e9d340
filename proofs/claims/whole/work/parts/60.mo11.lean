set_option maxHeartbeats 4000000 in
set_option maxRecDepth 100000 in
theorem m_Mo_draw (l : Launch) (o : OM) (mi : MI) (ml : ML) (m : Nat) (z : Nat) (hz : mi 95 9 = nI z) (hz31 : z < 2147483648) (hm : 0 < m) (hm2 : m < 2147483648) : ConD l y_Mo_draw c_Mo_draw 2 (some .int) 0 0 o [.ref (ads o (95)), .int (nI (m))] mi ml (some (.int (nI (nxt z / 65536 % m)))) (u2 mi 95 9 (nI (nxt z))) ml := by
  refine Con.mk (by decide) (Nat.le_of_ble_eq_true rfl) (fun γ X => ?_)
  have hnx := nxt_lt z
  show V γ o 2 mi ml 0 [(0, .ref (ads o (95))), (1, .int (nI (m)))] []
  refine r_aload_n X 0 d_Mo_draw_0 rfl rfl ?_
  refine r_aload_n X 0 d_Mo_draw_1 rfl rfl ?_
  refine r_get X f_Mo_181 b_95 e_95 (v := .int (nI (z))) (congrArg (fun z => some (Value.int z)) (hz)) d_Mo_draw_2 ?_
  refine r_i2l X (v := lN z) d_Mo_draw_5 (nI_l (by omega)) ?_
  refine r_ldc2 X (v := (1103515245 : Int64)) k_Mo_184 d_Mo_draw_6 ?_
  refine r_lmul X (v := lN (z * 1103515245)) d_Mo_draw_9 (lN_mul _ _) ?_
  refine r_ldc2 X (v := (12345 : Int64)) k_Mo_186 d_Mo_draw_10 ?_
  refine r_ladd X (v := lN (z * 1103515245 + 12345)) d_Mo_draw_13 (lN_add _ _) ?_
  refine r_ldc2 X (v := (2147483648 : Int64)) k_Mo_188 d_Mo_draw_14 ?_
  refine r_lrem X (v := lN (nxt z)) d_Mo_draw_17 (by decide) (pk_lRem (a := z * 1103515245 + 12345) (b := 2147483648) (by omega) (by decide) (by decide)) ?_
  refine r_l2i X (v := nI (nxt z)) d_Mo_draw_18 (lN_i _) ?_
  refine r_putI X fw_Mo_181 b_95 e_95 (fun _ _ => rfl) (Nat.le_of_ble_eq_true rfl) d_Mo_draw_19 ?_
  refine r_aload_n X 0 d_Mo_draw_22 rfl rfl ?_
  refine r_get X f_Mo_181 b_95 e_95 (v := .int (nI (nxt z))) (congrArg (fun z => some (Value.int z)) ((by rw [u2_s, uf_s]))) d_Mo_draw_23 ?_
  refine r_ldc X (v := nI (65536)) k_Mo_190 (by decide) d_Mo_draw_26 ?_
  refine r_idiv X (v := nI ((nxt z) / (65536))) d_Mo_draw_28 (nI_ne0 (by omega) (Nat.le_of_ble_eq_true rfl)) (pk_div (nxt_lt _) (by omega) (Nat.le_of_ble_eq_true rfl)) ?_
  refine r_iload_n X 1 d_Mo_draw_29 rfl rfl ?_
  refine r_irem X (v := nI (((nxt z) / (65536)) % (m))) d_Mo_draw_30 (nI_ne0 (by omega) (by omega)) (pk_rem (by omega) (by omega) (by omega)) ?_
  refine r_end_i X d_Mo_draw_31 ?_
  exact ⟨rfl, rfl, rfl⟩

set_option maxHeartbeats 4000000 in
set_option maxRecDepth 100000 in
theorem m_Mo_lot (l : Launch) (o : OM) (mi : MI) (ml : ML) (n : Nat) (c : Nat) (z : Nat) (hn : ml 96 2 = lN n) (hn40 : n ≤ 40) (hc : mi 95 2 = nI c) (hc20 : c ≤ 20) (hz : mi 95 9 = nI z) (hz31 : z < 2147483648) : ConD l y_Mo_lot c_Mo_lot 8 none 2 45 o [.ref (ads o (95))] mi ml none (lotI mi ml c n z) (lotL ml c n z) := by
  refine Con.mk (by decide) (Nat.le_of_ble_eq_true rfl) (fun γ X => ?_)
  have hx1 := nxt_lt z
  have hx2 := nxt_lt (nxt z)
  have hx3 := nxt_lt (nxt (nxt z))
  show V γ o 8 mi ml 0 [(0, .ref (ads o (95)))] []
  refine r_aload_n X 0 d_Mo_lot_0 rfl rfl ?_
  refine r_callV X (m_Mo_note l o mi ml c (hc) hc20) ok_Mo_note w_Mo_163 rfl b_95 e_95 rfl ⟨Nat.le_of_ble_eq_true rfl, Nat.le_of_ble_eq_true rfl⟩ (rest := []) rfl (Nat.le_of_ble_eq_true rfl) d_Mo_lot_1 ?_
  refine kD (st' := []) rfl ?_
  refine r_aload_n X 0 d_Mo_lot_4 rfl rfl ?_
  refine r_iconst X (v := nI (4)) d_Mo_lot_5 (by decide) ?_
  refine r_callV X (m_Mo_draw l o (noteI mi c) (noteL ml c) 4 z ((by rw [noteI_95 _ _ (by decide)] <;> exact hz)) (by omega) (by omega) (by omega)) ok_Mo_draw w_Mo_191 rfl b_95 e_95 rfl ⟨Nat.le_of_ble_eq_true rfl, Nat.le_of_ble_eq_true rfl⟩ (rest := []) rfl (Nat.le_of_ble_eq_true rfl) d_Mo_lot_6 ?_
  refine kD (st' := [.int (nI (nxt z / 65536 % 4))]) rfl ?_
  refine r_istore_n X [(1, .int (nI (nxt z / 65536 % 4))), (0, .ref (ads o (95)))] d_Mo_lot_9 rfl (Nat.le_of_ble_eq_true rfl) rfl ?_
  refine r_iload_n X 0 d_Mo_lot_10 rfl rfl ?_
  refine r_ifneP X (tgt := 79) (c := (nxt z / 65536 % 4) = 0) d_Mo_lot_11 (by decide) ((by rw [← nI_0] <;> exact nI_eq (by omega) (Nat.le_of_ble_eq_true rfl))) (fun c_11 => ?_) (fun c_11 => ?_)
  · -- taken
    refine r_iload_n X 0 d_Mo_lot_79 rfl rfl ?_
    refine r_iconst X (v := nI (1)) d_Mo_lot_80 (by decide) ?_
    refine r_iceq X (tgt := 89) (c := (nxt z / 65536 % 4) = 1) d_Mo_lot_81 (by decide) (nI_eq (by omega) (Nat.le_of_ble_eq_true rfl)) (fun c_81 => ?_) (fun c_81 => ?_)
    · -- taken
      refine r_aload_n X 1 d_Mo_lot_89 rfl rfl ?_
      refine r_get X f_Mo_7 b_95 e_95 (v := .ref (ads o (96))) rfl d_Mo_lot_90 ?_
      refine r_iconst X (v := nI (0)) d_Mo_lot_93 (by decide) ?_
      refine r_aload_n X 1 d_Mo_lot_94 rfl rfl ?_
      refine r_get X f_Mo_7 b_95 e_95 (v := .ref (ads o (96))) rfl d_Mo_lot_95 ?_
      refine r_iconst X (v := nI (0)) d_Mo_lot_98 (by decide) ?_
      refine r_lald X (v := ml 96 0) b_96 e_96 (Nat.le_of_ble_eq_true rfl) (by omega) ((by rw [noteL_n _ _ (by decide)] <;> exact rfl)) d_Mo_lot_99 ?_
      refine r_lconst X (v := 1) d_Mo_lot_100 (by decide) ?_
      refine r_aload_n X 1 d_Mo_lot_101 rfl rfl ?_
      refine r_bipush X (v := nI (64)) d_Mo_lot_102 (by decide) ?_
      refine r_callV X (m_Mo_draw l o (u2 (noteI mi c) 95 9 (nI (nxt z))) (noteL ml c) 64 (nxt z) ((by rw [u2_s, uf_s])) (by omega) (by omega) (by omega)) ok_Mo_draw w_Mo_191 rfl b_95 e_95 rfl ⟨Nat.le_of_ble_eq_true rfl, Nat.le_of_ble_eq_true rfl⟩ (rest := [.long (1), .long (ml 96 0), .int (nI (0)), .ref (ads o (96))]) rfl (Nat.le_of_ble_eq_true rfl) d_Mo_lot_104 ?_
      refine kD (st' := [.int (nI (nxt (nxt z) / 65536 % 64)), .long (1), .long (ml 96 0), .int (nI (0)), .ref (ads o (96))]) rfl ?_
      refine r_lshl X (v := shl (1) (nxt (nxt z) / 65536 % 64)) d_Mo_lot_107 (rfl) ?_
      refine r_lxor X (v := (ml 96 0) ^^^ (shl (1) (nxt (nxt z) / 65536 % 64))) d_Mo_lot_108 (rfl) ?_
      refine r_last X b_96 e_96 (Nat.le_of_ble_eq_true rfl) (by omega) d_Mo_lot_109 ?_
      refine r_aload_n X 1 d_Mo_lot_110 rfl rfl ?_
      refine r_aload_n X 1 d_Mo_lot_111 rfl rfl ?_
      refine r_get X f_Mo_7 b_95 e_95 (v := .ref (ads o (96))) rfl d_Mo_lot_112 ?_
      refine r_iconst X (v := nI (0)) d_Mo_lot_115 (by decide) ?_
      refine r_lald X (v := (ml 96 0) ^^^ (shl (1) (nxt (nxt z) / 65536 % 64))) b_96 e_96 (Nat.le_of_ble_eq_true rfl) (by omega) ((by rw [u2_s, uf_s])) d_Mo_lot_116 ?_
      refine r_callV X (m_Mo_like l o (u2 (u2 (noteI mi c) 95 9 (nI (nxt z))) 95 9 (nI (nxt (nxt z)))) (u2 (noteL ml c) 96 0 ((ml 96 0) ^^^ (shl (1) (nxt (nxt z) / 65536 % 64)))) ((ml 96 0) ^^^ (shl (1) (nxt (nxt z) / 65536 % 64))) n ((by rw [u2_s, uf_n _ _ (by decide)] <;> exact (by rw [noteL_n _ _ (by decide)] <;> exact hn))) (by omega)) ok_Mo_like w_Mo_120 rfl b_95 e_95 rfl ⟨Nat.le_of_ble_eq_true rfl, Nat.le_of_ble_eq_true rfl⟩ (rest := []) rfl (Nat.le_of_ble_eq_true rfl) d_Mo_lot_117 ?_
      refine kD (st' := [.int ((lastB (fun k => decide (oM (u2 (noteL ml c) 96 0 ((ml 96 0) ^^^ (shl (1) (nxt (nxt z) / 65536 % 64)))) k = ((ml 96 0) ^^^ (shl (1) (nxt (nxt z) / 65536 % 64))))) n))]) rfl ?_
      refine r_iconst X (v := ((-1 : Int32))) d_Mo_lot_120 (by decide) ?_
      refine r_icneP X (tgt := 138) (c := (lastB (fun k => decide (oM (u2 (noteL ml c) 96 0 ((ml 96 0) ^^^ (shl (1) (nxt (nxt z) / 65536 % 64)))) k = ((ml 96 0) ^^^ (shl (1) (nxt (nxt z) / 65536 % 64))))) n) = ((-1 : Int32))) d_Mo_lot_121 (by decide) (Iff.rfl) (fun c_121 => ?_) (fun c_121 => ?_)
      · -- taken
        refine r_end_v X d_Mo_lot_138 ?_
        (refine ⟨rfl, ?_⟩; exact (lot_end (h := (ml 96 0) ^^^ (shl (1) (nxt (nxt z) / 65536 % 64))) (Z := nxt (nxt z)) hn40 (by simp_all [lotH, lotW]) (by simp_all [lotZ, lotW])).2 (fun q => by first | exact absurd q.1 (by assumption) | omega) (by rw [u2_u2]) rfl)
      · -- not taken
        refine r_aload_n X 1 d_Mo_lot_124 rfl rfl ?_
        refine r_callV X (m_Mo_marks l o (u2 (u2 (noteI mi c) 95 9 (nI (nxt z))) 95 9 (nI (nxt (nxt z)))) (u2 (noteL ml c) 96 0 ((ml 96 0) ^^^ (shl (1) (nxt (nxt z) / 65536 % 64)))) n ((by rw [u2_s, uf_n _ _ (by decide)] <;> exact (by rw [noteL_n _ _ (by decide)] <;> exact hn))) (by omega)) ok_Mo_marks w_Mo_59 rfl b_95 e_95 rfl ⟨Nat.le_of_ble_eq_true rfl, Nat.le_of_ble_eq_true rfl⟩ (rest := []) rfl (Nat.le_of_ble_eq_true rfl) d_Mo_lot_125 ?_
        refine kD (st' := [.int (nI (n))]) rfl ?_
        refine r_bipush X (v := nI (40)) d_Mo_lot_128 (by decide) ?_
        refine r_icge X (tgt := 138) (c := 40 ≤ n) d_Mo_lot_130 (by decide) (nI_leI (Nat.le_of_ble_eq_true rfl) (by omega)) (fun c_130 => ?_) (fun c_130 => ?_)
        · -- taken
          refine r_end_v X d_Mo_lot_138 ?_
          (refine ⟨rfl, ?_⟩; exact (lot_end (h := (ml 96 0) ^^^ (shl (1) (nxt (nxt z) / 65536 % 64))) (Z := nxt (nxt z)) hn40 (by simp_all [lotH, lotW]) (by simp_all [lotZ, lotW])).2 (fun q => by first | exact absurd q.1 (by assumption) | omega) (by rw [u2_u2]) rfl)
        · -- not taken
          refine r_aload_n X 1 d_Mo_lot_133 rfl rfl ?_
          refine r_iconst X (v := nI (0)) d_Mo_lot_134 (by decide) ?_
          refine r_callV X (m_Mo_add l o (u2 (u2 (noteI mi c) 95 9 (nI (nxt z))) 95 9 (nI (nxt (nxt z)))) (u2 (noteL ml c) 96 0 ((ml 96 0) ^^^ (shl (1) (nxt (nxt z) / 65536 % 64)))) 0 n ((ml 96 0) ^^^ (shl (1) (nxt (nxt z) / 65536 % 64))) ((by rw [u2_s, uf_n _ _ (by decide)] <;> exact (by rw [noteL_n _ _ (by decide)] <;> exact hn))) (by omega) ((by rw [u2_s, uf_s]))) ok_Mo_add w_Mo_177 rfl b_95 e_95 rfl ⟨Nat.le_of_ble_eq_true rfl, Nat.le_of_ble_eq_true rfl⟩ (rest := []) rfl (Nat.le_of_ble_eq_true rfl) d_Mo_lot_135 ?_
          refine kD (st' := []) rfl ?_
          refine r_end_v X d_Mo_lot_138 ?_
          (refine ⟨rfl, ?_⟩; exact (lot_end (h := (ml 96 0) ^^^ (shl (1) (nxt (nxt z) / 65536 % 64))) (Z := nxt (nxt z)) hn40 (by simp_all [lotH, lotW]) (by simp_all [lotZ, lotW])).1 (by assumption) (by omega) (by rw [u2_u2]) rfl)
    · -- not taken
      refine r_iload_n X 0 d_Mo_lot_84 rfl rfl ?_
      refine r_iconst X (v := nI (2)) d_Mo_lot_85 (by decide) ?_
      refine r_icneP X (tgt := 110) (c := (nxt z / 65536 % 4) = 2) d_Mo_lot_86 (by decide) (nI_eq (by omega) (Nat.le_of_ble_eq_true rfl)) (fun c_86 => ?_) (fun c_86 => ?_)
      · -- taken
        refine V.eq (ml' := (u2 (noteL ml c) 96 0 (ml 96 0))) ?_ rfl (by rw [show ml 96 0 = noteL ml c 96 0 from by rw [noteL_n _ _ (by decide)]]; exact u2_same _ _ _) rfl rfl
        refine r_aload_n X 1 d_Mo_lot_110 rfl rfl ?_
        refine r_aload_n X 1 d_Mo_lot_111 rfl rfl ?_
        refine r_get X f_Mo_7 b_95 e_95 (v := .ref (ads o (96))) rfl d_Mo_lot_112 ?_
        refine r_iconst X (v := nI (0)) d_Mo_lot_115 (by decide) ?_
        refine r_lald X (v := ml 96 0) b_96 e_96 (Nat.le_of_ble_eq_true rfl) (by omega) ((by rw [u2_s, uf_s])) d_Mo_lot_116 ?_
        refine r_callV X (m_Mo_like l o (u2 (noteI mi c) 95 9 (nI (nxt z))) (u2 (noteL ml c) 96 0 (ml 96 0)) (ml 96 0) n ((by rw [u2_s, uf_n _ _ (by decide)] <;> exact (by rw [noteL_n _ _ (by decide)] <;> exact hn))) (by omega)) ok_Mo_like w_Mo_120 rfl b_95 e_95 rfl ⟨Nat.le_of_ble_eq_true rfl, Nat.le_of_ble_eq_true rfl⟩ (rest := []) rfl (Nat.le_of_ble_eq_true rfl) d_Mo_lot_117 ?_
        refine kD (st' := [.int ((lastB (fun k => decide (oM (u2 (noteL ml c) 96 0 (ml 96 0)) k = (ml 96 0))) n))]) rfl ?_
        refine r_iconst X (v := ((-1 : Int32))) d_Mo_lot_120 (by decide) ?_
        refine r_icneP X (tgt := 138) (c := (lastB (fun k => decide (oM (u2 (noteL ml c) 96 0 (ml 96 0)) k = (ml 96 0))) n) = ((-1 : Int32))) d_Mo_lot_121 (by decide) (Iff.rfl) (fun c_121_1 => ?_) (fun c_121_1 => ?_)
        · -- taken
          refine r_end_v X d_Mo_lot_138 ?_
          (refine ⟨rfl, ?_⟩; exact (lot_end (h := ml 96 0) (Z := nxt z) hn40 (by simp_all [lotH, lotW]) (by simp_all [lotZ, lotW])).2 (fun q => by first | exact absurd q.1 (by assumption) | omega) rfl rfl)
        · -- not taken
          refine r_aload_n X 1 d_Mo_lot_124 rfl rfl ?_
          refine r_callV X (m_Mo_marks l o (u2 (noteI mi c) 95 9 (nI (nxt z))) (u2 (noteL ml c) 96 0 (ml 96 0)) n ((by rw [u2_s, uf_n _ _ (by decide)] <;> exact (by rw [noteL_n _ _ (by decide)] <;> exact hn))) (by omega)) ok_Mo_marks w_Mo_59 rfl b_95 e_95 rfl ⟨Nat.le_of_ble_eq_true rfl, Nat.le_of_ble_eq_true rfl⟩ (rest := []) rfl (Nat.le_of_ble_eq_true rfl) d_Mo_lot_125 ?_
          refine kD (st' := [.int (nI (n))]) rfl ?_
          refine r_bipush X (v := nI (40)) d_Mo_lot_128 (by decide) ?_
          refine r_icge X (tgt := 138) (c := 40 ≤ n) d_Mo_lot_130 (by decide) (nI_leI (Nat.le_of_ble_eq_true rfl) (by omega)) (fun c_130_2 => ?_) (fun c_130_2 => ?_)
          · -- taken
            refine r_end_v X d_Mo_lot_138 ?_
            (refine ⟨rfl, ?_⟩; exact (lot_end (h := ml 96 0) (Z := nxt z) hn40 (by simp_all [lotH, lotW]) (by simp_all [lotZ, lotW])).2 (fun q => by first | exact absurd q.1 (by assumption) | omega) rfl rfl)
          · -- not taken
            refine r_aload_n X 1 d_Mo_lot_133 rfl rfl ?_
            refine r_iconst X (v := nI (0)) d_Mo_lot_134 (by decide) ?_
            refine r_callV X (m_Mo_add l o (u2 (noteI mi c) 95 9 (nI (nxt z))) (u2 (noteL ml c) 96 0 (ml 96 0)) 0 n (ml 96 0) ((by rw [u2_s, uf_n _ _ (by decide)] <;> exact (by rw [noteL_n _ _ (by decide)] <;> exact hn))) (by omega) ((by rw [u2_s, uf_s]))) ok_Mo_add w_Mo_177 rfl b_95 e_95 rfl ⟨Nat.le_of_ble_eq_true rfl, Nat.le_of_ble_eq_true rfl⟩ (rest := []) rfl (Nat.le_of_ble_eq_true rfl) d_Mo_lot_135 ?_
            refine kD (st' := []) rfl ?_
            refine r_end_v X d_Mo_lot_138 ?_
            (refine ⟨rfl, ?_⟩; exact (lot_end (h := ml 96 0) (Z := nxt z) hn40 (by simp_all [lotH, lotW]) (by simp_all [lotZ, lotW])).1 (by assumption) (by omega) rfl rfl)
      · -- not taken
        refine r_aload_n X 1 d_Mo_lot_89 rfl rfl ?_
        refine r_get X f_Mo_7 b_95 e_95 (v := .ref (ads o (96))) rfl d_Mo_lot_90 ?_
        refine r_iconst X (v := nI (0)) d_Mo_lot_93 (by decide) ?_
        refine r_aload_n X 1 d_Mo_lot_94 rfl rfl ?_
        refine r_get X f_Mo_7 b_95 e_95 (v := .ref (ads o (96))) rfl d_Mo_lot_95 ?_
        refine r_iconst X (v := nI (0)) d_Mo_lot_98 (by decide) ?_
        refine r_lald X (v := ml 96 0) b_96 e_96 (Nat.le_of_ble_eq_true rfl) (by omega) ((by rw [noteL_n _ _ (by decide)] <;> exact rfl)) d_Mo_lot_99 ?_
        refine r_lconst X (v := 1) d_Mo_lot_100 (by decide) ?_
        refine r_aload_n X 1 d_Mo_lot_101 rfl rfl ?_
        refine r_bipush X (v := nI (64)) d_Mo_lot_102 (by decide) ?_
        refine r_callV X (m_Mo_draw l o (u2 (noteI mi c) 95 9 (nI (nxt z))) (noteL ml c) 64 (nxt z) ((by rw [u2_s, uf_s])) (by omega) (by omega) (by omega)) ok_Mo_draw w_Mo_191 rfl b_95 e_95 rfl ⟨Nat.le_of_ble_eq_true rfl, Nat.le_of_ble_eq_true rfl⟩ (rest := [.long (1), .long (ml 96 0), .int (nI (0)), .ref (ads o (96))]) rfl (Nat.le_of_ble_eq_true rfl) d_Mo_lot_104 ?_
        refine kD (st' := [.int (nI (nxt (nxt z) / 65536 % 64)), .long (1), .long (ml 96 0), .int (nI (0)), .ref (ads o (96))]) rfl ?_
        refine r_lshl X (v := shl (1) (nxt (nxt z) / 65536 % 64)) d_Mo_lot_107 (rfl) ?_
        refine r_lxor X (v := (ml 96 0) ^^^ (shl (1) (nxt (nxt z) / 65536 % 64))) d_Mo_lot_108 (rfl) ?_
        refine r_last X b_96 e_96 (Nat.le_of_ble_eq_true rfl) (by omega) d_Mo_lot_109 ?_
        refine r_aload_n X 1 d_Mo_lot_110 rfl rfl ?_
        refine r_aload_n X 1 d_Mo_lot_111 rfl rfl ?_
        refine r_get X f_Mo_7 b_95 e_95 (v := .ref (ads o (96))) rfl d_Mo_lot_112 ?_
        refine r_iconst X (v := nI (0)) d_Mo_lot_115 (by decide) ?_
        refine r_lald X (v := (ml 96 0) ^^^ (shl (1) (nxt (nxt z) / 65536 % 64))) b_96 e_96 (Nat.le_of_ble_eq_true rfl) (by omega) ((by rw [u2_s, uf_s])) d_Mo_lot_116 ?_
        refine r_callV X (m_Mo_like l o (u2 (u2 (noteI mi c) 95 9 (nI (nxt z))) 95 9 (nI (nxt (nxt z)))) (u2 (noteL ml c) 96 0 ((ml 96 0) ^^^ (shl (1) (nxt (nxt z) / 65536 % 64)))) ((ml 96 0) ^^^ (shl (1) (nxt (nxt z) / 65536 % 64))) n ((by rw [u2_s, uf_n _ _ (by decide)] <;> exact (by rw [noteL_n _ _ (by decide)] <;> exact hn))) (by omega)) ok_Mo_like w_Mo_120 rfl b_95 e_95 rfl ⟨Nat.le_of_ble_eq_true rfl, Nat.le_of_ble_eq_true rfl⟩ (rest := []) rfl (Nat.le_of_ble_eq_true rfl) d_Mo_lot_117 ?_
        refine kD (st' := [.int ((lastB (fun k => decide (oM (u2 (noteL ml c) 96 0 ((ml 96 0) ^^^ (shl (1) (nxt (nxt z) / 65536 % 64)))) k = ((ml 96 0) ^^^ (shl (1) (nxt (nxt z) / 65536 % 64))))) n))]) rfl ?_
        refine r_iconst X (v := ((-1 : Int32))) d_Mo_lot_120 (by decide) ?_
        refine r_icneP X (tgt := 138) (c := (lastB (fun k => decide (oM (u2 (noteL ml c) 96 0 ((ml 96 0) ^^^ (shl (1) (nxt (nxt z) / 65536 % 64)))) k = ((ml 96 0) ^^^ (shl (1) (nxt (nxt z) / 65536 % 64))))) n) = ((-1 : Int32))) d_Mo_lot_121 (by decide) (Iff.rfl) (fun c_121_3 => ?_) (fun c_121_3 => ?_)
        · -- taken
          refine r_end_v X d_Mo_lot_138 ?_
          (refine ⟨rfl, ?_⟩; exact (lot_end (h := (ml 96 0) ^^^ (shl (1) (nxt (nxt z) / 65536 % 64))) (Z := nxt (nxt z)) hn40 (by simp_all [lotH, lotW]) (by simp_all [lotZ, lotW])).2 (fun q => by first | exact absurd q.1 (by assumption) | omega) (by rw [u2_u2]) rfl)
        · -- not taken
          refine r_aload_n X 1 d_Mo_lot_124 rfl rfl ?_
          refine r_callV X (m_Mo_marks l o (u2 (u2 (noteI mi c) 95 9 (nI (nxt z))) 95 9 (nI (nxt (nxt z)))) (u2 (noteL ml c) 96 0 ((ml 96 0) ^^^ (shl (1) (nxt (nxt z) / 65536 % 64)))) n ((by rw [u2_s, uf_n _ _ (by decide)] <;> exact (by rw [noteL_n _ _ (by decide)] <;> exact hn))) (by omega)) ok_Mo_marks w_Mo_59 rfl b_95 e_95 rfl ⟨Nat.le_of_ble_eq_true rfl, Nat.le_of_ble_eq_true rfl⟩ (rest := []) rfl (Nat.le_of_ble_eq_true rfl) d_Mo_lot_125 ?_
          refine kD (st' := [.int (nI (n))]) rfl ?_
          refine r_bipush X (v := nI (40)) d_Mo_lot_128 (by decide) ?_
          refine r_icge X (tgt := 138) (c := 40 ≤ n) d_Mo_lot_130 (by decide) (nI_leI (Nat.le_of_ble_eq_true rfl) (by omega)) (fun c_130_4 => ?_) (fun c_130_4 => ?_)
          · -- taken
            refine r_end_v X d_Mo_lot_138 ?_
            (refine ⟨rfl, ?_⟩; exact (lot_end (h := (ml 96 0) ^^^ (shl (1) (nxt (nxt z) / 65536 % 64))) (Z := nxt (nxt z)) hn40 (by simp_all [lotH, lotW]) (by simp_all [lotZ, lotW])).2 (fun q => by first | exact absurd q.1 (by assumption) | omega) (by rw [u2_u2]) rfl)
          · -- not taken
            refine r_aload_n X 1 d_Mo_lot_133 rfl rfl ?_
            refine r_iconst X (v := nI (0)) d_Mo_lot_134 (by decide) ?_
            refine r_callV X (m_Mo_add l o (u2 (u2 (noteI mi c) 95 9 (nI (nxt z))) 95 9 (nI (nxt (nxt z)))) (u2 (noteL ml c) 96 0 ((ml 96 0) ^^^ (shl (1) (nxt (nxt z) / 65536 % 64)))) 0 n ((ml 96 0) ^^^ (shl (1) (nxt (nxt z) / 65536 % 64))) ((by rw [u2_s, uf_n _ _ (by decide)] <;> exact (by rw [noteL_n _ _ (by decide)] <;> exact hn))) (by omega) ((by rw [u2_s, uf_s]))) ok_Mo_add w_Mo_177 rfl b_95 e_95 rfl ⟨Nat.le_of_ble_eq_true rfl, Nat.le_of_ble_eq_true rfl⟩ (rest := []) rfl (Nat.le_of_ble_eq_true rfl) d_Mo_lot_135 ?_
            refine kD (st' := []) rfl ?_
            refine r_end_v X d_Mo_lot_138 ?_
            (refine ⟨rfl, ?_⟩; exact (lot_end (h := (ml 96 0) ^^^ (shl (1) (nxt (nxt z) / 65536 % 64))) (Z := nxt (nxt z)) hn40 (by simp_all [lotH, lotW]) (by simp_all [lotZ, lotW])).1 (by assumption) (by omega) (by rw [u2_u2]) rfl)
  · -- not taken
    refine r_aload_n X 1 d_Mo_lot_14 rfl rfl ?_
    refine r_bipush X (v := nI (64)) d_Mo_lot_15 (by decide) ?_
    refine r_callV X (m_Mo_draw l o (u2 (noteI mi c) 95 9 (nI (nxt z))) (noteL ml c) 64 (nxt z) ((by rw [u2_s, uf_s])) (by omega) (by omega) (by omega)) ok_Mo_draw w_Mo_191 rfl b_95 e_95 rfl ⟨Nat.le_of_ble_eq_true rfl, Nat.le_of_ble_eq_true rfl⟩ (rest := []) rfl (Nat.le_of_ble_eq_true rfl) d_Mo_lot_17 ?_
    refine kD (st' := [.int (nI (nxt (nxt z) / 65536 % 64))]) rfl ?_
    refine r_istore_n X [(2, .int (nI (nxt (nxt z) / 65536 % 64))), (1, .int (nI (nxt z / 65536 % 4))), (0, .ref (ads o (95)))] d_Mo_lot_20 rfl (Nat.le_of_ble_eq_true rfl) rfl ?_
    refine r_aload_n X 2 d_Mo_lot_21 rfl rfl ?_
    refine r_sipush X (v := nI (256)) d_Mo_lot_22 (by decide) ?_
    refine r_callV X (m_Mo_draw l o (u2 (u2 (noteI mi c) 95 9 (nI (nxt z))) 95 9 (nI (nxt (nxt z)))) (noteL ml c) 256 (nxt (nxt z)) ((by rw [u2_s, uf_s])) (by omega) (by omega) (by omega)) ok_Mo_draw w_Mo_191 rfl b_95 e_95 rfl ⟨Nat.le_of_ble_eq_true rfl, Nat.le_of_ble_eq_true rfl⟩ (rest := []) rfl (Nat.le_of_ble_eq_true rfl) d_Mo_lot_25 ?_
    refine kD (st' := [.int (nI (nxt (nxt (nxt z)) / 65536 % 256))]) rfl ?_
    refine r_iload_n X 0 d_Mo_lot_28 rfl rfl ?_
    have hJ_5 : V γ o 8 (u2 (u2 (u2 (noteI mi c) 95 9 (nI (nxt z))) 95 9 (nI (nxt (nxt z)))) 95 9 (nI (nxt (nxt (nxt z))))) (noteL ml c) 37 [(2, .int (nI (nxt (nxt z) / 65536 % 64))), (1, .int (nI (nxt z / 65536 % 4))), (0, .ref (ads o (95)))] [.int (nI (0)), .int (nI (nxt (nxt (nxt z)) / 65536 % 256))] := by
      refine r_iadd X (v := nI (nxt (nxt (nxt z)) / 65536 % 256)) d_Mo_lot_37 (by rw [show nI 0 = 0 from rfl, Int32.add_zero]) ?_
      refine r_i2l X (v := lN (nxt (nxt (nxt z)) / 65536 % 256)) d_Mo_lot_38 (nI_l (by omega)) ?_
      refine r_lstore_n X [(3, .long (lN (nxt (nxt (nxt z)) / 65536 % 256))), (2, .int (nI (nxt (nxt z) / 65536 % 64))), (1, .int (nI (nxt z / 65536 % 4))), (0, .ref (ads o (95)))] d_Mo_lot_39 rfl (Nat.le_of_ble_eq_true rfl) rfl ?_
      refine r_lconst X (v := 0) d_Mo_lot_40 (by decide) ?_
      refine r_lstore X [(5, .long (0)), (3, .long (lN (nxt (nxt (nxt z)) / 65536 % 256))), (2, .int (nI (nxt (nxt z) / 65536 % 64))), (1, .int (nI (nxt z / 65536 % 4))), (0, .ref (ads o (95)))] d_Mo_lot_41 (Nat.le_of_ble_eq_true rfl) rfl ?_
      refine r_iconst X (v := nI (0)) d_Mo_lot_43 (by decide) ?_
      refine r_istore X [(7, .int (nI (0))), (5, .long (0)), (3, .long (lN (nxt (nxt (nxt z)) / 65536 % 256))), (2, .int (nI (nxt (nxt z) / 65536 % 64))), (1, .int (nI (nxt z / 65536 % 4))), (0, .ref (ads o (95)))] d_Mo_lot_44 (Nat.le_of_ble_eq_true rfl) rfl ?_
      have L46_6 : ∀ (d_i i : Nat), i + d_i = 8 → V γ o 8 (u2 (u2 (u2 (noteI mi c) 95 9 (nI (nxt z))) 95 9 (nI (nxt (nxt z)))) 95 9 (nI (nxt (nxt (nxt z))))) (noteL ml c) 46 [(0, .ref (ads o (95))), (1, .int (nI (nxt z / 65536 % 4))), (2, .int (nI (nxt (nxt z) / 65536 % 64))), (3, .long (lN (nxt (nxt (nxt z)) / 65536 % 256))), (5, .long (rowsS (lN (nxt (nxt (nxt z)) / 65536 % 256)) (i))), (7, .int (nI (i)))] [] := by
        intro d_i
        induction d_i with
        | zero =>
          intro i hi_L46_6 
          have he_L46_6 : 8 = i := by omega
          subst he_L46_6
          refine r_iload X 5 d_Mo_lot_46 rfl ?_
          refine r_bipush X (v := nI (8)) d_Mo_lot_48 (by decide) ?_
          refine r_icge X (tgt := 71) (c := 8 ≤ 8) d_Mo_lot_50 (by decide) (nI_leI (Nat.le_of_ble_eq_true rfl) (by omega)) (fun c_50 => ?_) (fun c_50 => ?_)
          · -- taken
            refine r_aload_n X 0 d_Mo_lot_71 rfl rfl ?_
            refine r_get X f_Mo_7 b_95 e_95 (v := .ref (ads o (96))) rfl d_Mo_lot_72 ?_
            refine r_iconst X (v := nI (0)) d_Mo_lot_75 (by decide) ?_
            refine r_lload X 4 d_Mo_lot_76 rfl ?_
            refine r_last X b_96 e_96 (Nat.le_of_ble_eq_true rfl) (by omega) d_Mo_lot_78 ?_
            refine r_iload_n X 1 d_Mo_lot_79 rfl rfl ?_
            refine r_iconst X (v := nI (1)) d_Mo_lot_80 (by decide) ?_
            refine r_iceq X (tgt := 89) (c := (nxt z / 65536 % 4) = 1) d_Mo_lot_81 (by decide) (nI_eq (by omega) (Nat.le_of_ble_eq_true rfl)) (fun c_81_7 => ?_) (fun c_81_7 => ?_)
            · -- taken
              exact False.elim (by omega)
            · -- not taken
              refine r_iload_n X 1 d_Mo_lot_84 rfl rfl ?_
              refine r_iconst X (v := nI (2)) d_Mo_lot_85 (by decide) ?_
              refine r_icneP X (tgt := 110) (c := (nxt z / 65536 % 4) = 2) d_Mo_lot_86 (by decide) (nI_eq (by omega) (Nat.le_of_ble_eq_true rfl)) (fun c_86_8 => ?_) (fun c_86_8 => ?_)
              · -- taken
                refine r_aload_n X 0 d_Mo_lot_110 rfl rfl ?_
                refine r_aload_n X 0 d_Mo_lot_111 rfl rfl ?_
                refine r_get X f_Mo_7 b_95 e_95 (v := .ref (ads o (96))) rfl d_Mo_lot_112 ?_
                refine r_iconst X (v := nI (0)) d_Mo_lot_115 (by decide) ?_
                refine r_lald X (v := rowsS (lN (nxt (nxt (nxt z)) / 65536 % 256)) (8)) b_96 e_96 (Nat.le_of_ble_eq_true rfl) (by omega) ((by rw [u2_s, uf_s])) d_Mo_lot_116 ?_
                refine r_callV X (m_Mo_like l o (u2 (u2 (u2 (noteI mi c) 95 9 (nI (nxt z))) 95 9 (nI (nxt (nxt z)))) 95 9 (nI (nxt (nxt (nxt z))))) (u2 (noteL ml c) 96 0 (rowsS (lN (nxt (nxt (nxt z)) / 65536 % 256)) (8))) (rowsS (lN (nxt (nxt (nxt z)) / 65536 % 256)) (8)) n ((by rw [u2_s, uf_n _ _ (by decide)] <;> exact (by rw [noteL_n _ _ (by decide)] <;> exact hn))) (by omega)) ok_Mo_like w_Mo_120 rfl b_95 e_95 rfl ⟨Nat.le_of_ble_eq_true rfl, Nat.le_of_ble_eq_true rfl⟩ (rest := []) rfl (Nat.le_of_ble_eq_true rfl) d_Mo_lot_117 ?_
                refine kD (st' := [.int ((lastB (fun k => decide (oM (u2 (noteL ml c) 96 0 (rowsS (lN (nxt (nxt (nxt z)) / 65536 % 256)) (8))) k = (rowsS (lN (nxt (nxt (nxt z)) / 65536 % 256)) (8)))) n))]) rfl ?_
                refine r_iconst X (v := ((-1 : Int32))) d_Mo_lot_120 (by decide) ?_
                refine r_icneP X (tgt := 138) (c := (lastB (fun k => decide (oM (u2 (noteL ml c) 96 0 (rowsS (lN (nxt (nxt (nxt z)) / 65536 % 256)) (8))) k = (rowsS (lN (nxt (nxt (nxt z)) / 65536 % 256)) (8)))) n) = ((-1 : Int32))) d_Mo_lot_121 (by decide) (Iff.rfl) (fun c_121_9 => ?_) (fun c_121_9 => ?_)
                · -- taken
                  refine r_end_v X d_Mo_lot_138 ?_
                  (refine ⟨rfl, ?_⟩; exact (lot_end (h := rowsS (lN (nxt (nxt (nxt z)) / 65536 % 256)) 8) (Z := nxt (nxt (nxt z))) hn40 (by simp_all [lotH, lotW]) (by simp_all [lotZ, lotW])).2 (fun q => by first | exact absurd q.1 (by assumption) | omega) (by rw [u2_u2, u2_u2]) rfl)
                · -- not taken
                  refine r_aload_n X 0 d_Mo_lot_124 rfl rfl ?_
                  refine r_callV X (m_Mo_marks l o (u2 (u2 (u2 (noteI mi c) 95 9 (nI (nxt z))) 95 9 (nI (nxt (nxt z)))) 95 9 (nI (nxt (nxt (nxt z))))) (u2 (noteL ml c) 96 0 (rowsS (lN (nxt (nxt (nxt z)) / 65536 % 256)) (8))) n ((by rw [u2_s, uf_n _ _ (by decide)] <;> exact (by rw [noteL_n _ _ (by decide)] <;> exact hn))) (by omega)) ok_Mo_marks w_Mo_59 rfl b_95 e_95 rfl ⟨Nat.le_of_ble_eq_true rfl, Nat.le_of_ble_eq_true rfl⟩ (rest := []) rfl (Nat.le_of_ble_eq_true rfl) d_Mo_lot_125 ?_
                  refine kD (st' := [.int (nI (n))]) rfl ?_
                  refine r_bipush X (v := nI (40)) d_Mo_lot_128 (by decide) ?_
                  refine r_icge X (tgt := 138) (c := 40 ≤ n) d_Mo_lot_130 (by decide) (nI_leI (Nat.le_of_ble_eq_true rfl) (by omega)) (fun c_130_10 => ?_) (fun c_130_10 => ?_)
                  · -- taken
                    refine r_end_v X d_Mo_lot_138 ?_
                    (refine ⟨rfl, ?_⟩; exact (lot_end (h := rowsS (lN (nxt (nxt (nxt z)) / 65536 % 256)) 8) (Z := nxt (nxt (nxt z))) hn40 (by simp_all [lotH, lotW]) (by simp_all [lotZ, lotW])).2 (fun q => by first | exact absurd q.1 (by assumption) | omega) (by rw [u2_u2, u2_u2]) rfl)
                  · -- not taken
                    refine r_aload_n X 0 d_Mo_lot_133 rfl rfl ?_
                    refine r_iconst X (v := nI (0)) d_Mo_lot_134 (by decide) ?_
                    refine r_callV X (m_Mo_add l o (u2 (u2 (u2 (noteI mi c) 95 9 (nI (nxt z))) 95 9 (nI (nxt (nxt z)))) 95 9 (nI (nxt (nxt (nxt z))))) (u2 (noteL ml c) 96 0 (rowsS (lN (nxt (nxt (nxt z)) / 65536 % 256)) (8))) 0 n (rowsS (lN (nxt (nxt (nxt z)) / 65536 % 256)) (8)) ((by rw [u2_s, uf_n _ _ (by decide)] <;> exact (by rw [noteL_n _ _ (by decide)] <;> exact hn))) (by omega) ((by rw [u2_s, uf_s]))) ok_Mo_add w_Mo_177 rfl b_95 e_95 rfl ⟨Nat.le_of_ble_eq_true rfl, Nat.le_of_ble_eq_true rfl⟩ (rest := []) rfl (Nat.le_of_ble_eq_true rfl) d_Mo_lot_135 ?_
                    refine kD (st' := []) rfl ?_
                    refine r_end_v X d_Mo_lot_138 ?_
                    (refine ⟨rfl, ?_⟩; exact (lot_end (h := rowsS (lN (nxt (nxt (nxt z)) / 65536 % 256)) 8) (Z := nxt (nxt (nxt z))) hn40 (by simp_all [lotH, lotW]) (by simp_all [lotZ, lotW])).1 (by assumption) (by omega) (by rw [u2_u2, u2_u2]) rfl)
              · -- not taken
                exact False.elim (by omega)
          · -- not taken
            exact False.elim (by omega)
        | succ d_i ih_L46_6 =>
          intro i hi_L46_6 
          have hlt_L46_6 : i < 8 := by omega
          refine r_iload X 5 d_Mo_lot_46 rfl ?_
          refine r_bipush X (v := nI (8)) d_Mo_lot_48 (by decide) ?_
          refine r_icge X (tgt := 71) (c := 8 ≤ i) d_Mo_lot_50 (by decide) (nI_leI (Nat.le_of_ble_eq_true rfl) (by omega)) (fun c_50_11 => ?_) (fun c_50_11 => ?_)
          · -- taken
            exact False.elim (by omega)
          · -- not taken
            refine r_lload X 4 d_Mo_lot_53 rfl ?_
            refine r_lload_n X 3 d_Mo_lot_55 rfl rfl ?_
            refine r_bipush X (v := nI (8)) d_Mo_lot_56 (by decide) ?_
            refine r_iload X 5 d_Mo_lot_58 rfl ?_
            refine r_imul X (v := nI (8 * i)) d_Mo_lot_60 (pk_mul _ _) ?_
            refine r_lshl X (v := shl (lN (nxt (nxt (nxt z)) / 65536 % 256)) (8 * i)) d_Mo_lot_61 (rfl) ?_
            refine r_lor X (v := (rowsS (lN (nxt (nxt (nxt z)) / 65536 % 256)) (i)) ||| (shl (lN (nxt (nxt (nxt z)) / 65536 % 256)) (8 * i))) d_Mo_lot_62 (rfl) ?_
            refine r_lstore X [(5, .long ((rowsS (lN (nxt (nxt (nxt z)) / 65536 % 256)) (i)) ||| (shl (lN (nxt (nxt (nxt z)) / 65536 % 256)) (8 * i)))), (0, .ref (ads o (95))), (1, .int (nI (nxt z / 65536 % 4))), (2, .int (nI (nxt (nxt z) / 65536 % 64))), (3, .long (lN (nxt (nxt (nxt z)) / 65536 % 256))), (7, .int (nI (i)))] d_Mo_lot_63 (Nat.le_of_ble_eq_true rfl) rfl ?_
            refine r_iinc X 5 (v := nI (i + 1)) [(7, .int (nI (i + 1))), (5, .long ((rowsS (lN (nxt (nxt (nxt z)) / 65536 % 256)) (i)) ||| (shl (lN (nxt (nxt (nxt z)) / 65536 % 256)) (8 * i)))), (0, .ref (ads o (95))), (1, .int (nI (nxt z / 65536 % 4))), (2, .int (nI (nxt (nxt z) / 65536 % 64))), (3, .long (lN (nxt (nxt (nxt z)) / 65536 % 256)))] d_Mo_lot_65 rfl (nI_add _ 1) (Nat.le_of_ble_eq_true rfl) rfl ?_
            refine r_goto X (tgt := 46) d_Mo_lot_68 (by decide) ?_
            refine V.wk [2, 3, 4, 5, 1, 0] (V.eq (ih_L46_6 (i + 1) (by omega) ) ?_ ?_ ?_ rfl) (rfl : lv_pick _ [2, 3, 4, 5, 1, 0] = [(0, .ref (ads o (95))), (1, .int (nI (nxt z / 65536 % 4))), (2, .int (nI (nxt (nxt z) / 65536 % 64))), (3, .long (lN (nxt (nxt (nxt z)) / 65536 % 256))), (5, .long ((rowsS (lN (nxt (nxt (nxt z)) / 65536 % 256)) (i)) ||| (shl (lN (nxt (nxt (nxt z)) / 65536 % 256)) (8 * i)))), (7, .int (nI (i + 1)))])
            · rfl
            · rfl
            · first | rfl | (simp_all [ct, lastB, alB, fromB]; done)
      refine V.wk [5, 4, 3, 2, 1, 0] (V.eq (L46_6 (8 - 0) 0 (by omega) ) ?_ ?_ ?_ rfl) (rfl : lv_pick _ [5, 4, 3, 2, 1, 0] = [(0, .ref (ads o (95))), (1, .int (nI (nxt z / 65536 % 4))), (2, .int (nI (nxt (nxt z) / 65536 % 64))), (3, .long (lN (nxt (nxt (nxt z)) / 65536 % 256))), (5, .long (0)), (7, .int (nI (0)))])
      · rfl
      · rfl
      · rfl
    refine r_ifge X (tgt := 36) (c := 0 ≤ (nxt (nxt z) / 65536 % 64)) d_Mo_lot_29 (by decide) ((by rw [← nI_0] <;> exact nI_leI (Nat.le_of_ble_eq_true rfl) (by omega))) (fun c_29 => ?_) (fun c_29 => ?_)
    · -- taken
      refine r_iconst X (v := nI (0)) d_Mo_lot_36 (by decide) ?_
      exact hJ_5
    · -- not taken
      exact False.elim (by omega)

set_option maxHeartbeats 4000000 in
set_option maxRecDepth 100000 in
theorem m_Mo_drift_o (l : Launch) (o : OM) (mi : MI) (ml : ML) (k : Int32) (hk : k < nI 1 ∨ nI 20 < k) : ConD l y_Mo_drift c_Mo_drift 3 (some .int) 8 270 o [.ref (ads o (95)), .int (k)] mi ml (some (.int (((-1000000002 : Int32))))) mi ml := by
  refine Con.mk (by decide) (Nat.le_of_ble_eq_true rfl) (fun γ X => ?_)
  show V γ o 3 mi ml 0 [(0, .ref (ads o (95))), (1, .int (k))] []
  refine r_iload_n X 1 d_Mo_drift_0 rfl rfl ?_
  refine r_i2l X (v := (k).toInt64) d_Mo_drift_1 (rfl) ?_
  refine r_lconst X (v := 1) d_Mo_drift_2 (by decide) ?_
  refine r_ldc2 X (v := (20 : Int64)) k_Mo_194 d_Mo_drift_3 ?_
  refine r_callS X (m_Mo_in l o mi ml ((k).toInt64) 1 (20 : Int64)) ok_Mo_in w_Mo_63 rfl ⟨Nat.le_of_ble_eq_true rfl, Nat.le_of_ble_eq_true rfl⟩ (rest := []) rfl (Nat.le_of_ble_eq_true rfl) d_Mo_drift_6 ?_
  refine kD (st' := [.int (bI (!decide (((k).toInt64) < 1) && !decide ((20 : Int64) < ((k).toInt64))))]) rfl ?_
  refine r_ifneB X (tgt := 15) (b := !decide (((k).toInt64) < 1) && !decide ((20 : Int64) < ((k).toInt64))) d_Mo_drift_9 (by decide) (fun c_9 => ?_) (fun c_9 => ?_)
  · -- taken
    exact False.elim (by have e := in_out (a := 1) (m := 20) (by decide) (by decide) hk; exact absurd (c_9.symm.trans e) (by decide))
  · -- not taken
    refine r_ldc X (v := ((-1000000002 : Int32))) k_Mo_144 (by decide) d_Mo_drift_12 ?_
    refine r_end_i X d_Mo_drift_14 ?_
    first | exact ⟨rfl, rfl, rfl⟩ | (refine ⟨?_, rfl, rfl⟩; simp_all)

set_option maxHeartbeats 4000000 in
set_option maxRecDepth 100000 in
theorem m_Mo_drift_i (l : Launch) (o : OM) (mi : MI) (ml : ML) (k : Nat) (n : Nat) (c : Nat) (z : Nat) (hn : ml 96 2 = lN n) (hn40 : n ≤ 40) (hc : mi 95 2 = nI c) (hc20 : c ≤ 20) (hz : mi 95 9 = nI z) (hz31 : z < 2147483648) (hk1 : 1 ≤ k) (hk : k ≤ 20) : ConD l y_Mo_drift c_Mo_drift 3 (some .int) 8 270 o [.ref (ads o (95)), .int (nI (k))] mi ml (some (.int (nI ((drS mi ml c n z (k)).2.2.2.1)))) ((drS mi ml c n z (k)).1) ((drS mi ml c n z (k)).2.1) := by
  refine Con.mk (by decide) (Nat.le_of_ble_eq_true rfl) (fun γ X => ?_)
  show V γ o 3 mi ml 0 [(0, .ref (ads o (95))), (1, .int (nI (k)))] []
  refine r_iload_n X 1 d_Mo_drift_0 rfl rfl ?_
  refine r_i2l X (v := lN (k)) d_Mo_drift_1 (nI_l (by omega)) ?_
  refine r_lconst X (v := 1) d_Mo_drift_2 (by decide) ?_
  refine r_ldc2 X (v := (20 : Int64)) k_Mo_194 d_Mo_drift_3 ?_
  refine r_callS X (m_Mo_in l o mi ml (lN (k)) 1 (20 : Int64)) ok_Mo_in w_Mo_63 rfl ⟨Nat.le_of_ble_eq_true rfl, Nat.le_of_ble_eq_true rfl⟩ (rest := []) rfl (Nat.le_of_ble_eq_true rfl) d_Mo_drift_6 ?_
  refine kD (st' := [.int (bI (!decide ((lN (k)) < 1) && !decide ((20 : Int64) < (lN (k)))))]) rfl ?_
  refine r_ifneB X (tgt := 15) (b := !decide ((lN (k)) < 1) && !decide ((20 : Int64) < (lN (k)))) d_Mo_drift_9 (by decide) (fun c_9 => ?_) (fun c_9 => ?_)
  · -- taken
    refine r_iconst X (v := nI (0)) d_Mo_drift_15 (by decide) ?_
    refine r_istore_n X [(2, .int (nI (0))), (0, .ref (ads o (95))), (1, .int (nI (k)))] d_Mo_drift_16 rfl (Nat.le_of_ble_eq_true rfl) rfl ?_
    have L17_1 : ∀ (d_i i : Nat), i + d_i = k → V γ o 3 (drS mi ml c n z (i)).1 (drS mi ml c n z (i)).2.1 17 [(0, .ref (ads o (95))), (1, .int (nI (k))), (2, .int (nI (i)))] [] := by
      intro d_i
      induction d_i with
      | zero =>
        intro i hi_L17_1 
        have he_L17_1 : k = i := by omega
        subst he_L17_1
        refine r_iload_n X 2 d_Mo_drift_17 rfl rfl ?_
        refine r_iload_n X 1 d_Mo_drift_18 rfl rfl ?_
        refine r_icge X (tgt := 32) (c := k ≤ k) d_Mo_drift_19 (by decide) (nI_leI (by omega) (by omega)) (fun c_19 => ?_) (fun c_19 => ?_)
        · -- taken
          refine r_aload_n X 0 d_Mo_drift_32 rfl rfl ?_
          refine r_callV X (m_Mo_marks l o (drS mi ml c n z (k)).1 (drS mi ml c n z (k)).2.1 ((drS mi ml c n z (k)).2.2.2.1) ((drS_ok hc hc20 hn hn40 hz hz31 (k)).2.2.1) ((drS_ok hc hc20 hn hn40 hz hz31 k).2.2.2.1)) ok_Mo_marks w_Mo_59 rfl b_95 e_95 rfl ⟨Nat.le_of_ble_eq_true rfl, Nat.le_of_ble_eq_true rfl⟩ (rest := []) rfl (Nat.le_of_ble_eq_true rfl) d_Mo_drift_33 ?_
          refine kD (st' := [.int (nI (((drS mi ml c n z (k)).2.2.2.1)))]) rfl ?_
          refine r_end_i X d_Mo_drift_36 ?_
          exact ⟨rfl, rfl, rfl⟩
        · -- not taken
          exact False.elim (by omega)
      | succ d_i ih_L17_1 =>
        intro i hi_L17_1 
        have hlt_L17_1 : i < k := by omega
        refine r_iload_n X 2 d_Mo_drift_17 rfl rfl ?_
        refine r_iload_n X 1 d_Mo_drift_18 rfl rfl ?_
        refine r_icge X (tgt := 32) (c := k ≤ i) d_Mo_drift_19 (by decide) (nI_leI (by omega) (by omega)) (fun c_19_2 => ?_) (fun c_19_2 => ?_)
        · -- taken
          exact False.elim (by omega)
        · -- not taken
          refine r_aload_n X 0 d_Mo_drift_22 rfl rfl ?_
          refine r_callV X (m_Mo_lot l o (drS mi ml c n z (i)).1 (drS mi ml c n z (i)).2.1 ((drS mi ml c n z (i)).2.2.2.1) ((drS mi ml c n z (i)).2.2.1) ((drS mi ml c n z (i)).2.2.2.2) ((drS_ok hc hc20 hn hn40 hz hz31 (i)).2.2.1) ((drS_ok hc hc20 hn hn40 hz hz31 i).2.2.2.1) ((drS_ok hc hc20 hn hn40 hz hz31 (i)).1) ((drS_ok hc hc20 hn hn40 hz hz31 i).2.1) ((drS_ok hc hc20 hn hn40 hz hz31 (i)).2.2.2.2.1) ((drS_ok hc hc20 hn hn40 hz hz31 i).2.2.2.2.2)) ok_Mo_lot w_Mo_196 rfl b_95 e_95 rfl ⟨Nat.le_of_ble_eq_true rfl, Nat.le_of_ble_eq_true rfl⟩ (rest := []) rfl (Nat.le_of_ble_eq_true rfl) d_Mo_drift_23 ?_
          refine kD (st' := []) rfl ?_
          refine r_iinc X 2 (v := nI (i + 1)) [(2, .int (nI (i + 1))), (0, .ref (ads o (95))), (1, .int (nI (k)))] d_Mo_drift_26 rfl (nI_add _ 1) (Nat.le_of_ble_eq_true rfl) rfl ?_
          refine r_goto X (tgt := 17) d_Mo_drift_29 (by decide) ?_
          refine V.wk [1, 2, 0] (V.eq (ih_L17_1 (i + 1) (by omega) ) ?_ ?_ ?_ rfl) (rfl : lv_pick _ [1, 2, 0] = [(0, .ref (ads o (95))), (1, .int (nI (k))), (2, .int (nI (i + 1)))])
          · rfl
          · rfl
          · rfl
    refine V.wk [1, 2, 0] (V.eq (L17_1 (k - 0) 0 (by omega) ) ?_ ?_ ?_ rfl) (rfl : lv_pick _ [1, 2, 0] = [(0, .ref (ads o (95))), (1, .int (nI (k))), (2, .int (nI (0)))])
    · rfl
    · rfl
    · rfl
  · -- not taken
    exact False.elim (by have e := in_nat (a := 1) (j := k) (m := 20) (by omega) (by omega) (by decide); exact absurd (c_9.symm.trans e) (by decide))

set_option maxHeartbeats 4000000 in
set_option maxRecDepth 100000 in
theorem m_Mo_undo_o (l : Launch) (o : OM) (mi : MI) (ml : ML) (q : Int32) (hq : q < nI 1 ∨ nI 20 < q) : ConD l y_Mo_undo c_Mo_undo 2 (some .int) 8 270 o [.ref (ads o (95)), .int (q)] mi ml (some (.int (((-1000000002 : Int32))))) mi ml := by
  refine Con.mk (by decide) (Nat.le_of_ble_eq_true rfl) (fun γ X => ?_)
  show V γ o 2 mi ml 0 [(0, .ref (ads o (95))), (1, .int (q))] []
  refine r_iload_n X 1 d_Mo_undo_0 rfl rfl ?_
  refine r_i2l X (v := (q).toInt64) d_Mo_undo_1 (rfl) ?_
  refine r_lconst X (v := 1) d_Mo_undo_2 (by decide) ?_
  refine r_ldc2 X (v := (20 : Int64)) k_Mo_194 d_Mo_undo_3 ?_
  refine r_callS X (m_Mo_in l o mi ml ((q).toInt64) 1 (20 : Int64)) ok_Mo_in w_Mo_63 rfl ⟨Nat.le_of_ble_eq_true rfl, Nat.le_of_ble_eq_true rfl⟩ (rest := []) rfl (Nat.le_of_ble_eq_true rfl) d_Mo_undo_6 ?_
  refine kD (st' := [.int (bI (!decide (((q).toInt64) < 1) && !decide ((20 : Int64) < ((q).toInt64))))]) rfl ?_
  refine r_ifneB X (tgt := 15) (b := !decide (((q).toInt64) < 1) && !decide ((20 : Int64) < ((q).toInt64))) d_Mo_undo_9 (by decide) (fun c_9 => ?_) (fun c_9 => ?_)
  · -- taken
    exact False.elim (by have e := in_out (a := 1) (m := 20) (by decide) (by decide) hq; exact absurd (c_9.symm.trans e) (by decide))
  · -- not taken
    refine r_ldc X (v := ((-1000000002 : Int32))) k_Mo_144 (by decide) d_Mo_undo_12 ?_
    refine r_end_i X d_Mo_undo_14 ?_
    first | exact ⟨rfl, rfl, rfl⟩ | (refine ⟨?_, rfl, rfl⟩; simp_all)

set_option maxHeartbeats 4000000 in
set_option maxRecDepth 100000 in
theorem m_Mo_undo_n (l : Launch) (o : OM) (mi : MI) (ml : ML) (q : Nat) (c : Nat) (hc : mi 95 2 = nI c) (hc20 : c ≤ 20) (hq1 : 1 ≤ q) (hq : q ≤ 20) (hqc : c < q) : ConD l y_Mo_undo c_Mo_undo 2 (some .int) 8 270 o [.ref (ads o (95)), .int (nI (q))] mi ml (some (.int (((-1000000003 : Int32))))) mi ml := by
  refine Con.mk (by decide) (Nat.le_of_ble_eq_true rfl) (fun γ X => ?_)
  show V γ o 2 mi ml 0 [(0, .ref (ads o (95))), (1, .int (nI (q)))] []
  refine r_iload_n X 1 d_Mo_undo_0 rfl rfl ?_
  refine r_i2l X (v := lN (q)) d_Mo_undo_1 (nI_l (by omega)) ?_
  refine r_lconst X (v := 1) d_Mo_undo_2 (by decide) ?_
  refine r_ldc2 X (v := (20 : Int64)) k_Mo_194 d_Mo_undo_3 ?_
  refine r_callS X (m_Mo_in l o mi ml (lN (q)) 1 (20 : Int64)) ok_Mo_in w_Mo_63 rfl ⟨Nat.le_of_ble_eq_true rfl, Nat.le_of_ble_eq_true rfl⟩ (rest := []) rfl (Nat.le_of_ble_eq_true rfl) d_Mo_undo_6 ?_
  refine kD (st' := [.int (bI (!decide ((lN (q)) < 1) && !decide ((20 : Int64) < (lN (q)))))]) rfl ?_
  refine r_ifneB X (tgt := 15) (b := !decide ((lN (q)) < 1) && !decide ((20 : Int64) < (lN (q)))) d_Mo_undo_9 (by decide) (fun c_9 => ?_) (fun c_9 => ?_)
  · -- taken
    refine r_iload_n X 1 d_Mo_undo_15 rfl rfl ?_
    refine r_aload_n X 0 d_Mo_undo_16 rfl rfl ?_
    refine r_get X f_Mo_141 b_95 e_95 (v := .int (nI (c))) (congrArg (fun z => some (Value.int z)) (hc)) d_Mo_undo_17 ?_
    refine r_icle X (tgt := 26) (c := q ≤ c) d_Mo_undo_20 (by decide) (nI_leI (by omega) (by omega)) (fun c_20 => ?_) (fun c_20 => ?_)
    · -- taken
      exact False.elim (by omega)
    · -- not taken
      refine r_ldc X (v := ((-1000000003 : Int32))) k_Mo_175 (by decide) d_Mo_undo_23 ?_
      refine r_end_i X d_Mo_undo_25 ?_
      first | exact ⟨rfl, rfl, rfl⟩ | (refine ⟨?_, rfl, rfl⟩; simp_all)
  · -- not taken
    exact False.elim (by have e := in_nat (a := 1) (j := q) (m := 20) (by omega) (by omega) (by decide); exact absurd (c_9.symm.trans e) (by decide))

set_option maxHeartbeats 4000000 in
set_option maxRecDepth 100000 in
theorem m_Mo_undo_i (l : Launch) (o : OM) (mi : MI) (ml : ML) (q : Nat) (nb : Nat) (c : Nat) (hc : mi 95 2 = nI c) (hc20 : c ≤ 20) (hq1 : 1 ≤ q) (hqc : q ≤ c) (hnb : ml 98 (43 * (c - q) + 2) = lN nb) (hnb40 : nb ≤ 40) : ConD l y_Mo_undo c_Mo_undo 2 (some .int) 8 270 o [.ref (ads o (95)), .int (nI (q))] mi ml (some (.int (nI (nb)))) (cpL (u2 mi 95 2 (nI (c - q))) 97 0 99 (40 * (c - q)) 40) (cpL ml 96 0 98 (43 * (c - q)) 43) := by
  refine Con.mk (by decide) (Nat.le_of_ble_eq_true rfl) (fun γ X => ?_)
  show V γ o 2 mi ml 0 [(0, .ref (ads o (95))), (1, .int (nI (q)))] []
  refine r_iload_n X 1 d_Mo_undo_0 rfl rfl ?_
  refine r_i2l X (v := lN (q)) d_Mo_undo_1 (nI_l (by omega)) ?_
  refine r_lconst X (v := 1) d_Mo_undo_2 (by decide) ?_
  refine r_ldc2 X (v := (20 : Int64)) k_Mo_194 d_Mo_undo_3 ?_
  refine r_callS X (m_Mo_in l o mi ml (lN (q)) 1 (20 : Int64)) ok_Mo_in w_Mo_63 rfl ⟨Nat.le_of_ble_eq_true rfl, Nat.le_of_ble_eq_true rfl⟩ (rest := []) rfl (Nat.le_of_ble_eq_true rfl) d_Mo_undo_6 ?_
  refine kD (st' := [.int (bI (!decide ((lN (q)) < 1) && !decide ((20 : Int64) < (lN (q)))))]) rfl ?_
  refine r_ifneB X (tgt := 15) (b := !decide ((lN (q)) < 1) && !decide ((20 : Int64) < (lN (q)))) d_Mo_undo_9 (by decide) (fun c_9 => ?_) (fun c_9 => ?_)
  · -- taken
    refine r_iload_n X 1 d_Mo_undo_15 rfl rfl ?_
    refine r_aload_n X 0 d_Mo_undo_16 rfl rfl ?_
    refine r_get X f_Mo_141 b_95 e_95 (v := .int (nI (c))) (congrArg (fun z => some (Value.int z)) (hc)) d_Mo_undo_17 ?_
    refine r_icle X (tgt := 26) (c := q ≤ c) d_Mo_undo_20 (by decide) (nI_leI (by omega) (by omega)) (fun c_20 => ?_) (fun c_20 => ?_)
    · -- taken
      refine r_aload_n X 0 d_Mo_undo_26 rfl rfl ?_
      refine r_dup X d_Mo_undo_27 rfl ?_
      refine r_get X f_Mo_141 b_95 e_95 (v := .int (nI (c))) (congrArg (fun z => some (Value.int z)) (hc)) d_Mo_undo_28 ?_
      refine r_iload_n X 1 d_Mo_undo_31 rfl rfl ?_
      refine r_isub X (v := nI (c - q)) d_Mo_undo_32 (pk_sub (by omega)) ?_
      refine r_putI X fw_Mo_141 b_95 e_95 (fun _ _ => rfl) (Nat.le_of_ble_eq_true rfl) d_Mo_undo_33 ?_
      refine r_aload_n X 0 d_Mo_undo_36 rfl rfl ?_
      refine r_aload_n X 0 d_Mo_undo_37 rfl rfl ?_
      refine r_get X f_Mo_17 b_95 e_95 (v := .ref (ads o (98))) rfl d_Mo_undo_38 ?_
      refine r_aload_n X 0 d_Mo_undo_41 rfl rfl ?_
      refine r_get X f_Mo_20 b_95 e_95 (v := .ref (ads o (99))) rfl d_Mo_undo_42 ?_
      refine r_aload_n X 0 d_Mo_undo_45 rfl rfl ?_
      refine r_get X f_Mo_141 b_95 e_95 (v := .int (nI (c - q))) (congrArg (fun z => some (Value.int z)) ((by rw [u2_s, uf_s]))) d_Mo_undo_46 ?_
      refine r_callV X (m_Mo_become_b l o (u2 mi 95 2 (nI (c - q))) ml (c - q) (by omega)) ok_Mo_become w_Mo_199 rfl b_95 e_95 rfl ⟨Nat.le_of_ble_eq_true rfl, Nat.le_of_ble_eq_true rfl⟩ (rest := []) rfl (Nat.le_of_ble_eq_true rfl) d_Mo_undo_49 ?_
      refine kD (st' := []) rfl ?_
      refine r_aload_n X 0 d_Mo_undo_52 rfl rfl ?_
      refine r_callV X (m_Mo_marks l o (cpL (u2 mi 95 2 (nI (c - q))) 97 0 99 (40 * (c - q)) (40)) (cpL ml 96 0 98 (43 * (c - q)) (43)) nb ((by rw [show (2 : Nat) = 0 + 2 from rfl, cpL_in _ (by decide)] <;> exact hnb)) (by omega)) ok_Mo_marks w_Mo_59 rfl b_95 e_95 rfl ⟨Nat.le_of_ble_eq_true rfl, Nat.le_of_ble_eq_true rfl⟩ (rest := []) rfl (Nat.le_of_ble_eq_true rfl) d_Mo_undo_53 ?_
      refine kD (st' := [.int (nI (nb))]) rfl ?_
      refine r_end_i X d_Mo_undo_56 ?_
      exact ⟨rfl, rfl, rfl⟩
    · -- not taken
      exact False.elim (by omega)
  · -- not taken
    exact False.elim (by have e := in_nat (a := 1) (j := q) (m := 20) (by omega) (by omega) (by decide); exact absurd (c_9.symm.trans e) (by decide))

set_option maxHeartbeats 4000000 in
set_option maxRecDepth 100000 in
theorem m_Mo_see_o (l : Launch) (o : OM) (mi : MI) (ml : ML) (q : Int32) (hq : q < nI 0 ∨ nI 64 < q) : ConD l y_Mo_see c_Mo_see 2 (some .int) 8 270 o [.ref (ads o (95)), .int (q)] mi ml (some (.int (((-1000000002 : Int32))))) mi ml := by
  refine Con.mk (by decide) (Nat.le_of_ble_eq_true rfl) (fun γ X => ?_)
  show V γ o 2 mi ml 0 [(0, .ref (ads o (95))), (1, .int (q))] []
  refine r_iload_n X 1 d_Mo_see_0 rfl rfl ?_
  refine r_i2l X (v := (q).toInt64) d_Mo_see_1 (rfl) ?_
  refine r_lconst X (v := 0) d_Mo_see_2 (by decide) ?_
  refine r_ldc2 X (v := (64 : Int64)) k_Mo_202 d_Mo_see_3 ?_
  refine r_callS X (m_Mo_in l o mi ml ((q).toInt64) 0 (64 : Int64)) ok_Mo_in w_Mo_63 rfl ⟨Nat.le_of_ble_eq_true rfl, Nat.le_of_ble_eq_true rfl⟩ (rest := []) rfl (Nat.le_of_ble_eq_true rfl) d_Mo_see_6 ?_
  refine kD (st' := [.int (bI (!decide (((q).toInt64) < 0) && !decide ((64 : Int64) < ((q).toInt64))))]) rfl ?_
  refine r_ifneB X (tgt := 15) (b := !decide (((q).toInt64) < 0) && !decide ((64 : Int64) < ((q).toInt64))) d_Mo_see_9 (by decide) (fun c_9 => ?_) (fun c_9 => ?_)
  · -- taken
    exact False.elim (by have e := in_out (a := 0) (m := 64) (by decide) (by decide) hq; exact absurd (c_9.symm.trans e) (by decide))
  · -- not taken
    refine r_ldc X (v := ((-1000000002 : Int32))) k_Mo_144 (by decide) d_Mo_see_12 ?_
    refine r_end_i X d_Mo_see_14 ?_
    first | exact ⟨rfl, rfl, rfl⟩ | (refine ⟨?_, rfl, rfl⟩; simp_all)

set_option maxHeartbeats 4000000 in
set_option maxRecDepth 100000 in
theorem m_Mo_see_f (l : Launch) (o : OM) (mi : MI) (ml : ML) (q : Nat) (s : Nat) (hs : mi 95 10 = nI s) (hs6 : s ≤ 6) (hq : q ≤ 64) (h6 : s = 6) : ConD l y_Mo_see c_Mo_see 2 (some .int) 8 270 o [.ref (ads o (95)), .int (nI (q))] mi ml (some (.int (((-1000000004 : Int32))))) mi ml := by
  refine Con.mk (by decide) (Nat.le_of_ble_eq_true rfl) (fun γ X => ?_)
  show V γ o 2 mi ml 0 [(0, .ref (ads o (95))), (1, .int (nI (q)))] []
  refine r_iload_n X 1 d_Mo_see_0 rfl rfl ?_
  refine r_i2l X (v := lN (q)) d_Mo_see_1 (nI_l (by omega)) ?_
  refine r_lconst X (v := 0) d_Mo_see_2 (by decide) ?_
  refine r_ldc2 X (v := (64 : Int64)) k_Mo_202 d_Mo_see_3 ?_
  refine r_callS X (m_Mo_in l o mi ml (lN (q)) 0 (64 : Int64)) ok_Mo_in w_Mo_63 rfl ⟨Nat.le_of_ble_eq_true rfl, Nat.le_of_ble_eq_true rfl⟩ (rest := []) rfl (Nat.le_of_ble_eq_true rfl) d_Mo_see_6 ?_
  refine kD (st' := [.int (bI (!decide ((lN (q)) < 0) && !decide ((64 : Int64) < (lN (q)))))]) rfl ?_
  refine r_ifneB X (tgt := 15) (b := !decide ((lN (q)) < 0) && !decide ((64 : Int64) < (lN (q)))) d_Mo_see_9 (by decide) (fun c_9 => ?_) (fun c_9 => ?_)
  · -- taken
    refine r_aload_n X 0 d_Mo_see_15 rfl rfl ?_
    refine r_get X f_Mo_100 b_95 e_95 (v := .int (nI (s))) (congrArg (fun z => some (Value.int z)) (hs)) d_Mo_see_16 ?_
    refine r_bipush X (v := nI (6)) d_Mo_see_19 (by decide) ?_
    refine r_icneP X (tgt := 27) (c := s = 6) d_Mo_see_21 (by decide) (nI_eq (by omega) (Nat.le_of_ble_eq_true rfl)) (fun c_21 => ?_) (fun c_21 => ?_)
    · -- taken
      exact False.elim (by omega)
    · -- not taken
      refine r_ldc X (v := ((-1000000004 : Int32))) k_Mo_176 (by decide) d_Mo_see_24 ?_
      refine r_end_i X d_Mo_see_26 ?_
      first | exact ⟨rfl, rfl, rfl⟩ | (refine ⟨?_, rfl, rfl⟩; simp_all)
  · -- not taken
    exact False.elim (by have e := in_nat (a := 0) (j := q) (m := 64) (by omega) (by omega) (by decide); exact absurd (c_9.symm.trans e) (by decide))

set_option maxHeartbeats 4000000 in
set_option maxRecDepth 100000 in
theorem m_Mo_see_i (l : Launch) (o : OM) (mi : MI) (ml : ML) (q : Nat) (s : Nat) (hs : mi 95 10 = nI s) (hs6 : s < 6) (hq : q ≤ 64) : ConD l y_Mo_see c_Mo_see 2 (some .int) 8 270 o [.ref (ads o (95)), .int (nI (q))] mi ml (some (.int (nI (s + 1)))) (u2 (u2 mi 105 s (nI q)) 95 10 (nI (s + 1))) (u2 ml 104 s (ml 96 0)) := by
  refine Con.mk (by decide) (Nat.le_of_ble_eq_true rfl) (fun γ X => ?_)
  show V γ o 2 mi ml 0 [(0, .ref (ads o (95))), (1, .int (nI (q)))] []
  refine r_iload_n X 1 d_Mo_see_0 rfl rfl ?_
  refine r_i2l X (v := lN (q)) d_Mo_see_1 (nI_l (by omega)) ?_
  refine r_lconst X (v := 0) d_Mo_see_2 (by decide) ?_
  refine r_ldc2 X (v := (64 : Int64)) k_Mo_202 d_Mo_see_3 ?_
  refine r_callS X (m_Mo_in l o mi ml (lN (q)) 0 (64 : Int64)) ok_Mo_in w_Mo_63 rfl ⟨Nat.le_of_ble_eq_true rfl, Nat.le_of_ble_eq_true rfl⟩ (rest := []) rfl (Nat.le_of_ble_eq_true rfl) d_Mo_see_6 ?_
  refine kD (st' := [.int (bI (!decide ((lN (q)) < 0) && !decide ((64 : Int64) < (lN (q)))))]) rfl ?_
  refine r_ifneB X (tgt := 15) (b := !decide ((lN (q)) < 0) && !decide ((64 : Int64) < (lN (q)))) d_Mo_see_9 (by decide) (fun c_9 => ?_) (fun c_9 => ?_)
  · -- taken
    refine r_aload_n X 0 d_Mo_see_15 rfl rfl ?_
    refine r_get X f_Mo_100 b_95 e_95 (v := .int (nI (s))) (congrArg (fun z => some (Value.int z)) (hs)) d_Mo_see_16 ?_
    refine r_bipush X (v := nI (6)) d_Mo_see_19 (by decide) ?_
    refine r_icneP X (tgt := 27) (c := s = 6) d_Mo_see_21 (by decide) (nI_eq (by omega) (Nat.le_of_ble_eq_true rfl)) (fun c_21 => ?_) (fun c_21 => ?_)
    · -- taken
      refine r_aload_n X 0 d_Mo_see_27 rfl rfl ?_
      refine r_get X f_Mo_36 b_95 e_95 (v := .ref (ads o (104))) rfl d_Mo_see_28 ?_
      refine r_aload_n X 0 d_Mo_see_31 rfl rfl ?_
      refine r_get X f_Mo_100 b_95 e_95 (v := .int (nI (s))) (congrArg (fun z => some (Value.int z)) (hs)) d_Mo_see_32 ?_
      refine r_aload_n X 0 d_Mo_see_35 rfl rfl ?_
      refine r_get X f_Mo_7 b_95 e_95 (v := .ref (ads o (96))) rfl d_Mo_see_36 ?_
      refine r_iconst X (v := nI (0)) d_Mo_see_39 (by decide) ?_
      refine r_lald X (v := ml 96 0) b_96 e_96 (Nat.le_of_ble_eq_true rfl) (by omega) (rfl) d_Mo_see_40 ?_
      refine r_last X b_104 e_104 (Nat.le_of_ble_eq_true rfl) (by omega) d_Mo_see_41 ?_
      refine r_aload_n X 0 d_Mo_see_42 rfl rfl ?_
      refine r_get X f_Mo_39 b_95 e_95 (v := .ref (ads o (105))) rfl d_Mo_see_43 ?_
      refine r_aload_n X 0 d_Mo_see_46 rfl rfl ?_
      refine r_get X f_Mo_100 b_95 e_95 (v := .int (nI (s))) (congrArg (fun z => some (Value.int z)) (hs)) d_Mo_see_47 ?_
      refine r_iload_n X 1 d_Mo_see_50 rfl rfl ?_
      refine r_iast X b_105 e_105 (Nat.le_of_ble_eq_true rfl) (by omega) d_Mo_see_51 ?_
      refine r_aload_n X 0 d_Mo_see_52 rfl rfl ?_
      refine r_dup X d_Mo_see_53 rfl ?_
      refine r_get X f_Mo_100 b_95 e_95 (v := .int (nI (s))) (congrArg (fun z => some (Value.int z)) ((by rw [u2_n _ _ _ (by decide)] <;> exact hs))) d_Mo_see_54 ?_
      refine r_iconst X (v := nI (1)) d_Mo_see_57 (by decide) ?_
      refine r_iadd X (v := nI (s + 1)) d_Mo_see_58 (nI_add _ _) ?_
      refine r_putI X fw_Mo_100 b_95 e_95 (fun _ _ => rfl) (Nat.le_of_ble_eq_true rfl) d_Mo_see_59 ?_
      refine r_aload_n X 0 d_Mo_see_62 rfl rfl ?_
      refine r_get X f_Mo_100 b_95 e_95 (v := .int (nI (s + 1))) (congrArg (fun z => some (Value.int z)) ((by rw [u2_s, uf_s]))) d_Mo_see_63 ?_
      refine r_end_i X d_Mo_see_66 ?_
      exact ⟨rfl, rfl, rfl⟩
    · -- not taken
      exact False.elim (by omega)
  · -- not taken
    exact False.elim (by have e := in_nat (a := 0) (j := q) (m := 64) (by omega) (by omega) (by decide); exact absurd (c_9.symm.trans e) (by decide))

set_option maxHeartbeats 4000000 in
set_option maxRecDepth 100000 in
theorem m_Mo_write_u (l : Launch) (o : OM) (mi : MI) (ml : ML) (j : Int32) (k : Int32) (q : Int32) (n : Nat) (hn : ml 96 2 = lN n) (hn40 : n ≤ 40) (hu : (isMk n j && (isMk n k && !decide (j = k))) = false) : ConD l y_Mo_write c_Mo_write 4 (some .int) 8 270 o [.ref (ads o (95)), .int (j), .int (k), .int (q)] mi ml (some (.int (((-1000000001 : Int32))))) mi ml := by
  refine Con.mk (by decide) (Nat.le_of_ble_eq_true rfl) (fun γ X => ?_)
  show V γ o 4 mi ml 0 [(0, .ref (ads o (95))), (1, .int (j)), (2, .int (k)), (3, .int (q))] []
  refine r_aload_n X 0 d_Mo_write_0 rfl rfl ?_
  refine r_iload_n X 1 d_Mo_write_1 rfl rfl ?_
  refine r_callV X (m_Mo_isMark l o mi ml j n (hn) hn40) ok_Mo_isMark w_Mo_114 rfl b_95 e_95 rfl ⟨Nat.le_of_ble_eq_true rfl, Nat.le_of_ble_eq_true rfl⟩ (rest := []) rfl (Nat.le_of_ble_eq_true rfl) d_Mo_write_2 ?_
  refine kD (st' := [.int (bI (isMk n j))]) rfl ?_
  refine r_ifeqB X (tgt := 21) (b := isMk n j) d_Mo_write_5 (by decide) (fun c_5 => ?_) (fun c_5 => ?_)
  · -- taken
    refine r_ldc X (v := ((-1000000001 : Int32))) k_Mo_145 (by decide) d_Mo_write_21 ?_
    refine r_end_i X d_Mo_write_23 ?_
    first | exact ⟨rfl, rfl, rfl⟩ | (refine ⟨?_, rfl, rfl⟩; simp_all)
  · -- not taken
    refine r_aload_n X 0 d_Mo_write_8 rfl rfl ?_
    refine r_iload_n X 2 d_Mo_write_9 rfl rfl ?_
    refine r_callV X (m_Mo_isMark l o mi ml k n (hn) hn40) ok_Mo_isMark w_Mo_114 rfl b_95 e_95 rfl ⟨Nat.le_of_ble_eq_true rfl, Nat.le_of_ble_eq_true rfl⟩ (rest := []) rfl (Nat.le_of_ble_eq_true rfl) d_Mo_write_10 ?_
    refine kD (st' := [.int (bI (isMk n k))]) rfl ?_
    refine r_ifeqB X (tgt := 21) (b := isMk n k) d_Mo_write_13 (by decide) (fun c_13 => ?_) (fun c_13 => ?_)
    · -- taken
      refine r_ldc X (v := ((-1000000001 : Int32))) k_Mo_145 (by decide) d_Mo_write_21 ?_
      refine r_end_i X d_Mo_write_23 ?_
      first | exact ⟨rfl, rfl, rfl⟩ | (refine ⟨?_, rfl, rfl⟩; simp_all)
    · -- not taken
      refine r_iload_n X 1 d_Mo_write_16 rfl rfl ?_
      refine r_iload_n X 2 d_Mo_write_17 rfl rfl ?_
      refine r_icneP X (tgt := 24) (c := j = k) d_Mo_write_18 (by decide) (Iff.rfl) (fun c_18 => ?_) (fun c_18 => ?_)
      · -- taken
        exact False.elim (by simp_all)
      · -- not taken
        refine r_ldc X (v := ((-1000000001 : Int32))) k_Mo_145 (by decide) d_Mo_write_21 ?_
        refine r_end_i X d_Mo_write_23 ?_
        first | exact ⟨rfl, rfl, rfl⟩ | (refine ⟨?_, rfl, rfl⟩; simp_all)

set_option maxHeartbeats 4000000 in
set_option maxRecDepth 100000 in
theorem m_Mo_write_o (l : Launch) (o : OM) (mi : MI) (ml : ML) (j : Nat) (k : Nat) (q : Int32) (n : Nat) (hn : ml 96 2 = lN n) (hn40 : n ≤ 40) (hj : j < n) (hk : k < n) (hjk : j ≠ k) (hq : q < nI 0 ∨ nI 64 < q) : ConD l y_Mo_write c_Mo_write 4 (some .int) 8 270 o [.ref (ads o (95)), .int (nI (j)), .int (nI (k)), .int (q)] mi ml (some (.int (((-1000000002 : Int32))))) mi ml := by
  refine Con.mk (by decide) (Nat.le_of_ble_eq_true rfl) (fun γ X => ?_)
  show V γ o 4 mi ml 0 [(0, .ref (ads o (95))), (1, .int (nI (j))), (2, .int (nI (k))), (3, .int (q))] []
  refine r_aload_n X 0 d_Mo_write_0 rfl rfl ?_
  refine r_iload_n X 1 d_Mo_write_1 rfl rfl ?_
  refine r_callV X (m_Mo_isMark l o mi ml (nI (j)) n (hn) hn40) ok_Mo_isMark w_Mo_114 rfl b_95 e_95 rfl ⟨Nat.le_of_ble_eq_true rfl, Nat.le_of_ble_eq_true rfl⟩ (rest := []) rfl (Nat.le_of_ble_eq_true rfl) d_Mo_write_2 ?_
  refine kD (st' := [.int (bI (isMk n (nI (j))))]) rfl ?_
  refine r_ifeqB X (tgt := 21) (b := isMk n (nI (j))) d_Mo_write_5 (by decide) (fun c_5 => ?_) (fun c_5 => ?_)
  · -- taken
    exact False.elim (by rw [isMk_nI (by omega) (by omega)] at c_5; simp at c_5; omega)
  · -- not taken
    refine r_aload_n X 0 d_Mo_write_8 rfl rfl ?_
    refine r_iload_n X 2 d_Mo_write_9 rfl rfl ?_
    refine r_callV X (m_Mo_isMark l o mi ml (nI (k)) n (hn) hn40) ok_Mo_isMark w_Mo_114 rfl b_95 e_95 rfl ⟨Nat.le_of_ble_eq_true rfl, Nat.le_of_ble_eq_true rfl⟩ (rest := []) rfl (Nat.le_of_ble_eq_true rfl) d_Mo_write_10 ?_
    refine kD (st' := [.int (bI (isMk n (nI (k))))]) rfl ?_
    refine r_ifeqB X (tgt := 21) (b := isMk n (nI (k))) d_Mo_write_13 (by decide) (fun c_13 => ?_) (fun c_13 => ?_)
    · -- taken
      exact False.elim (by rw [isMk_nI (by omega) (by omega)] at c_13; simp at c_13; omega)
    · -- not taken
      refine r_iload_n X 1 d_Mo_write_16 rfl rfl ?_
      refine r_iload_n X 2 d_Mo_write_17 rfl rfl ?_
      refine r_icneP X (tgt := 24) (c := j = k) d_Mo_write_18 (by decide) (nI_eq (by omega) (by omega)) (fun c_18 => ?_) (fun c_18 => ?_)
      · -- taken
        refine r_iload_n X 3 d_Mo_write_24 rfl rfl ?_
        refine r_i2l X (v := (q).toInt64) d_Mo_write_25 (rfl) ?_
        refine r_lconst X (v := 0) d_Mo_write_26 (by decide) ?_
        refine r_ldc2 X (v := (64 : Int64)) k_Mo_202 d_Mo_write_27 ?_
        refine r_callS X (m_Mo_in l o mi ml ((q).toInt64) 0 (64 : Int64)) ok_Mo_in w_Mo_63 rfl ⟨Nat.le_of_ble_eq_true rfl, Nat.le_of_ble_eq_true rfl⟩ (rest := []) rfl (Nat.le_of_ble_eq_true rfl) d_Mo_write_30 ?_
        refine kD (st' := [.int (bI (!decide (((q).toInt64) < 0) && !decide ((64 : Int64) < ((q).toInt64))))]) rfl ?_
        refine r_ifneB X (tgt := 39) (b := !decide (((q).toInt64) < 0) && !decide ((64 : Int64) < ((q).toInt64))) d_Mo_write_33 (by decide) (fun c_33 => ?_) (fun c_33 => ?_)
        · -- taken
          exact False.elim (by have e := in_out (a := 0) (m := 64) (by decide) (by decide) hq; exact absurd (c_33.symm.trans e) (by decide))
        · -- not taken
          refine r_ldc X (v := ((-1000000002 : Int32))) k_Mo_144 (by decide) d_Mo_write_36 ?_
          refine r_end_i X d_Mo_write_38 ?_
          first | exact ⟨rfl, rfl, rfl⟩ | (refine ⟨?_, rfl, rfl⟩; simp_all)
      · -- not taken
        exact False.elim (by omega)

set_option maxHeartbeats 4000000 in
set_option maxRecDepth 100000 in
theorem m_Mo_write_f (l : Launch) (o : OM) (mi : MI) (ml : ML) (j : Nat) (k : Nat) (q : Nat) (n : Nat) (E : Nat) (hn : ml 96 2 = lN n) (hn40 : n ≤ 40) (hj : j < n) (hk : k < n) (hjk : j ≠ k) (hE : mi 95 13 = nI E) (hE20 : E ≤ 20) (hq : q ≤ 64) (h20 : E = 20) : ConD l y_Mo_write c_Mo_write 4 (some .int) 8 270 o [.ref (ads o (95)), .int (nI (j)), .int (nI (k)), .int (nI (q))] mi ml (some (.int (((-1000000004 : Int32))))) mi ml := by
  refine Con.mk (by decide) (Nat.le_of_ble_eq_true rfl) (fun γ X => ?_)
  show V γ o 4 mi ml 0 [(0, .ref (ads o (95))), (1, .int (nI (j))), (2, .int (nI (k))), (3, .int (nI (q)))] []
  refine r_aload_n X 0 d_Mo_write_0 rfl rfl ?_
  refine r_iload_n X 1 d_Mo_write_1 rfl rfl ?_
  refine r_callV X (m_Mo_isMark l o mi ml (nI (j)) n (hn) hn40) ok_Mo_isMark w_Mo_114 rfl b_95 e_95 rfl ⟨Nat.le_of_ble_eq_true rfl, Nat.le_of_ble_eq_true rfl⟩ (rest := []) rfl (Nat.le_of_ble_eq_true rfl) d_Mo_write_2 ?_
  refine kD (st' := [.int (bI (isMk n (nI (j))))]) rfl ?_
  refine r_ifeqB X (tgt := 21) (b := isMk n (nI (j))) d_Mo_write_5 (by decide) (fun c_5 => ?_) (fun c_5 => ?_)
  · -- taken
    exact False.elim (by rw [isMk_nI (by omega) (by omega)] at c_5; simp at c_5; omega)
  · -- not taken
    refine r_aload_n X 0 d_Mo_write_8 rfl rfl ?_
    refine r_iload_n X 2 d_Mo_write_9 rfl rfl ?_
    refine r_callV X (m_Mo_isMark l o mi ml (nI (k)) n (hn) hn40) ok_Mo_isMark w_Mo_114 rfl b_95 e_95 rfl ⟨Nat.le_of_ble_eq_true rfl, Nat.le_of_ble_eq_true rfl⟩ (rest := []) rfl (Nat.le_of_ble_eq_true rfl) d_Mo_write_10 ?_
    refine kD (st' := [.int (bI (isMk n (nI (k))))]) rfl ?_
    refine r_ifeqB X (tgt := 21) (b := isMk n (nI (k))) d_Mo_write_13 (by decide) (fun c_13 => ?_) (fun c_13 => ?_)
    · -- taken
      exact False.elim (by rw [isMk_nI (by omega) (by omega)] at c_13; simp at c_13; omega)
    · -- not taken
      refine r_iload_n X 1 d_Mo_write_16 rfl rfl ?_
      refine r_iload_n X 2 d_Mo_write_17 rfl rfl ?_
      refine r_icneP X (tgt := 24) (c := j = k) d_Mo_write_18 (by decide) (nI_eq (by omega) (by omega)) (fun c_18 => ?_) (fun c_18 => ?_)
      · -- taken
        refine r_iload_n X 3 d_Mo_write_24 rfl rfl ?_
        refine r_i2l X (v := lN (q)) d_Mo_write_25 (nI_l (by omega)) ?_
        refine r_lconst X (v := 0) d_Mo_write_26 (by decide) ?_
        refine r_ldc2 X (v := (64 : Int64)) k_Mo_202 d_Mo_write_27 ?_
        refine r_callS X (m_Mo_in l o mi ml (lN (q)) 0 (64 : Int64)) ok_Mo_in w_Mo_63 rfl ⟨Nat.le_of_ble_eq_true rfl, Nat.le_of_ble_eq_true rfl⟩ (rest := []) rfl (Nat.le_of_ble_eq_true rfl) d_Mo_write_30 ?_
        refine kD (st' := [.int (bI (!decide ((lN (q)) < 0) && !decide ((64 : Int64) < (lN (q)))))]) rfl ?_
        refine r_ifneB X (tgt := 39) (b := !decide ((lN (q)) < 0) && !decide ((64 : Int64) < (lN (q)))) d_Mo_write_33 (by decide) (fun c_33 => ?_) (fun c_33 => ?_)
        · -- taken
          refine r_aload_n X 0 d_Mo_write_39 rfl rfl ?_
          refine r_get X f_Mo_111 b_95 e_95 (v := .int (nI (E))) (congrArg (fun z => some (Value.int z)) (hE)) d_Mo_write_40 ?_
          refine r_bipush X (v := nI (20)) d_Mo_write_43 (by decide) ?_
          refine r_icneP X (tgt := 51) (c := E = 20) d_Mo_write_45 (by decide) (nI_eq (by omega) (Nat.le_of_ble_eq_true rfl)) (fun c_45 => ?_) (fun c_45 => ?_)
          · -- taken
            exact False.elim (by omega)
          · -- not taken
            refine r_ldc X (v := ((-1000000004 : Int32))) k_Mo_176 (by decide) d_Mo_write_48 ?_
            refine r_end_i X d_Mo_write_50 ?_
            first | exact ⟨rfl, rfl, rfl⟩ | (refine ⟨?_, rfl, rfl⟩; simp_all)
        · -- not taken
          exact False.elim (by have e := in_nat (a := 0) (j := q) (m := 64) (by omega) (by omega) (by decide); exact absurd (c_33.symm.trans e) (by decide))
      · -- not taken
        exact False.elim (by omega)

set_option maxHeartbeats 4000000 in
set_option maxRecDepth 100000 in
theorem m_Mo_write_i (l : Launch) (o : OM) (mi : MI) (ml : ML) (j : Nat) (k : Nat) (q : Nat) (n : Nat) (E : Nat) (hn : ml 96 2 = lN n) (hn40 : n ≤ 40) (hj : j < n) (hk : k < n) (hjk : j ≠ k) (hE : mi 95 13 = nI E) (hE20 : E < 20) (hq : q ≤ 64) : ConD l y_Mo_write c_Mo_write 4 (some .int) 8 270 o [.ref (ads o (95)), .int (nI (j)), .int (nI (k)), .int (nI (q))] mi ml (some (.int (nI (E + 1)))) (u2 (u2 (u2 (u2 mi 106 E (nI j)) 107 E (nI k)) 108 E (nI q)) 95 13 (nI (E + 1))) ml := by
  refine Con.mk (by decide) (Nat.le_of_ble_eq_true rfl) (fun γ X => ?_)
  show V γ o 4 mi ml 0 [(0, .ref (ads o (95))), (1, .int (nI (j))), (2, .int (nI (k))), (3, .int (nI (q)))] []
  refine r_aload_n X 0 d_Mo_write_0 rfl rfl ?_
  refine r_iload_n X 1 d_Mo_write_1 rfl rfl ?_
  refine r_callV X (m_Mo_isMark l o mi ml (nI (j)) n (hn) hn40) ok_Mo_isMark w_Mo_114 rfl b_95 e_95 rfl ⟨Nat.le_of_ble_eq_true rfl, Nat.le_of_ble_eq_true rfl⟩ (rest := []) rfl (Nat.le_of_ble_eq_true rfl) d_Mo_write_2 ?_
  refine kD (st' := [.int (bI (isMk n (nI (j))))]) rfl ?_
  refine r_ifeqB X (tgt := 21) (b := isMk n (nI (j))) d_Mo_write_5 (by decide) (fun c_5 => ?_) (fun c_5 => ?_)
  · -- taken
    exact False.elim (by rw [isMk_nI (by omega) (by omega)] at c_5; simp at c_5; omega)
  · -- not taken
    refine r_aload_n X 0 d_Mo_write_8 rfl rfl ?_
    refine r_iload_n X 2 d_Mo_write_9 rfl rfl ?_
    refine r_callV X (m_Mo_isMark l o mi ml (nI (k)) n (hn) hn40) ok_Mo_isMark w_Mo_114 rfl b_95 e_95 rfl ⟨Nat.le_of_ble_eq_true rfl, Nat.le_of_ble_eq_true rfl⟩ (rest := []) rfl (Nat.le_of_ble_eq_true rfl) d_Mo_write_10 ?_
    refine kD (st' := [.int (bI (isMk n (nI (k))))]) rfl ?_
    refine r_ifeqB X (tgt := 21) (b := isMk n (nI (k))) d_Mo_write_13 (by decide) (fun c_13 => ?_) (fun c_13 => ?_)
    · -- taken
      exact False.elim (by rw [isMk_nI (by omega) (by omega)] at c_13; simp at c_13; omega)
    · -- not taken
      refine r_iload_n X 1 d_Mo_write_16 rfl rfl ?_
      refine r_iload_n X 2 d_Mo_write_17 rfl rfl ?_
      refine r_icneP X (tgt := 24) (c := j = k) d_Mo_write_18 (by decide) (nI_eq (by omega) (by omega)) (fun c_18 => ?_) (fun c_18 => ?_)
      · -- taken
        refine r_iload_n X 3 d_Mo_write_24 rfl rfl ?_
        refine r_i2l X (v := lN (q)) d_Mo_write_25 (nI_l (by omega)) ?_
        refine r_lconst X (v := 0) d_Mo_write_26 (by decide) ?_
        refine r_ldc2 X (v := (64 : Int64)) k_Mo_202 d_Mo_write_27 ?_
        refine r_callS X (m_Mo_in l o mi ml (lN (q)) 0 (64 : Int64)) ok_Mo_in w_Mo_63 rfl ⟨Nat.le_of_ble_eq_true rfl, Nat.le_of_ble_eq_true rfl⟩ (rest := []) rfl (Nat.le_of_ble_eq_true rfl) d_Mo_write_30 ?_
        refine kD (st' := [.int (bI (!decide ((lN (q)) < 0) && !decide ((64 : Int64) < (lN (q)))))]) rfl ?_
        refine r_ifneB X (tgt := 39) (b := !decide ((lN (q)) < 0) && !decide ((64 : Int64) < (lN (q)))) d_Mo_write_33 (by decide) (fun c_33 => ?_) (fun c_33 => ?_)
        · -- taken
          refine r_aload_n X 0 d_Mo_write_39 rfl rfl ?_
          refine r_get X f_Mo_111 b_95 e_95 (v := .int (nI (E))) (congrArg (fun z => some (Value.int z)) (hE)) d_Mo_write_40 ?_
          refine r_bipush X (v := nI (20)) d_Mo_write_43 (by decide) ?_
          refine r_icneP X (tgt := 51) (c := E = 20) d_Mo_write_45 (by decide) (nI_eq (by omega) (Nat.le_of_ble_eq_true rfl)) (fun c_45 => ?_) (fun c_45 => ?_)
          · -- taken
            refine r_aload_n X 0 d_Mo_write_51 rfl rfl ?_
            refine r_get X f_Mo_42 b_95 e_95 (v := .ref (ads o (106))) rfl d_Mo_write_52 ?_
            refine r_aload_n X 0 d_Mo_write_55 rfl rfl ?_
            refine r_get X f_Mo_111 b_95 e_95 (v := .int (nI (E))) (congrArg (fun z => some (Value.int z)) (hE)) d_Mo_write_56 ?_
            refine r_iload_n X 1 d_Mo_write_59 rfl rfl ?_
            refine r_iast X b_106 e_106 (Nat.le_of_ble_eq_true rfl) (by omega) d_Mo_write_60 ?_
            refine r_aload_n X 0 d_Mo_write_61 rfl rfl ?_
            refine r_get X f_Mo_45 b_95 e_95 (v := .ref (ads o (107))) rfl d_Mo_write_62 ?_
            refine r_aload_n X 0 d_Mo_write_65 rfl rfl ?_
            refine r_get X f_Mo_111 b_95 e_95 (v := .int (nI (E))) (congrArg (fun z => some (Value.int z)) ((by rw [u2_n _ _ _ (by decide)] <;> exact hE))) d_Mo_write_66 ?_
            refine r_iload_n X 2 d_Mo_write_69 rfl rfl ?_
            refine r_iast X b_107 e_107 (Nat.le_of_ble_eq_true rfl) (by omega) d_Mo_write_70 ?_
            refine r_aload_n X 0 d_Mo_write_71 rfl rfl ?_
            refine r_get X f_Mo_48 b_95 e_95 (v := .ref (ads o (108))) rfl d_Mo_write_72 ?_
            refine r_aload_n X 0 d_Mo_write_75 rfl rfl ?_
            refine r_get X f_Mo_111 b_95 e_95 (v := .int (nI (E))) (congrArg (fun z => some (Value.int z)) ((by rw [u2_n _ _ _ (by decide)] <;> exact (by rw [u2_n _ _ _ (by decide)] <;> exact hE)))) d_Mo_write_76 ?_
            refine r_iload_n X 3 d_Mo_write_79 rfl rfl ?_
            refine r_iast X b_108 e_108 (Nat.le_of_ble_eq_true rfl) (by omega) d_Mo_write_80 ?_
            refine r_aload_n X 0 d_Mo_write_81 rfl rfl ?_
            refine r_dup X d_Mo_write_82 rfl ?_
            refine r_get X f_Mo_111 b_95 e_95 (v := .int (nI (E))) (congrArg (fun z => some (Value.int z)) ((by rw [u2_n _ _ _ (by decide)] <;> exact (by rw [u2_n _ _ _ (by decide)] <;> exact (by rw [u2_n _ _ _ (by decide)] <;> exact hE))))) d_Mo_write_83 ?_
            refine r_iconst X (v := nI (1)) d_Mo_write_86 (by decide) ?_
            refine r_iadd X (v := nI (E + 1)) d_Mo_write_87 (nI_add _ _) ?_
            refine r_putI X fw_Mo_111 b_95 e_95 (fun _ _ => rfl) (Nat.le_of_ble_eq_true rfl) d_Mo_write_88 ?_
            refine r_aload_n X 0 d_Mo_write_91 rfl rfl ?_
            refine r_get X f_Mo_111 b_95 e_95 (v := .int (nI (E + 1))) (congrArg (fun z => some (Value.int z)) ((by rw [u2_s, uf_s]))) d_Mo_write_92 ?_
            refine r_end_i X d_Mo_write_95 ?_
            exact ⟨rfl, rfl, rfl⟩
          · -- not taken
            exact False.elim (by omega)
        · -- not taken
          exact False.elim (by have e := in_nat (a := 0) (j := q) (m := 64) (by omega) (by omega) (by decide); exact absurd (c_33.symm.trans e) (by decide))
      · -- not taken
        exact False.elim (by omega)

set_option maxHeartbeats 4000000 in
set_option maxRecDepth 100000 in
theorem m_Mo_tear (l : Launch) (o : OM) (mi : MI) (ml : ML) (s : Nat) (E : Nat) (hs : mi 95 10 = nI s) (hs6 : s ≤ 6) (hE : mi 95 13 = nI E) (hE20 : E ≤ 20) : ConD l y_Mo_tear c_Mo_tear 2 (some .int) 8 270 o [.ref (ads o (95))] mi ml (some (.int (nI (s + E)))) (u2 (u2 mi 95 10 (nI 0)) 95 13 (nI 0)) ml := by
  refine Con.mk (by decide) (Nat.le_of_ble_eq_true rfl) (fun γ X => ?_)
  show V γ o 2 mi ml 0 [(0, .ref (ads o (95)))] []
  refine r_aload_n X 0 d_Mo_tear_0 rfl rfl ?_
  refine r_get X f_Mo_100 b_95 e_95 (v := .int (nI (s))) (congrArg (fun z => some (Value.int z)) (hs)) d_Mo_tear_1 ?_
  refine r_aload_n X 0 d_Mo_tear_4 rfl rfl ?_
  refine r_get X f_Mo_111 b_95 e_95 (v := .int (nI (E))) (congrArg (fun z => some (Value.int z)) (hE)) d_Mo_tear_5 ?_
  refine r_iadd X (v := nI (s + E)) d_Mo_tear_8 (nI_add _ _) ?_
  refine r_istore_n X [(1, .int (nI (s + E))), (0, .ref (ads o (95)))] d_Mo_tear_9 rfl (Nat.le_of_ble_eq_true rfl) rfl ?_
  refine r_aload_n X 1 d_Mo_tear_10 rfl rfl ?_
  refine r_iconst X (v := nI (0)) d_Mo_tear_11 (by decide) ?_
  refine r_putI X fw_Mo_100 b_95 e_95 (fun _ _ => rfl) (Nat.le_of_ble_eq_true rfl) d_Mo_tear_12 ?_
  refine r_aload_n X 1 d_Mo_tear_15 rfl rfl ?_
  refine r_iconst X (v := nI (0)) d_Mo_tear_16 (by decide) ?_
  refine r_putI X fw_Mo_111 b_95 e_95 (fun _ _ => rfl) (Nat.le_of_ble_eq_true rfl) d_Mo_tear_17 ?_
  refine r_iload_n X 0 d_Mo_tear_20 rfl rfl ?_
  refine r_end_i X d_Mo_tear_21 ?_
  exact ⟨rfl, rfl, rfl⟩

set_option maxHeartbeats 4000000 in
set_option maxRecDepth 100000 in
theorem m_Mo_seed_o (l : Launch) (o : OM) (mi : MI) (ml : ML) (v : Int32) (hv : ¬ 0 ≤ v) : ConD l y_Mo_seed c_Mo_seed 3 (some .int) 8 270 o [.ref (ads o (95)), .int (v)] mi ml (some (.int (((-1000000002 : Int32))))) mi ml := by
  refine Con.mk (by decide) (Nat.le_of_ble_eq_true rfl) (fun γ X => ?_)
  show V γ o 3 mi ml 0 [(0, .ref (ads o (95))), (1, .int (v))] []
  refine r_iload_n X 1 d_Mo_seed_0 rfl rfl ?_
  refine r_ifge X (tgt := 7) (c := 0 ≤ v) d_Mo_seed_1 (by decide) (Iff.rfl) (fun c_1 => ?_) (fun c_1 => ?_)
  · -- taken
    exact False.elim (by exact hv c_1)
  · -- not taken
    refine r_ldc X (v := ((-1000000002 : Int32))) k_Mo_144 (by decide) d_Mo_seed_4 ?_
    refine r_end_i X d_Mo_seed_6 ?_
    first | exact ⟨rfl, rfl, rfl⟩ | (refine ⟨?_, rfl, rfl⟩; simp_all)

set_option maxHeartbeats 4000000 in
set_option maxRecDepth 100000 in
theorem m_Mo_seed_i (l : Launch) (o : OM) (mi : MI) (ml : ML) (v : Int32) (hv : 0 ≤ v) : ConD l y_Mo_seed c_Mo_seed 3 (some .int) 8 270 o [.ref (ads o (95)), .int (v)] mi ml (some (.int ((mi 95 9)))) (u2 mi 95 9 v) ml := by
  refine Con.mk (by decide) (Nat.le_of_ble_eq_true rfl) (fun γ X => ?_)
  show V γ o 3 mi ml 0 [(0, .ref (ads o (95))), (1, .int (v))] []
  refine r_iload_n X 1 d_Mo_seed_0 rfl rfl ?_
  refine r_ifge X (tgt := 7) (c := 0 ≤ v) d_Mo_seed_1 (by decide) (Iff.rfl) (fun c_1 => ?_) (fun c_1 => ?_)
  · -- taken
    refine r_aload_n X 0 d_Mo_seed_7 rfl rfl ?_
    refine r_get X f_Mo_181 b_95 e_95 (v := .int ((mi 95 9))) rfl d_Mo_seed_8 ?_
    refine r_istore_n X [(2, .int ((mi 95 9))), (0, .ref (ads o (95))), (1, .int (v))] d_Mo_seed_11 rfl (Nat.le_of_ble_eq_true rfl) rfl ?_
    refine r_aload_n X 1 d_Mo_seed_12 rfl rfl ?_
    refine r_iload_n X 2 d_Mo_seed_13 rfl rfl ?_
    refine r_putI X fw_Mo_181 b_95 e_95 (fun _ _ => rfl) (Nat.le_of_ble_eq_true rfl) d_Mo_seed_14 ?_
    refine r_iload_n X 0 d_Mo_seed_17 rfl rfl ?_
    refine r_end_i X d_Mo_seed_18 ?_
    exact ⟨rfl, rfl, rfl⟩
  · -- not taken
    exact False.elim (by exact c_1 hv)

set_option maxHeartbeats 4000000 in
set_option maxRecDepth 100000 in
theorem m_Mo_keep_u (l : Launch) (o : OM) (mi : MI) (ml : ML) (q : Int32) (hq : q < nI 0 ∨ nI 1 < q) : ConD l y_Mo_keep c_Mo_keep 2 (some .int) 8 270 o [.ref (ads o (95)), .int (q)] mi ml (some (.int (((-1000000001 : Int32))))) mi ml := by
  refine Con.mk (by decide) (Nat.le_of_ble_eq_true rfl) (fun γ X => ?_)
  show V γ o 2 mi ml 0 [(0, .ref (ads o (95))), (1, .int (q))] []
  refine r_iload_n X 1 d_Mo_keep_0 rfl rfl ?_
  refine r_i2l X (v := (q).toInt64) d_Mo_keep_1 (rfl) ?_
  refine r_lconst X (v := 0) d_Mo_keep_2 (by decide) ?_
  refine r_lconst X (v := 1) d_Mo_keep_3 (by decide) ?_
  refine r_callS X (m_Mo_in l o mi ml ((q).toInt64) 0 1) ok_Mo_in w_Mo_63 rfl ⟨Nat.le_of_ble_eq_true rfl, Nat.le_of_ble_eq_true rfl⟩ (rest := []) rfl (Nat.le_of_ble_eq_true rfl) d_Mo_keep_4 ?_
  refine kD (st' := [.int (bI (!decide (((q).toInt64) < 0) && !decide (1 < ((q).toInt64))))]) rfl ?_
  refine r_ifneB X (tgt := 13) (b := !decide (((q).toInt64) < 0) && !decide (1 < ((q).toInt64))) d_Mo_keep_7 (by decide) (fun c_7 => ?_) (fun c_7 => ?_)
  · -- taken
    exact False.elim (by have e := in_out (a := 0) (m := 1) (by decide) (by decide) hq; exact absurd (c_7.symm.trans e) (by decide))
  · -- not taken
    refine r_ldc X (v := ((-1000000001 : Int32))) k_Mo_145 (by decide) d_Mo_keep_10 ?_
    refine r_end_i X d_Mo_keep_12 ?_
    first | exact ⟨rfl, rfl, rfl⟩ | (refine ⟨?_, rfl, rfl⟩; simp_all)

set_option maxHeartbeats 4000000 in
set_option maxRecDepth 100000 in
theorem m_Mo_keep_i (l : Launch) (o : OM) (mi : MI) (ml : ML) (q : Nat) (hq : q < 2) : ConD l y_Mo_keep c_Mo_keep 2 (some .int) 8 270 o [.ref (ads o (95)), .int (nI (q))] mi ml (some (.int (nI (1)))) (u2 (u2 (u2 (cpL mi 101 (40 * q) 97 0 40) 102 q ((cpL mi 101 (40 * q) 97 0 40) 95 9)) 103 q (nI 1)) 95 2 (nI 0)) (cpL ml 100 (43 * q) 96 0 43) := by
  refine Con.mk (by decide) (Nat.le_of_ble_eq_true rfl) (fun γ X => ?_)
  show V γ o 2 mi ml 0 [(0, .ref (ads o (95))), (1, .int (nI (q)))] []
  refine r_iload_n X 1 d_Mo_keep_0 rfl rfl ?_
  refine r_i2l X (v := lN (q)) d_Mo_keep_1 (nI_l (by omega)) ?_
  refine r_lconst X (v := 0) d_Mo_keep_2 (by decide) ?_
  refine r_lconst X (v := 1) d_Mo_keep_3 (by decide) ?_
  refine r_callS X (m_Mo_in l o mi ml (lN (q)) 0 1) ok_Mo_in w_Mo_63 rfl ⟨Nat.le_of_ble_eq_true rfl, Nat.le_of_ble_eq_true rfl⟩ (rest := []) rfl (Nat.le_of_ble_eq_true rfl) d_Mo_keep_4 ?_
  refine kD (st' := [.int (bI (!decide ((lN (q)) < 0) && !decide (1 < (lN (q)))))]) rfl ?_
  refine r_ifneB X (tgt := 13) (b := !decide ((lN (q)) < 0) && !decide (1 < (lN (q)))) d_Mo_keep_7 (by decide) (fun c_7 => ?_) (fun c_7 => ?_)
  · -- taken
    refine r_aload_n X 0 d_Mo_keep_13 rfl rfl ?_
    refine r_aload_n X 0 d_Mo_keep_14 rfl rfl ?_
    refine r_get X f_Mo_23 b_95 e_95 (v := .ref (ads o (100))) rfl d_Mo_keep_15 ?_
    refine r_aload_n X 0 d_Mo_keep_18 rfl rfl ?_
    refine r_get X f_Mo_26 b_95 e_95 (v := .ref (ads o (101))) rfl d_Mo_keep_19 ?_
    refine r_iload_n X 1 d_Mo_keep_22 rfl rfl ?_
    refine r_callV X (m_Mo_lay_m l o mi ml q (by omega)) ok_Mo_lay w_Mo_155 rfl b_95 e_95 rfl ⟨Nat.le_of_ble_eq_true rfl, Nat.le_of_ble_eq_true rfl⟩ (rest := []) rfl (Nat.le_of_ble_eq_true rfl) d_Mo_keep_23 ?_
    refine kD (st' := []) rfl ?_
    refine r_aload_n X 0 d_Mo_keep_26 rfl rfl ?_
    refine r_get X f_Mo_29 b_95 e_95 (v := .ref (ads o (102))) rfl d_Mo_keep_27 ?_
    refine r_iload_n X 1 d_Mo_keep_30 rfl rfl ?_
    refine r_aload_n X 0 d_Mo_keep_31 rfl rfl ?_
    refine r_get X f_Mo_181 b_95 e_95 (v := .int (((cpL mi 101 (40 * q) 97 0 (40)) 95 9))) rfl d_Mo_keep_32 ?_
    refine r_iast X b_102 e_102 (Nat.le_of_ble_eq_true rfl) (by omega) d_Mo_keep_35 ?_
    refine r_aload_n X 0 d_Mo_keep_36 rfl rfl ?_
    refine r_get X f_Mo_32 b_95 e_95 (v := .ref (ads o (103))) rfl d_Mo_keep_37 ?_
    refine r_iload_n X 1 d_Mo_keep_40 rfl rfl ?_
    refine r_iconst X (v := nI (1)) d_Mo_keep_41 (by decide) ?_
    refine r_zast X rfl b_103 e_103 (Nat.le_of_ble_eq_true rfl) (by omega) d_Mo_keep_42 ?_
    refine r_aload_n X 0 d_Mo_keep_43 rfl rfl ?_
    refine r_iconst X (v := nI (0)) d_Mo_keep_44 (by decide) ?_
    refine r_putI X fw_Mo_141 b_95 e_95 (fun _ _ => rfl) (Nat.le_of_ble_eq_true rfl) d_Mo_keep_45 ?_
    refine r_iconst X (v := nI (1)) d_Mo_keep_48 (by decide) ?_
    refine r_end_i X d_Mo_keep_49 ?_
    exact ⟨rfl, rfl, rfl⟩
  · -- not taken
    exact False.elim (by have e := in_nat (a := 0) (j := q) (m := 1) (by omega) (by omega) (by decide); exact absurd (c_7.symm.trans e) (by decide))

set_option maxHeartbeats 4000000 in
set_option maxRecDepth 100000 in
theorem m_Mo_goBack_u (l : Launch) (o : OM) (mi : MI) (ml : ML) (q : Int32) (hq : q < nI 0 ∨ nI 1 < q) : ConD l y_Mo_goBack c_Mo_goBack 2 (some .int) 8 270 o [.ref (ads o (95)), .int (q)] mi ml (some (.int (((-1000000001 : Int32))))) mi ml := by
  refine Con.mk (by decide) (Nat.le_of_ble_eq_true rfl) (fun γ X => ?_)
  show V γ o 2 mi ml 0 [(0, .ref (ads o (95))), (1, .int (q))] []
  refine r_iload_n X 1 d_Mo_goBack_0 rfl rfl ?_
  refine r_i2l X (v := (q).toInt64) d_Mo_goBack_1 (rfl) ?_
  refine r_lconst X (v := 0) d_Mo_goBack_2 (by decide) ?_
  refine r_lconst X (v := 1) d_Mo_goBack_3 (by decide) ?_
  refine r_callS X (m_Mo_in l o mi ml ((q).toInt64) 0 1) ok_Mo_in w_Mo_63 rfl ⟨Nat.le_of_ble_eq_true rfl, Nat.le_of_ble_eq_true rfl⟩ (rest := []) rfl (Nat.le_of_ble_eq_true rfl) d_Mo_goBack_4 ?_
  refine kD (st' := [.int (bI (!decide (((q).toInt64) < 0) && !decide (1 < ((q).toInt64))))]) rfl ?_
  refine r_ifneB X (tgt := 13) (b := !decide (((q).toInt64) < 0) && !decide (1 < ((q).toInt64))) d_Mo_goBack_7 (by decide) (fun c_7 => ?_) (fun c_7 => ?_)
  · -- taken
    exact False.elim (by have e := in_out (a := 0) (m := 1) (by decide) (by decide) hq; exact absurd (c_7.symm.trans e) (by decide))
  · -- not taken
    refine r_ldc X (v := ((-1000000001 : Int32))) k_Mo_145 (by decide) d_Mo_goBack_10 ?_
    refine r_end_i X d_Mo_goBack_12 ?_
    first | exact ⟨rfl, rfl, rfl⟩ | (refine ⟨?_, rfl, rfl⟩; simp_all)

set_option maxHeartbeats 4000000 in
set_option maxRecDepth 100000 in
theorem m_Mo_goBack_n (l : Launch) (o : OM) (mi : MI) (ml : ML) (q : Nat) (hq : q < 2) (hk : mi 103 q = nI 0) : ConD l y_Mo_goBack c_Mo_goBack 2 (some .int) 8 270 o [.ref (ads o (95)), .int (nI (q))] mi ml (some (.int (((-1000000003 : Int32))))) mi ml := by
  refine Con.mk (by decide) (Nat.le_of_ble_eq_true rfl) (fun γ X => ?_)
  show V γ o 2 mi ml 0 [(0, .ref (ads o (95))), (1, .int (nI (q)))] []
  refine r_iload_n X 1 d_Mo_goBack_0 rfl rfl ?_
  refine r_i2l X (v := lN (q)) d_Mo_goBack_1 (nI_l (by omega)) ?_
  refine r_lconst X (v := 0) d_Mo_goBack_2 (by decide) ?_
  refine r_lconst X (v := 1) d_Mo_goBack_3 (by decide) ?_
  refine r_callS X (m_Mo_in l o mi ml (lN (q)) 0 1) ok_Mo_in w_Mo_63 rfl ⟨Nat.le_of_ble_eq_true rfl, Nat.le_of_ble_eq_true rfl⟩ (rest := []) rfl (Nat.le_of_ble_eq_true rfl) d_Mo_goBack_4 ?_
  refine kD (st' := [.int (bI (!decide ((lN (q)) < 0) && !decide (1 < (lN (q)))))]) rfl ?_
  refine r_ifneB X (tgt := 13) (b := !decide ((lN (q)) < 0) && !decide (1 < (lN (q)))) d_Mo_goBack_7 (by decide) (fun c_7 => ?_) (fun c_7 => ?_)
  · -- taken
    refine r_aload_n X 0 d_Mo_goBack_13 rfl rfl ?_
    refine r_get X f_Mo_32 b_95 e_95 (v := .ref (ads o (103))) rfl d_Mo_goBack_14 ?_
    refine r_iload_n X 1 d_Mo_goBack_17 rfl rfl ?_
    refine r_zald X (v := nI (0)) b_103 e_103 (Nat.le_of_ble_eq_true rfl) (by omega) (hk) d_Mo_goBack_18 ?_
    refine r_ifneP X (tgt := 25) (c := 0 = 0) d_Mo_goBack_19 (by decide) ((by rw [← nI_0] <;> exact nI_eq (Nat.le_of_ble_eq_true rfl) (Nat.le_of_ble_eq_true rfl))) (fun c_19 => ?_) (fun c_19 => ?_)
    · -- taken
      exact False.elim (by exact c_19 rfl)
    · -- not taken
      refine r_ldc X (v := ((-1000000003 : Int32))) k_Mo_175 (by decide) d_Mo_goBack_22 ?_
      refine r_end_i X d_Mo_goBack_24 ?_
      first | exact ⟨rfl, rfl, rfl⟩ | (refine ⟨?_, rfl, rfl⟩; simp_all)
  · -- not taken
    exact False.elim (by have e := in_nat (a := 0) (j := q) (m := 1) (by omega) (by omega) (by decide); exact absurd (c_7.symm.trans e) (by decide))

set_option maxHeartbeats 4000000 in
set_option maxRecDepth 100000 in
theorem m_Mo_goBack_i (l : Launch) (o : OM) (mi : MI) (ml : ML) (q : Nat) (hq : q < 2) (hk : mi 103 q = nI 1) : ConD l y_Mo_goBack c_Mo_goBack 2 (some .int) 8 270 o [.ref (ads o (95)), .int (nI (q))] mi ml (some (.int (nI (1)))) (u2 (u2 (cpL mi 97 0 101 (40 * q) 40) 95 9 ((cpL mi 97 0 101 (40 * q) 40) 102 q)) 95 2 (nI 0)) (cpL ml 96 0 100 (43 * q) 43) := by
  refine Con.mk (by decide) (Nat.le_of_ble_eq_true rfl) (fun γ X => ?_)
  show V γ o 2 mi ml 0 [(0, .ref (ads o (95))), (1, .int (nI (q)))] []
  refine r_iload_n X 1 d_Mo_goBack_0 rfl rfl ?_
  refine r_i2l X (v := lN (q)) d_Mo_goBack_1 (nI_l (by omega)) ?_
  refine r_lconst X (v := 0) d_Mo_goBack_2 (by decide) ?_
  refine r_lconst X (v := 1) d_Mo_goBack_3 (by decide) ?_
  refine r_callS X (m_Mo_in l o mi ml (lN (q)) 0 1) ok_Mo_in w_Mo_63 rfl ⟨Nat.le_of_ble_eq_true rfl, Nat.le_of_ble_eq_true rfl⟩ (rest := []) rfl (Nat.le_of_ble_eq_true rfl) d_Mo_goBack_4 ?_
  refine kD (st' := [.int (bI (!decide ((lN (q)) < 0) && !decide (1 < (lN (q)))))]) rfl ?_
  refine r_ifneB X (tgt := 13) (b := !decide ((lN (q)) < 0) && !decide (1 < (lN (q)))) d_Mo_goBack_7 (by decide) (fun c_7 => ?_) (fun c_7 => ?_)
  · -- taken
    refine r_aload_n X 0 d_Mo_goBack_13 rfl rfl ?_
    refine r_get X f_Mo_32 b_95 e_95 (v := .ref (ads o (103))) rfl d_Mo_goBack_14 ?_
    refine r_iload_n X 1 d_Mo_goBack_17 rfl rfl ?_
    refine r_zald X (v := nI (1)) b_103 e_103 (Nat.le_of_ble_eq_true rfl) (by omega) (hk) d_Mo_goBack_18 ?_
    refine r_ifneP X (tgt := 25) (c := 1 = 0) d_Mo_goBack_19 (by decide) ((by rw [← nI_0] <;> exact nI_eq (Nat.le_of_ble_eq_true rfl) (Nat.le_of_ble_eq_true rfl))) (fun c_19 => ?_) (fun c_19 => ?_)
    · -- taken
      refine r_aload_n X 0 d_Mo_goBack_25 rfl rfl ?_
      refine r_aload_n X 0 d_Mo_goBack_26 rfl rfl ?_
      refine r_get X f_Mo_23 b_95 e_95 (v := .ref (ads o (100))) rfl d_Mo_goBack_27 ?_
      refine r_aload_n X 0 d_Mo_goBack_30 rfl rfl ?_
      refine r_get X f_Mo_26 b_95 e_95 (v := .ref (ads o (101))) rfl d_Mo_goBack_31 ?_
      refine r_iload_n X 1 d_Mo_goBack_34 rfl rfl ?_
      refine r_callV X (m_Mo_become_m l o mi ml q (by omega)) ok_Mo_become w_Mo_199 rfl b_95 e_95 rfl ⟨Nat.le_of_ble_eq_true rfl, Nat.le_of_ble_eq_true rfl⟩ (rest := []) rfl (Nat.le_of_ble_eq_true rfl) d_Mo_goBack_35 ?_
      refine kD (st' := []) rfl ?_
      refine r_aload_n X 0 d_Mo_goBack_38 rfl rfl ?_
      refine r_aload_n X 0 d_Mo_goBack_39 rfl rfl ?_
      refine r_get X f_Mo_29 b_95 e_95 (v := .ref (ads o (102))) rfl d_Mo_goBack_40 ?_
      refine r_iload_n X 1 d_Mo_goBack_43 rfl rfl ?_
      refine r_iald X (v := ((cpL mi 97 0 101 (40 * q) (40)) 102 q)) b_102 e_102 (Nat.le_of_ble_eq_true rfl) (by omega) rfl d_Mo_goBack_44 ?_
      refine r_putI X fw_Mo_181 b_95 e_95 (fun _ _ => rfl) (Nat.le_of_ble_eq_true rfl) d_Mo_goBack_45 ?_
      refine r_aload_n X 0 d_Mo_goBack_48 rfl rfl ?_
      refine r_iconst X (v := nI (0)) d_Mo_goBack_49 (by decide) ?_
      refine r_putI X fw_Mo_141 b_95 e_95 (fun _ _ => rfl) (Nat.le_of_ble_eq_true rfl) d_Mo_goBack_50 ?_
      refine r_iconst X (v := nI (1)) d_Mo_goBack_53 (by decide) ?_
      refine r_end_i X d_Mo_goBack_54 ?_
      exact ⟨rfl, rfl, rfl⟩
    · -- not taken
      exact False.elim (by omega)
  · -- not taken
    exact False.elim (by have e := in_nat (a := 0) (j := q) (m := 1) (by omega) (by omega) (by decide); exact absurd (c_7.symm.trans e) (by decide))
