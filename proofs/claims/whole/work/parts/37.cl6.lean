set_option maxHeartbeats 4000000 in
set_option maxRecDepth 100000 in
theorem m_Nm_told (l : Launch) (o : OM) (mi : MI) (ml : ML) (w : Int32) (n : Nat) (P : Nat) (s : Nat) (E : Nat) (B1 : Nat → Nat) (B2 : Nat → Nat) (c : Nat) (hn : mi 1 2 = nI n) (hn40 : n ≤ 40) (hP : mi 75 2 = nI P) (hP8 : P ≤ 8) (hP1 : 1 ≤ P) (hs : mi 86 3 = nI s) (hs6 : s ≤ 6) (hE : mi 90 3 = nI E) (hE20 : E ≤ 20) (hB1 : ∀ e, e < E → mi 91 e = nI (B1 e) ∧ B1 e < 40) (hB2 : ∀ e, e < E → mi 92 e = nI (B2 e) ∧ B2 e < 40) (hc : mi 4 2 = nI c) (hc20 : c ≤ 20) : Con l y_Nm_told c_Nm_told 2 (some .int) 8 270 o [.ref (ads o (0)), .int (w)] mi ml (fun v m z => v = some (.int (oI (ix w 17) (-1000000002 : Int32) (toldC mi ml n P s E B1 B2))) ∧ (∀ t, t ≠ 89 → m t = mi t) ∧ ∀ t, t ≠ 84 → t ≠ 85 → z t = ml t) := by
  refine Con.mk (by decide) (Nat.le_of_ble_eq_true rfl) (fun γ X => ?_)
  show V γ o 2 mi ml 0 [(0, .ref (ads o (0))), (1, .int (w))] []
  refine r_iload_n X 1 d_Nm_told_0 rfl rfl ?_
  rcases pk_ix w (n := 17) (by decide) with hs1 | hs1 | ⟨q1, hq1, rfl⟩
  · refine r_tswOut X (tgt := 257) d_Nm_told_1 (Or.inl (tsw_lo hs1)) (by decide) ?_
    refine r_ldc X (v := ((-1000000002 : Int32))) k_Nm_137 (by decide) d_Nm_told_257 ?_
    refine r_end_i X d_Nm_told_259 ?_
    refine ⟨?_, fun _ _ => rfl, fun _ _ _ => rfl⟩; rw [ix_lo hs1]; rfl
  · refine r_tswOut X (tgt := 257) d_Nm_told_1 (Or.inr (tsw_hi (by decide) hs1)) (by decide) ?_
    refine r_ldc X (v := ((-1000000002 : Int32))) k_Nm_137 (by decide) d_Nm_told_257 ?_
    refine r_end_i X d_Nm_told_259 ?_
    refine ⟨?_, fun _ _ => rfl, fun _ _ _ => rfl⟩; rw [ix_hi hs1]; rfl
  · match q1, hq1 with
    | 0, _ =>
      refine r_tswIn X (off := 83) (tgt := 84) d_Nm_told_1 (by decide) (by decide) (by decide) (by decide) ?_
      refine r_aload_n X 0 d_Nm_told_84 rfl rfl ?_
      refine r_get X f_Nm_10 b_0 e_0 (v := .ref (ads o (1))) rfl d_Nm_told_85 ?_
      refine r_get X f_Nm_83 b_1 e_1 (v := .int (nI (n))) (congrArg (fun z => some (Value.int z)) (hn)) d_Nm_told_88 ?_
      refine r_end_i X d_Nm_told_91 ?_
      refine ⟨?_, fun _ _ => rfl, fun _ _ _ => rfl⟩; rw [show ix (nI 0) 17 = some 0 from by decide]; rfl
    | 1, _ =>
      refine r_tswIn X (off := 91) (tgt := 92) d_Nm_told_1 (by decide) (by decide) (by decide) (by decide) ?_
      refine r_aload_n X 0 d_Nm_told_92 rfl rfl ?_
      refine r_get X f_Nm_33 b_0 e_0 (v := .ref (ads o (75))) rfl d_Nm_told_93 ?_
      refine r_get X f_Nm_87 b_75 e_75 (v := .int (nI (P))) (congrArg (fun z => some (Value.int z)) (hP)) d_Nm_told_96 ?_
      refine r_end_i X d_Nm_told_99 ?_
      refine ⟨?_, fun _ _ => rfl, fun _ _ _ => rfl⟩; rw [show ix (nI 1) 17 = some 1 from by decide]; rfl
    | 2, _ =>
      refine r_tswIn X (off := 99) (tgt := 100) d_Nm_told_1 (by decide) (by decide) (by decide) (by decide) ?_
      refine r_aload_n X 0 d_Nm_told_100 rfl rfl ?_
      refine r_get X f_Nm_10 b_0 e_0 (v := .ref (ads o (1))) rfl d_Nm_told_101 ?_
      refine r_get X f_Nm_88 b_1 e_1 (v := .long (ml 1 0)) (congrArg (fun z => some (Value.long z)) (rfl)) d_Nm_told_104 ?_
      refine r_callS X (m_Lg_bitCount l o mi ml (ml 1 0)) ok_Lg_bitCount w_Nm_91 rfl ⟨Nat.le_of_ble_eq_true rfl, Nat.le_of_ble_eq_true rfl⟩ (rest := []) rfl (Nat.le_of_ble_eq_true rfl) d_Nm_told_107 ?_
      refine kD (st' := [.int (nI (pop (ml 1 0)))]) rfl ?_
      refine r_end_i X d_Nm_told_110 ?_
      refine ⟨?_, fun _ _ => rfl, fun _ _ _ => rfl⟩; rw [show ix (nI 2) 17 = some 2 from by decide]; rfl
    | 3, _ =>
      refine r_tswIn X (off := 110) (tgt := 111) d_Nm_told_1 (by decide) (by decide) (by decide) (by decide) ?_
      refine r_aload_n X 0 d_Nm_told_111 rfl rfl ?_
      refine r_get X f_Nm_10 b_0 e_0 (v := .ref (ads o (1))) rfl d_Nm_told_112 ?_
      refine r_aload_n X 0 d_Nm_told_115 rfl rfl ?_
      refine r_get X f_Nm_10 b_0 e_0 (v := .ref (ads o (1))) rfl d_Nm_told_116 ?_
      refine r_get X f_Nm_88 b_1 e_1 (v := .long (ml 1 0)) (congrArg (fun z => some (Value.long z)) (rfl)) d_Nm_told_119 ?_
      refine r_callV X (m_St_numberOf l o mi ml 1 (ml 1 0) n isSt.now (hn) hn40) ok_St_numberOf w_Nm_97 rfl b_1 e_1 rfl ⟨Nat.le_of_ble_eq_true rfl, Nat.le_of_ble_eq_true rfl⟩ (rest := []) rfl (Nat.le_of_ble_eq_true rfl) d_Nm_told_122 ?_
      refine kD (st' := [.int ((fromB (fun k => decide (ml 2 k = (ml 1 0))) n 0))]) rfl ?_
      refine r_end_i X d_Nm_told_125 ?_
      refine ⟨?_, fun _ _ => rfl, fun _ _ _ => rfl⟩; rw [show ix (nI 3) 17 = some 3 from by decide]; rfl
    | 4, _ =>
      refine r_tswIn X (off := 125) (tgt := 126) d_Nm_told_1 (by decide) (by decide) (by decide) (by decide) ?_
      refine r_aload_n X 0 d_Nm_told_126 rfl rfl ?_
      refine r_iconst X (v := ((-1 : Int32))) d_Nm_told_127 (by decide) ?_
      refine r_callV X (m_Nm_countLookedAt l o mi ml ((-1 : Int32)) n P (hn) hn40 (hP) hP8) ok_Nm_countLookedAt w_Nm_100 rfl b_0 e_0 rfl ⟨Nat.le_of_ble_eq_true rfl, Nat.le_of_ble_eq_true rfl⟩ (rest := []) rfl (Nat.le_of_ble_eq_true rfl) d_Nm_told_128 ?_
      refine kD (st' := [.int (nI (ct (lookC ml P ((-1 : Int32))) n))]) rfl ?_
      refine r_end_i X d_Nm_told_131 ?_
      refine ⟨?_, fun _ _ => rfl, fun _ _ _ => rfl⟩; rw [show ix (nI 4) 17 = some 4 from by decide]; rfl
    | 5, _ =>
      refine r_tswIn X (off := 131) (tgt := 132) d_Nm_told_1 (by decide) (by decide) (by decide) (by decide) ?_
      refine r_aload_n X 0 d_Nm_told_132 rfl rfl ?_
      refine r_aload_n X 0 d_Nm_told_133 rfl rfl ?_
      refine r_get X f_Nm_33 b_0 e_0 (v := .ref (ads o (75))) rfl d_Nm_told_134 ?_
      refine r_callV X (m_Pt_reach l o mi ml 75 P (Or.inl rfl) (hP) (by omega) (by omega)) ok_Pt_reach w_Nm_104 rfl b_75 e_75 rfl ⟨Nat.le_of_ble_eq_true rfl, Nat.le_of_ble_eq_true rfl⟩ (rest := [.ref (ads o (0))]) rfl (Nat.le_of_ble_eq_true rfl) d_Nm_told_137 ?_
      refine kD (st' := [.int (nI (P - 1)), .ref (ads o (0))]) rfl ?_
      refine r_callV X (m_Nm_countLookedAt l o mi ml (nI (P - 1)) n P (hn) hn40 (hP) hP8) ok_Nm_countLookedAt w_Nm_100 rfl b_0 e_0 rfl ⟨Nat.le_of_ble_eq_true rfl, Nat.le_of_ble_eq_true rfl⟩ (rest := []) rfl (Nat.le_of_ble_eq_true rfl) d_Nm_told_140 ?_
      refine kD (st' := [.int (nI (ct (lookC ml P (nI (P - 1))) n))]) rfl ?_
      refine r_end_i X d_Nm_told_143 ?_
      refine ⟨?_, fun _ _ => rfl, fun _ _ _ => rfl⟩; rw [show ix (nI 5) 17 = some 5 from by decide]; rfl
    | 6, _ =>
      refine r_tswIn X (off := 143) (tgt := 144) d_Nm_told_1 (by decide) (by decide) (by decide) (by decide) ?_
      refine r_aload_n X 0 d_Nm_told_144 rfl rfl ?_
      refine r_get X f_Nm_10 b_0 e_0 (v := .ref (ads o (1))) rfl d_Nm_told_145 ?_
      refine r_iconst X (v := nI (0)) d_Nm_told_148 (by decide) ?_
      refine r_callV X (m_St_byDistance l o mi ml 1 (nI (0)) n isSt.now (hn) hn40) ok_St_byDistance w_Nm_108 rfl b_1 e_1 rfl ⟨Nat.le_of_ble_eq_true rfl, Nat.le_of_ble_eq_true rfl⟩ (rest := []) rfl (Nat.le_of_ble_eq_true rfl) d_Nm_told_149 ?_
      refine kD (st' := [.int ((fromB (fun k => decide (nI (ahd (fun q => ds (ml 2 q) (ml 1 0)) n k) = (nI (0)))) n 0))]) rfl ?_
      refine r_end_i X d_Nm_told_152 ?_
      refine ⟨?_, fun _ _ => rfl, fun _ _ _ => rfl⟩; rw [show ix (nI 6) 17 = some 6 from by decide]; rfl
    | 7, _ =>
      refine r_tswIn X (off := 152) (tgt := 153) d_Nm_told_1 (by decide) (by decide) (by decide) (by decide) ?_
      refine r_aload_n X 0 d_Nm_told_153 rfl rfl ?_
      refine r_callV X (m_Nm_leastDistance l o mi ml n (hn) hn40) ok_Nm_leastDistance w_Nm_111 rfl b_0 e_0 rfl ⟨Nat.le_of_ble_eq_true rfl, Nat.le_of_ble_eq_true rfl⟩ (rest := []) rfl (Nat.le_of_ble_eq_true rfl) d_Nm_told_154 ?_
      refine kD (st' := [.int ((if isMk n (nrsC ml n (nI 0)) then nI (ds (ml 2 (nrsC ml n (nI 0)).toNatClampNeg) (ml 1 0)) else -1))]) rfl ?_
      refine r_end_i X d_Nm_told_157 ?_
      refine ⟨?_, fun _ _ => rfl, fun _ _ _ => rfl⟩; rw [show ix (nI 7) 17 = some 7 from by decide]; rfl
    | 8, _ =>
      refine r_tswIn X (off := 157) (tgt := 158) d_Nm_told_1 (by decide) (by decide) (by decide) (by decide) ?_
      refine r_aload_n X 0 d_Nm_told_158 rfl rfl ?_
      refine r_get X f_Nm_58 b_0 e_0 (v := .ref (ads o (84))) rfl d_Nm_told_159 ?_
      refine r_aload_n X 0 d_Nm_told_162 rfl rfl ?_
      refine r_get X f_Nm_10 b_0 e_0 (v := .ref (ads o (1))) rfl d_Nm_told_163 ?_
      refine r_callV X (m_Co_countDead l o mi ml n (hn) hn40) ok_Co_countDead w_Nm_114 rfl b_84 e_84 rfl ⟨Nat.le_of_ble_eq_true rfl, Nat.le_of_ble_eq_true rfl⟩ (rest := []) rfl (Nat.le_of_ble_eq_true rfl) d_Nm_told_166 ?_
      rintro _ mm zc ⟨rfl, hmm, hg⟩
      have hmm := hmm.symm
      subst hmm
      show V γ o 2 mi zc 169 [(0, .ref (ads o (0))), (1, .int (nI (8)))] [.int (nI (ct (deadC (ml 2) n) 64))]
      refine r_end_i X d_Nm_told_169 ?_
      refine ⟨?_, fun _ _ => rfl, hg⟩; rw [show ix (nI 8) 17 = some 8 from by decide]; rfl
    | 9, _ =>
      refine r_tswIn X (off := 169) (tgt := 170) d_Nm_told_1 (by decide) (by decide) (by decide) (by decide) ?_
      refine r_aload_n X 0 d_Nm_told_170 rfl rfl ?_
      refine r_get X f_Nm_58 b_0 e_0 (v := .ref (ads o (84))) rfl d_Nm_told_171 ?_
      refine r_aload_n X 0 d_Nm_told_174 rfl rfl ?_
      refine r_get X f_Nm_10 b_0 e_0 (v := .ref (ads o (1))) rfl d_Nm_told_175 ?_
      refine r_callV X (m_Co_firstPair l o mi ml n (hn) hn40) ok_Co_firstPair w_Nm_118 rfl b_84 e_84 rfl ⟨Nat.le_of_ble_eq_true rfl, Nat.le_of_ble_eq_true rfl⟩ (rest := []) rfl (Nat.le_of_ble_eq_true rfl) d_Nm_told_178 ?_
      rintro _ mm zc ⟨rfl, hmm, hg⟩
      have hmm := hmm.symm
      subst hmm
      show V γ o 2 mi zc 181 [(0, .ref (ads o (0))), (1, .int (nI (9)))] [.int ((togR (goC (ml 2) n) 64 0))]
      refine r_end_i X d_Nm_told_181 ?_
      refine ⟨?_, fun _ _ => rfl, hg⟩; rw [show ix (nI 9) 17 = some 9 from by decide]; rfl
    | 10, _ =>
      refine r_tswIn X (off := 181) (tgt := 182) d_Nm_told_1 (by decide) (by decide) (by decide) (by decide) ?_
      refine r_aload_n X 0 d_Nm_told_182 rfl rfl ?_
      refine r_get X f_Nm_65 b_0 e_0 (v := .ref (ads o (86))) rfl d_Nm_told_183 ?_
      refine r_get X f_Nm_121 b_86 e_86 (v := .int (nI (s))) (congrArg (fun z => some (Value.int z)) (hs)) d_Nm_told_186 ?_
      refine r_end_i X d_Nm_told_189 ?_
      refine ⟨?_, fun _ _ => rfl, fun _ _ _ => rfl⟩; rw [show ix (nI 10) 17 = some 10 from by decide]; rfl
    | 11, _ =>
      refine r_tswIn X (off := 189) (tgt := 190) d_Nm_told_1 (by decide) (by decide) (by decide) (by decide) ?_
      refine r_aload_n X 0 d_Nm_told_190 rfl rfl ?_
      refine r_get X f_Nm_65 b_0 e_0 (v := .ref (ads o (86))) rfl d_Nm_told_191 ?_
      refine r_aload_n X 0 d_Nm_told_194 rfl rfl ?_
      refine r_get X f_Nm_10 b_0 e_0 (v := .ref (ads o (1))) rfl d_Nm_told_195 ?_
      refine r_callV X (m_Si_fitting l o mi ml n s (hn) hn40 (hs) hs6) ok_Si_fitting w_Nm_122 rfl b_86 e_86 rfl ⟨Nat.le_of_ble_eq_true rfl, Nat.le_of_ble_eq_true rfl⟩ (rest := []) rfl (Nat.le_of_ble_eq_true rfl) d_Nm_told_198 ?_
      refine kD (st' := [.long (stB (fun k => cb (ml 2 k) (ml 87) (mi 88) s) n)]) rfl ?_
      refine r_callS X (m_Lg_bitCount l o mi ml (stB (fun k => cb (ml 2 k) (ml 87) (mi 88) s) n)) ok_Lg_bitCount w_Nm_91 rfl ⟨Nat.le_of_ble_eq_true rfl, Nat.le_of_ble_eq_true rfl⟩ (rest := []) rfl (Nat.le_of_ble_eq_true rfl) d_Nm_told_201 ?_
      refine kD (st' := [.int (nI (pop (stB (fun k => cb (ml 2 k) (ml 87) (mi 88) s) n)))]) rfl ?_
      refine r_end_i X d_Nm_told_204 ?_
      refine ⟨?_, fun _ _ => rfl, fun _ _ _ => rfl⟩; rw [show ix (nI 11) 17 = some 11 from by decide]; rfl
    | 12, _ =>
      refine r_tswIn X (off := 204) (tgt := 205) d_Nm_told_1 (by decide) (by decide) (by decide) (by decide) ?_
      refine r_aload_n X 0 d_Nm_told_205 rfl rfl ?_
      refine r_get X f_Nm_65 b_0 e_0 (v := .ref (ads o (86))) rfl d_Nm_told_206 ?_
      refine r_aload_n X 0 d_Nm_told_209 rfl rfl ?_
      refine r_get X f_Nm_10 b_0 e_0 (v := .ref (ads o (1))) rfl d_Nm_told_210 ?_
      refine r_callV X (m_Si_leastFitting l o mi ml n s (hn) hn40 (hs) hs6) ok_Si_leastFitting w_Nm_126 rfl b_86 e_86 rfl ⟨Nat.le_of_ble_eq_true rfl, Nat.le_of_ble_eq_true rfl⟩ (rest := []) rfl (Nat.le_of_ble_eq_true rfl) d_Nm_told_213 ?_
      refine kD (st' := [.int ((fromB (bt (stB (fun k => cb (ml 2 k) (ml 87) (mi 88) s) n)) 64 0))]) rfl ?_
      refine r_end_i X d_Nm_told_216 ?_
      refine ⟨?_, fun _ _ => rfl, fun _ _ _ => rfl⟩; rw [show ix (nI 12) 17 = some 12 from by decide]; rfl
    | 13, _ =>
      refine r_tswIn X (off := 216) (tgt := 217) d_Nm_told_1 (by decide) (by decide) (by decide) (by decide) ?_
      refine r_aload_n X 0 d_Nm_told_217 rfl rfl ?_
      refine r_get X f_Nm_65 b_0 e_0 (v := .ref (ads o (86))) rfl d_Nm_told_218 ?_
      refine r_aload_n X 0 d_Nm_told_221 rfl rfl ?_
      refine r_get X f_Nm_10 b_0 e_0 (v := .ref (ads o (1))) rfl d_Nm_told_222 ?_
      refine r_callV X (m_Si_bestToAsk l o mi ml n s (hn) hn40 (hs) hs6) ok_Si_bestToAsk w_Nm_129 rfl b_86 e_86 rfl ⟨Nat.le_of_ble_eq_true rfl, Nat.le_of_ble_eq_true rfl⟩ (rest := []) rfl (Nat.le_of_ble_eq_true rfl) d_Nm_told_225 ?_
      rintro _ mi_a zz ⟨rfl, hfr, hz9⟩
      have hz9 := hz9.symm
      subst hz9
      show V γ o 2 mi_a ml 228 [(0, .ref (ads o (0))), (1, .int (nI (13)))] [.int (((askS (fun k => mstC (fun q => ds (ml 2 q) (ml 2 k)) (bt (stB (fun k => cb (ml 2 k) (ml 87) (mi 88) s) n)) n) (pop (stB (fun k => cb (ml 2 k) (ml 87) (mi 88) s) n)) (n)).2))]
      refine r_end_i X d_Nm_told_228 ?_
      refine ⟨?_, hfr, fun _ _ _ => rfl⟩; rw [show ix (nI 13) 17 = some 13 from by decide]; rfl
    | 14, _ =>
      refine r_tswIn X (off := 228) (tgt := 229) d_Nm_told_1 (by decide) (by decide) (by decide) (by decide) ?_
      refine r_aload_n X 0 d_Nm_told_229 rfl rfl ?_
      refine r_get X f_Nm_72 b_0 e_0 (v := .ref (ads o (90))) rfl d_Nm_told_230 ?_
      refine r_get X f_Nm_132 b_90 e_90 (v := .int (nI (E))) (congrArg (fun z => some (Value.int z)) (hE)) d_Nm_told_233 ?_
      refine r_end_i X d_Nm_told_236 ?_
      refine ⟨?_, fun _ _ => rfl, fun _ _ _ => rfl⟩; rw [show ix (nI 14) 17 = some 14 from by decide]; rfl
    | 15, _ =>
      refine r_tswIn X (off := 236) (tgt := 237) d_Nm_told_1 (by decide) (by decide) (by decide) (by decide) ?_
      refine r_aload_n X 0 d_Nm_told_237 rfl rfl ?_
      refine r_get X f_Nm_72 b_0 e_0 (v := .ref (ads o (90))) rfl d_Nm_told_238 ?_
      refine r_aload_n X 0 d_Nm_told_241 rfl rfl ?_
      refine r_get X f_Nm_10 b_0 e_0 (v := .ref (ads o (1))) rfl d_Nm_told_242 ?_
      refine r_callV X (m_Bk_firstWrong l o mi ml n E B1 B2 (hn) hn40 (hE) hE20 hB1 hB2) ok_Bk_firstWrong w_Nm_133 rfl b_90 e_90 rfl ⟨Nat.le_of_ble_eq_true rfl, Nat.le_of_ble_eq_true rfl⟩ (rest := []) rfl (Nat.le_of_ble_eq_true rfl) d_Nm_told_245 ?_
      refine kD (st' := [.int ((fromB (fun e => !rgC mi ml n B1 B2 e) E 0))]) rfl ?_
      refine r_end_i X d_Nm_told_248 ?_
      refine ⟨?_, fun _ _ => rfl, fun _ _ _ => rfl⟩; rw [show ix (nI 15) 17 = some 15 from by decide]; rfl
    | 16, _ =>
      refine r_tswIn X (off := 248) (tgt := 249) d_Nm_told_1 (by decide) (by decide) (by decide) (by decide) ?_
      refine r_aload_n X 0 d_Nm_told_249 rfl rfl ?_
      refine r_get X f_Nm_19 b_0 e_0 (v := .ref (ads o (4))) rfl d_Nm_told_250 ?_
      refine r_get X f_Nm_136 b_4 e_4 (v := .int (nI (c))) (congrArg (fun z => some (Value.int z)) (hc)) d_Nm_told_253 ?_
      refine r_end_i X d_Nm_told_256 ?_
      refine ⟨?_, fun _ _ => rfl, fun _ _ _ => rfl⟩; rw [show ix (nI 16) 17 = some 16 from by decide]; exact congrArg (fun z => some (Value.int z)) hc.symm
    | q1 + 17, hq => exact absurd hq (by omega)

set_option maxHeartbeats 4000000 in
set_option maxRecDepth 100000 in
theorem m_Nm_changeHandByDraws (l : Launch) (o : OM) (mi : MI) (ml : ML) (z : Nat) (h : Int64) (hz : mi 94 0 = nI z) (hz31 : z < 2147483648) (hh : ml 1 0 = h) : ConD l y_Nm_changeHandByDraws c_Nm_changeHandByDraws 2 none 2 47 o [.ref (ads o (0))] mi ml none (u2 mi 94 0 (nI (lotZ z))) (u2 ml 1 0 (lotHC h z)) := by
  refine Con.mk (by decide) (Nat.le_of_ble_eq_true rfl) (fun γ X => ?_)
  have hx1 := nxt_lt z
  have hx2 := nxt_lt (nxt z)
  have hx3 := nxt_lt (nxt (nxt z))
  show V γ o 2 mi ml 0 [(0, .ref (ads o (0)))] []
  refine r_aload_n X 0 d_Nm_changeHandByDraws_0 rfl rfl ?_
  refine r_get X f_Nm_79 b_0 e_0 (v := .ref (ads o (94))) rfl d_Nm_changeHandByDraws_1 ?_
  refine r_iconst X (v := nI (4)) d_Nm_changeHandByDraws_4 (by decide) ?_
  refine r_callV X (m_Dr_next l o mi ml 4 z (hz) hz31 (by omega) (by omega)) ok_Dr_next w_Nm_216 rfl b_94 e_94 rfl ⟨Nat.le_of_ble_eq_true rfl, Nat.le_of_ble_eq_true rfl⟩ (rest := []) rfl (Nat.le_of_ble_eq_true rfl) d_Nm_changeHandByDraws_5 ?_
  refine kD (st' := [.int (nI (nxt z / 65536 % 4))]) rfl ?_
  refine r_istore_n X [(1, .int (nI (nxt z / 65536 % 4))), (0, .ref (ads o (0)))] d_Nm_changeHandByDraws_8 rfl (Nat.le_of_ble_eq_true rfl) rfl ?_
  refine r_iload_n X 0 d_Nm_changeHandByDraws_9 rfl rfl ?_
  refine r_ifneP X (tgt := 46) (c := (nxt z / 65536 % 4) = 0) d_Nm_changeHandByDraws_10 (by decide) ((by rw [← nI_0] <;> exact nI_eq (by omega) (Nat.le_of_ble_eq_true rfl))) (fun c_10 => ?_) (fun c_10 => ?_)
  · -- taken
    refine r_iload_n X 0 d_Nm_changeHandByDraws_46 rfl rfl ?_
    refine r_iconst X (v := nI (3)) d_Nm_changeHandByDraws_47 (by decide) ?_
    refine r_icge X (tgt := 74) (c := 3 ≤ (nxt z / 65536 % 4)) d_Nm_changeHandByDraws_48 (by decide) (nI_leI (Nat.le_of_ble_eq_true rfl) (by omega)) (fun c_48 => ?_) (fun c_48 => ?_)
    · -- taken
      refine V.eq (ml' := (u2 ml 1 0 h)) ?_ rfl (by rw [← hh]; exact u2_same _ _ _) rfl rfl
      refine r_end_v X d_Nm_changeHandByDraws_74 ?_
      (have e0 : lotW z = nxt z / 65536 % 4 := rfl); refine ⟨rfl, ?_, ?_⟩ <;> (simp only [lotZ, lotHC]; rw [e0]; first | (rw [if_pos (show nxt z / 65536 % 4 = 0 by omega)]; first | done | rw [u2_u2, u2_u2] | rfl) | (rw [if_neg (show ¬ nxt z / 65536 % 4 = 0 by omega), if_pos (show nxt z / 65536 % 4 = 1 ∨ nxt z / 65536 % 4 = 2 by omega)]; first | done | rw [u2_u2] | rfl) | (rw [if_neg (show ¬ nxt z / 65536 % 4 = 0 by omega), if_neg (show ¬ (nxt z / 65536 % 4 = 1 ∨ nxt z / 65536 % 4 = 2) by omega)]; first | done | rfl))
    · -- not taken
      refine r_aload_n X 1 d_Nm_changeHandByDraws_51 rfl rfl ?_
      refine r_get X f_Nm_10 b_0 e_0 (v := .ref (ads o (1))) rfl d_Nm_changeHandByDraws_52 ?_
      refine r_dup X d_Nm_changeHandByDraws_55 rfl ?_
      refine r_get X f_Nm_88 b_1 e_1 (v := .long (h)) (congrArg (fun z => some (Value.long z)) (hh)) d_Nm_changeHandByDraws_56 ?_
      refine r_lconst X (v := 1) d_Nm_changeHandByDraws_59 (by decide) ?_
      refine r_aload_n X 1 d_Nm_changeHandByDraws_60 rfl rfl ?_
      refine r_get X f_Nm_79 b_0 e_0 (v := .ref (ads o (94))) rfl d_Nm_changeHandByDraws_61 ?_
      refine r_bipush X (v := nI (64)) d_Nm_changeHandByDraws_64 (by decide) ?_
      refine r_callV X (m_Dr_next l o (u2 mi 94 0 (nI (nxt z))) ml 64 (nxt z) ((by rw [u2_s, uf_s])) (by omega) (by omega) (by omega)) ok_Dr_next w_Nm_216 rfl b_94 e_94 rfl ⟨Nat.le_of_ble_eq_true rfl, Nat.le_of_ble_eq_true rfl⟩ (rest := [.long (1), .long (h), .ref (ads o (1))]) rfl (Nat.le_of_ble_eq_true rfl) d_Nm_changeHandByDraws_66 ?_
      refine kD (st' := [.int (nI (nxt (nxt z) / 65536 % 64)), .long (1), .long (h), .ref (ads o (1))]) rfl ?_
      refine r_lshl X (v := shl (1) (nxt (nxt z) / 65536 % 64)) d_Nm_changeHandByDraws_69 (rfl) ?_
      refine r_lxor X (v := (h) ^^^ (shl (1) (nxt (nxt z) / 65536 % 64))) d_Nm_changeHandByDraws_70 (rfl) ?_
      refine r_putL X fw_Nm_88 b_1 e_1 (fun _ _ => rfl) (Nat.le_of_ble_eq_true rfl) d_Nm_changeHandByDraws_71 ?_
      refine r_end_v X d_Nm_changeHandByDraws_74 ?_
      (have e0 : lotW z = nxt z / 65536 % 4 := rfl); refine ⟨rfl, ?_, ?_⟩ <;> (simp only [lotZ, lotHC]; rw [e0]; first | (rw [if_pos (show nxt z / 65536 % 4 = 0 by omega)]; first | done | rw [u2_u2, u2_u2] | rfl) | (rw [if_neg (show ¬ nxt z / 65536 % 4 = 0 by omega), if_pos (show nxt z / 65536 % 4 = 1 ∨ nxt z / 65536 % 4 = 2 by omega)]; first | done | rw [u2_u2] | rfl) | (rw [if_neg (show ¬ nxt z / 65536 % 4 = 0 by omega), if_neg (show ¬ (nxt z / 65536 % 4 = 1 ∨ nxt z / 65536 % 4 = 2) by omega)]; first | done | rfl))
  · -- not taken
    refine r_aload_n X 1 d_Nm_changeHandByDraws_13 rfl rfl ?_
    refine r_get X f_Nm_79 b_0 e_0 (v := .ref (ads o (94))) rfl d_Nm_changeHandByDraws_14 ?_
    refine r_bipush X (v := nI (64)) d_Nm_changeHandByDraws_17 (by decide) ?_
    refine r_callV X (m_Dr_next l o (u2 mi 94 0 (nI (nxt z))) ml 64 (nxt z) ((by rw [u2_s, uf_s])) (by omega) (by omega) (by omega)) ok_Dr_next w_Nm_216 rfl b_94 e_94 rfl ⟨Nat.le_of_ble_eq_true rfl, Nat.le_of_ble_eq_true rfl⟩ (rest := []) rfl (Nat.le_of_ble_eq_true rfl) d_Nm_changeHandByDraws_19 ?_
    refine kD (st' := [.int (nI (nxt (nxt z) / 65536 % 64))]) rfl ?_
    refine r_pop X d_Nm_changeHandByDraws_22 rfl ?_
    refine r_aload_n X 1 d_Nm_changeHandByDraws_23 rfl rfl ?_
    refine r_get X f_Nm_10 b_0 e_0 (v := .ref (ads o (1))) rfl d_Nm_changeHandByDraws_24 ?_
    refine r_aload_n X 1 d_Nm_changeHandByDraws_27 rfl rfl ?_
    refine r_get X f_Nm_79 b_0 e_0 (v := .ref (ads o (94))) rfl d_Nm_changeHandByDraws_28 ?_
    refine r_sipush X (v := nI (256)) d_Nm_changeHandByDraws_31 (by decide) ?_
    refine r_callV X (m_Dr_next l o (u2 (u2 mi 94 0 (nI (nxt z))) 94 0 (nI (nxt (nxt z)))) ml 256 (nxt (nxt z)) ((by rw [u2_s, uf_s])) (by omega) (by omega) (by omega)) ok_Dr_next w_Nm_216 rfl b_94 e_94 rfl ⟨Nat.le_of_ble_eq_true rfl, Nat.le_of_ble_eq_true rfl⟩ (rest := [.ref (ads o (1))]) rfl (Nat.le_of_ble_eq_true rfl) d_Nm_changeHandByDraws_34 ?_
    refine kD (st' := [.int (nI (nxt (nxt (nxt z)) / 65536 % 256)), .ref (ads o (1))]) rfl ?_
    refine r_callS X (m_Pi_ofEqualRows l o (u2 (u2 (u2 mi 94 0 (nI (nxt z))) 94 0 (nI (nxt (nxt z)))) 94 0 (nI (nxt (nxt (nxt z))))) ml (nxt (nxt (nxt z)) / 65536 % 256) (by omega)) ok_Pi_ofEqualRows w_Nm_219 rfl ⟨Nat.le_of_ble_eq_true rfl, Nat.le_of_ble_eq_true rfl⟩ (rest := [.ref (ads o (1))]) rfl (Nat.le_of_ble_eq_true rfl) d_Nm_changeHandByDraws_37 ?_
    refine kD (st' := [.long (rowsE (nxt (nxt (nxt z)) / 65536 % 256) 8), .ref (ads o (1))]) rfl ?_
    refine r_putL X fw_Nm_88 b_1 e_1 (fun _ _ => rfl) (Nat.le_of_ble_eq_true rfl) d_Nm_changeHandByDraws_40 ?_
    refine r_goto X (tgt := 74) d_Nm_changeHandByDraws_43 (by decide) ?_
    refine r_end_v X d_Nm_changeHandByDraws_74 ?_
    (have e0 : lotW z = nxt z / 65536 % 4 := rfl); refine ⟨rfl, ?_, ?_⟩ <;> (simp only [lotZ, lotHC]; rw [e0]; first | (rw [if_pos (show nxt z / 65536 % 4 = 0 by omega)]; first | done | rw [u2_u2, u2_u2] | rfl) | (rw [if_neg (show ¬ nxt z / 65536 % 4 = 0 by omega), if_pos (show nxt z / 65536 % 4 = 1 ∨ nxt z / 65536 % 4 = 2 by omega)]; first | done | rw [u2_u2] | rfl) | (rw [if_neg (show ¬ nxt z / 65536 % 4 = 0 by omega), if_neg (show ¬ (nxt z / 65536 % 4 = 1 ∨ nxt z / 65536 % 4 = 2) by omega)]; first | done | rfl))

set_option maxHeartbeats 4000000 in
set_option maxRecDepth 100000 in
theorem m_Nm_putIfUnlikeAll_a (l : Launch) (o : OM) (mi : MI) (ml : ML) (n : Nat) (h : Int64) (hn : mi 1 2 = nI n) (hn40 : n < 40) (hh : ml 1 0 = h) (hl : fromB (fun k => decide (ml 2 k = h)) n 0 = -1) : ConD l y_Nm_putIfUnlikeAll c_Nm_putIfUnlikeAll 1 none 2 50 o [.ref (ads o (0))] mi ml none (u2 (u2 mi 3 n (nI 0)) 1 2 (nI (n + 1))) (u2 ml 2 n h) := by
  refine Con.mk (by decide) (Nat.le_of_ble_eq_true rfl) (fun γ X => ?_)
  show V γ o 1 mi ml 0 [(0, .ref (ads o (0)))] []
  refine r_aload_n X 0 d_Nm_putIfUnlikeAll_0 rfl rfl ?_
  refine r_get X f_Nm_10 b_0 e_0 (v := .ref (ads o (1))) rfl d_Nm_putIfUnlikeAll_1 ?_
  refine r_get X f_Nm_83 b_1 e_1 (v := .int (nI (n))) (congrArg (fun z => some (Value.int z)) (hn)) d_Nm_putIfUnlikeAll_4 ?_
  refine r_bipush X (v := nI (40)) d_Nm_putIfUnlikeAll_7 (by decide) ?_
  refine r_icge X (tgt := 38) (c := 40 ≤ n) d_Nm_putIfUnlikeAll_9 (by decide) (nI_leI (Nat.le_of_ble_eq_true rfl) (by omega)) (fun c_9 => ?_) (fun c_9 => ?_)
  · -- taken
    exact False.elim (by omega)
  · -- not taken
    refine r_aload_n X 0 d_Nm_putIfUnlikeAll_12 rfl rfl ?_
    refine r_get X f_Nm_10 b_0 e_0 (v := .ref (ads o (1))) rfl d_Nm_putIfUnlikeAll_13 ?_
    refine r_aload_n X 0 d_Nm_putIfUnlikeAll_16 rfl rfl ?_
    refine r_get X f_Nm_10 b_0 e_0 (v := .ref (ads o (1))) rfl d_Nm_putIfUnlikeAll_17 ?_
    refine r_get X f_Nm_88 b_1 e_1 (v := .long (h)) (congrArg (fun z => some (Value.long z)) (hh)) d_Nm_putIfUnlikeAll_20 ?_
    refine r_callV X (m_St_numberOf l o mi ml 1 h n isSt.now (hn) (by omega)) ok_St_numberOf w_Nm_97 rfl b_1 e_1 rfl ⟨Nat.le_of_ble_eq_true rfl, Nat.le_of_ble_eq_true rfl⟩ (rest := []) rfl (Nat.le_of_ble_eq_true rfl) d_Nm_putIfUnlikeAll_23 ?_
    refine kD (st' := [.int ((fromB (fun k => decide (ml 2 k = h)) n 0))]) rfl ?_
    refine r_iconst X (v := ((-1 : Int32))) d_Nm_putIfUnlikeAll_26 (by decide) ?_
    refine r_icneP X (tgt := 38) (c := (fromB (fun k => decide (ml 2 k = h)) n 0) = ((-1 : Int32))) d_Nm_putIfUnlikeAll_27 (by decide) (Iff.rfl) (fun c_27 => ?_) (fun c_27 => ?_)
    · -- taken
      exact False.elim (by exact c_27 hl)
    · -- not taken
      refine r_aload_n X 0 d_Nm_putIfUnlikeAll_30 rfl rfl ?_
      refine r_get X f_Nm_10 b_0 e_0 (v := .ref (ads o (1))) rfl d_Nm_putIfUnlikeAll_31 ?_
      refine r_iconst X (v := nI (0)) d_Nm_putIfUnlikeAll_34 (by decide) ?_
      refine r_callV X (m_St_addHand l o mi ml 1 0 n h isSt.now (hn) hn40 (hh)) ok_St_addHand w_Nm_199 rfl b_1 e_1 rfl ⟨Nat.le_of_ble_eq_true rfl, Nat.le_of_ble_eq_true rfl⟩ (rest := []) rfl (Nat.le_of_ble_eq_true rfl) d_Nm_putIfUnlikeAll_35 ?_
      refine kD (st' := []) rfl ?_
      refine r_end_v X d_Nm_putIfUnlikeAll_38 ?_
      exact ⟨rfl, rfl, rfl⟩

set_option maxHeartbeats 4000000 in
set_option maxRecDepth 100000 in
theorem m_Nm_putIfUnlikeAll_f (l : Launch) (o : OM) (mi : MI) (ml : ML) (n : Nat) (hn : mi 1 2 = nI n) (h40 : n = 40) : ConD l y_Nm_putIfUnlikeAll c_Nm_putIfUnlikeAll 1 none 2 50 o [.ref (ads o (0))] mi ml none mi ml := by
  refine Con.mk (by decide) (Nat.le_of_ble_eq_true rfl) (fun γ X => ?_)
  show V γ o 1 mi ml 0 [(0, .ref (ads o (0)))] []
  refine r_aload_n X 0 d_Nm_putIfUnlikeAll_0 rfl rfl ?_
  refine r_get X f_Nm_10 b_0 e_0 (v := .ref (ads o (1))) rfl d_Nm_putIfUnlikeAll_1 ?_
  refine r_get X f_Nm_83 b_1 e_1 (v := .int (nI (n))) (congrArg (fun z => some (Value.int z)) (hn)) d_Nm_putIfUnlikeAll_4 ?_
  refine r_bipush X (v := nI (40)) d_Nm_putIfUnlikeAll_7 (by decide) ?_
  refine r_icge X (tgt := 38) (c := 40 ≤ n) d_Nm_putIfUnlikeAll_9 (by decide) (nI_leI (Nat.le_of_ble_eq_true rfl) (by omega)) (fun c_9 => ?_) (fun c_9 => ?_)
  · -- taken
    refine r_end_v X d_Nm_putIfUnlikeAll_38 ?_
    exact ⟨rfl, rfl, rfl⟩
  · -- not taken
    exact False.elim (by omega)

set_option maxHeartbeats 4000000 in
set_option maxRecDepth 100000 in
theorem m_Nm_putIfUnlikeAll_l (l : Launch) (o : OM) (mi : MI) (ml : ML) (n : Nat) (h : Int64) (hn : mi 1 2 = nI n) (hn40 : n < 40) (hh : ml 1 0 = h) (hl : ¬ fromB (fun k => decide (ml 2 k = h)) n 0 = -1) : ConD l y_Nm_putIfUnlikeAll c_Nm_putIfUnlikeAll 1 none 2 50 o [.ref (ads o (0))] mi ml none mi ml := by
  refine Con.mk (by decide) (Nat.le_of_ble_eq_true rfl) (fun γ X => ?_)
  show V γ o 1 mi ml 0 [(0, .ref (ads o (0)))] []
  refine r_aload_n X 0 d_Nm_putIfUnlikeAll_0 rfl rfl ?_
  refine r_get X f_Nm_10 b_0 e_0 (v := .ref (ads o (1))) rfl d_Nm_putIfUnlikeAll_1 ?_
  refine r_get X f_Nm_83 b_1 e_1 (v := .int (nI (n))) (congrArg (fun z => some (Value.int z)) (hn)) d_Nm_putIfUnlikeAll_4 ?_
  refine r_bipush X (v := nI (40)) d_Nm_putIfUnlikeAll_7 (by decide) ?_
  refine r_icge X (tgt := 38) (c := 40 ≤ n) d_Nm_putIfUnlikeAll_9 (by decide) (nI_leI (Nat.le_of_ble_eq_true rfl) (by omega)) (fun c_9 => ?_) (fun c_9 => ?_)
  · -- taken
    exact False.elim (by omega)
  · -- not taken
    refine r_aload_n X 0 d_Nm_putIfUnlikeAll_12 rfl rfl ?_
    refine r_get X f_Nm_10 b_0 e_0 (v := .ref (ads o (1))) rfl d_Nm_putIfUnlikeAll_13 ?_
    refine r_aload_n X 0 d_Nm_putIfUnlikeAll_16 rfl rfl ?_
    refine r_get X f_Nm_10 b_0 e_0 (v := .ref (ads o (1))) rfl d_Nm_putIfUnlikeAll_17 ?_
    refine r_get X f_Nm_88 b_1 e_1 (v := .long (h)) (congrArg (fun z => some (Value.long z)) (hh)) d_Nm_putIfUnlikeAll_20 ?_
    refine r_callV X (m_St_numberOf l o mi ml 1 h n isSt.now (hn) (by omega)) ok_St_numberOf w_Nm_97 rfl b_1 e_1 rfl ⟨Nat.le_of_ble_eq_true rfl, Nat.le_of_ble_eq_true rfl⟩ (rest := []) rfl (Nat.le_of_ble_eq_true rfl) d_Nm_putIfUnlikeAll_23 ?_
    refine kD (st' := [.int ((fromB (fun k => decide (ml 2 k = h)) n 0))]) rfl ?_
    refine r_iconst X (v := ((-1 : Int32))) d_Nm_putIfUnlikeAll_26 (by decide) ?_
    refine r_icneP X (tgt := 38) (c := (fromB (fun k => decide (ml 2 k = h)) n 0) = ((-1 : Int32))) d_Nm_putIfUnlikeAll_27 (by decide) (Iff.rfl) (fun c_27 => ?_) (fun c_27 => ?_)
    · -- taken
      refine r_end_v X d_Nm_putIfUnlikeAll_38 ?_
      exact ⟨rfl, rfl, rfl⟩
    · -- not taken
      exact False.elim (by exact hl c_27)
theorem m_Nm_putIfUnlikeAll (l : Launch) (o : OM) (mi : MI) (ml : ML) (n : Nat) (h : Int64) (hn : mi 1 2 = nI n) (hn40 : n ≤ 40) (hh : ml 1 0 = h) : ConD l y_Nm_putIfUnlikeAll c_Nm_putIfUnlikeAll 1 none 2 50 o [.ref (ads o (0))] mi ml none (putI mi ml n) (putL ml n) := by
  subst hh
  by_cases h1 : n < 40
  · by_cases h2 : fromB (fun k => decide (ml 2 k = ml 1 0)) n 0 = -1
    · have hA : putA ml n = true := by unfold putA; simp [h1, h2]
      unfold putI putL; rw [if_pos hA, if_pos hA]; exact m_Nm_putIfUnlikeAll_a l o mi ml n _ hn h1 rfl h2
    · have hA : ¬ putA ml n = true := by unfold putA; simp [h2]
      unfold putI putL; rw [if_neg hA, if_neg hA]; exact m_Nm_putIfUnlikeAll_l l o mi ml n _ hn h1 rfl h2
  · have hA : ¬ putA ml n = true := by unfold putA; simp [h1]
    unfold putI putL; rw [if_neg hA, if_neg hA]; exact m_Nm_putIfUnlikeAll_f l o mi ml n hn (by omega)
