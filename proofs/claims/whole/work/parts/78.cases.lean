/-! the law's calls, one by one -/
section LAWC
variable {γ : GT} {l : Launch} {o : OM} {b L i : Nat} {xs : Nat → Int32} {mi : MI} {ml : ML}
theorem lc_0 (X : CxE γ l o "NearMarksLaw" code 4 9 308 600000 7302250 0) (S : LScr γ o b L xs) (R : Rel mi ml) (hi : i + 4 ≤ L) (k : ∀ (m : MI) (z : ML), Rel m z → VE γ o 4 111 (eM o m z) 111 4438 935 [(0, .ref b), (1, .ref (ads o 0)), (2, .ref (ads o 95)), (3, .int (nI i))] []) : VE γ o 4 111 (eM o mi ml) 111 4438 164 [(0, .ref b), (1, .ref (ads o 0)), (2, .ref (ads o 95)), (3, .int (nI i))] [] := by
  -- told
  refine v_aload_n X 1 d_law_164 rfl rfl ?_
  refine v_aload_n X 0 d_law_165 rfl rfl ?_
  refine v_iload_n X 3 d_law_166 rfl rfl ?_
  refine v_iconst X (v := nI 1) d_law_167 (by decide) ?_
  refine v_iadd X d_law_168 (nI_add i 1) ?_
  refine v_sld X S (j := i + 1) (by omega) d_law_169 ?_
  obtain ⟨P1, hC1, hk1⟩ := b_told l o R (xs (i + 1))
  refine v_callM X hC1 ok_Nm_told w_Lw_13 rfl b_0 e_0 rfl ⟨(Nat.le_of_ble_eq_true rfl), (Nat.le_of_ble_eq_true rfl)⟩ ⟨(Nat.le_of_ble_eq_true rfl), (Nat.le_of_ble_eq_true rfl)⟩ (rest := []) rfl (Nat.le_of_ble_eq_true rfl) d_law_170 (fun v1 m1 z1 hp1 => ?_)
  obtain ⟨x1, rfl, P2, hC2, hk2⟩ := hk1 v1 m1 z1 hp1
  show VE γ o 4 111 (eM o m1 z1) 111 4438 173 [(0, .ref b), (1, .ref (ads o 0)), (2, .ref (ads o 95)), (3, .int (nI i))] [.int x1]
  refine v_aload_n X 2 d_law_173 rfl rfl ?_
  refine v_aload_n X 0 d_law_174 rfl rfl ?_
  refine v_iload_n X 3 d_law_175 rfl rfl ?_
  refine v_iconst X (v := nI 1) d_law_176 (by decide) ?_
  refine v_iadd X d_law_177 (nI_add i 1) ?_
  refine v_sld X S (j := i + 1) (by omega) d_law_178 ?_
  refine v_callM X hC2 ok_Mo_told w_Lw_17 rfl b_95 e_95 rfl ⟨(Nat.le_of_ble_eq_true rfl), (Nat.le_of_ble_eq_true rfl)⟩ ⟨(Nat.le_of_ble_eq_true rfl), (Nat.le_of_ble_eq_true rfl)⟩ (rest := [.int x1]) rfl (Nat.le_of_ble_eq_true rfl) d_law_179 (fun v2 m2 z2 hp2 => ?_)
  obtain ⟨rfl, R2⟩ := hk2 v2 m2 z2 hp2
  show VE γ o 4 111 (eM o m2 z2) 111 4438 182 [(0, .ref b), (1, .ref (ads o 0)), (2, .ref (ads o 95)), (3, .int (nI i))] [.int x1, .int x1]
  exact v_iceq X (tgt := 935) (c := True) d_law_182 (by decide) ⟨fun _ => trivial, fun _ => rfl⟩ (fun _ => k m2 z2 R2) (fun h => absurd trivial h)
theorem lc_1 (X : CxE γ l o "NearMarksLaw" code 4 9 308 600000 7302250 0) (S : LScr γ o b L xs) (R : Rel mi ml) (hi : i + 4 ≤ L) (k : ∀ (m : MI) (z : ML), Rel m z → VE γ o 4 111 (eM o m z) 111 4438 935 [(0, .ref b), (1, .ref (ads o 0)), (2, .ref (ads o 95)), (3, .int (nI i))] []) : VE γ o 4 111 (eM o mi ml) 111 4438 187 [(0, .ref b), (1, .ref (ads o 0)), (2, .ref (ads o 95)), (3, .int (nI i))] [] := by
  -- hand
  refine v_aload_n X 1 d_law_187 rfl rfl ?_
  obtain ⟨P1, hC1, hk1⟩ := b_hand l o R
  refine v_callM X hC1 ok_Nm_hand w_Lw_18 rfl b_0 e_0 rfl ⟨(Nat.le_of_ble_eq_true rfl), (Nat.le_of_ble_eq_true rfl)⟩ ⟨(Nat.le_of_ble_eq_true rfl), (Nat.le_of_ble_eq_true rfl)⟩ (rest := []) rfl (Nat.le_of_ble_eq_true rfl) d_law_188 (fun v1 m1 z1 hp1 => ?_)
  obtain ⟨x1, rfl, P2, hC2, hk2⟩ := hk1 v1 m1 z1 hp1
  show VE γ o 4 111 (eM o m1 z1) 111 4438 191 [(0, .ref b), (1, .ref (ads o 0)), (2, .ref (ads o 95)), (3, .int (nI i))] [.long x1]
  refine v_aload_n X 2 d_law_191 rfl rfl ?_
  refine v_callM X hC2 ok_Mo_hand w_Lw_22 rfl b_95 e_95 rfl ⟨(Nat.le_of_ble_eq_true rfl), (Nat.le_of_ble_eq_true rfl)⟩ ⟨(Nat.le_of_ble_eq_true rfl), (Nat.le_of_ble_eq_true rfl)⟩ (rest := [.long x1]) rfl (Nat.le_of_ble_eq_true rfl) d_law_192 (fun v2 m2 z2 hp2 => ?_)
  obtain ⟨rfl, R2⟩ := hk2 v2 m2 z2 hp2
  show VE γ o 4 111 (eM o m2 z2) 111 4438 195 [(0, .ref b), (1, .ref (ads o 0)), (2, .ref (ads o 95)), (3, .int (nI i))] [.long x1, .long x1]
  refine v_lcmp X d_law_195 ?_
  exact v_ifeq X (tgt := 935) (c := True) d_law_196 (by decide) ⟨fun _ => trivial, fun _ => (lg_cmp_eq x1 x1).mpr rfl⟩ (fun _ => k m2 z2 R2) (fun h => absurd trivial h)
theorem lc_2 (X : CxE γ l o "NearMarksLaw" code 4 9 308 600000 7302250 0) (S : LScr γ o b L xs) (R : Rel mi ml) (hi : i + 4 ≤ L) (k : ∀ (m : MI) (z : ML), Rel m z → VE γ o 4 111 (eM o m z) 111 4438 935 [(0, .ref b), (1, .ref (ads o 0)), (2, .ref (ads o 95)), (3, .int (nI i))] []) : VE γ o 4 111 (eM o mi ml) 111 4438 201 [(0, .ref b), (1, .ref (ads o 0)), (2, .ref (ads o 95)), (3, .int (nI i))] [] := by
  -- markAt
  refine v_aload_n X 1 d_law_201 rfl rfl ?_
  refine v_aload_n X 0 d_law_202 rfl rfl ?_
  refine v_iload_n X 3 d_law_203 rfl rfl ?_
  refine v_iconst X (v := nI 1) d_law_204 (by decide) ?_
  refine v_iadd X d_law_205 (nI_add i 1) ?_
  refine v_sld X S (j := i + 1) (by omega) d_law_206 ?_
  obtain ⟨P1, hC1, hk1⟩ := b_markAt l o R (xs (i + 1))
  refine v_callM X hC1 ok_Nm_markAt w_Lw_23 rfl b_0 e_0 rfl ⟨(Nat.le_of_ble_eq_true rfl), (Nat.le_of_ble_eq_true rfl)⟩ ⟨(Nat.le_of_ble_eq_true rfl), (Nat.le_of_ble_eq_true rfl)⟩ (rest := []) rfl (Nat.le_of_ble_eq_true rfl) d_law_207 (fun v1 m1 z1 hp1 => ?_)
  obtain ⟨x1, rfl, P2, hC2, hk2⟩ := hk1 v1 m1 z1 hp1
  show VE γ o 4 111 (eM o m1 z1) 111 4438 210 [(0, .ref b), (1, .ref (ads o 0)), (2, .ref (ads o 95)), (3, .int (nI i))] [.long x1]
  refine v_aload_n X 2 d_law_210 rfl rfl ?_
  refine v_aload_n X 0 d_law_211 rfl rfl ?_
  refine v_iload_n X 3 d_law_212 rfl rfl ?_
  refine v_iconst X (v := nI 1) d_law_213 (by decide) ?_
  refine v_iadd X d_law_214 (nI_add i 1) ?_
  refine v_sld X S (j := i + 1) (by omega) d_law_215 ?_
  refine v_callM X hC2 ok_Mo_markAt w_Lw_27 rfl b_95 e_95 rfl ⟨(Nat.le_of_ble_eq_true rfl), (Nat.le_of_ble_eq_true rfl)⟩ ⟨(Nat.le_of_ble_eq_true rfl), (Nat.le_of_ble_eq_true rfl)⟩ (rest := [.long x1]) rfl (Nat.le_of_ble_eq_true rfl) d_law_216 (fun v2 m2 z2 hp2 => ?_)
  obtain ⟨rfl, R2⟩ := hk2 v2 m2 z2 hp2
  show VE γ o 4 111 (eM o m2 z2) 111 4438 219 [(0, .ref b), (1, .ref (ads o 0)), (2, .ref (ads o 95)), (3, .int (nI i))] [.long x1, .long x1]
  refine v_lcmp X d_law_219 ?_
  exact v_ifeq X (tgt := 935) (c := True) d_law_220 (by decide) ⟨fun _ => trivial, fun _ => (lg_cmp_eq x1 x1).mpr rfl⟩ (fun _ => k m2 z2 R2) (fun h => absurd trivial h)
theorem lc_3 (X : CxE γ l o "NearMarksLaw" code 4 9 308 600000 7302250 0) (S : LScr γ o b L xs) (R : Rel mi ml) (hi : i + 4 ≤ L) (k : ∀ (m : MI) (z : ML), Rel m z → VE γ o 4 111 (eM o m z) 111 4438 935 [(0, .ref b), (1, .ref (ads o 0)), (2, .ref (ads o 95)), (3, .int (nI i))] []) : VE γ o 4 111 (eM o mi ml) 111 4438 225 [(0, .ref b), (1, .ref (ads o 0)), (2, .ref (ads o 95)), (3, .int (nI i))] [] := by
  -- mark
  refine v_aload_n X 1 d_law_225 rfl rfl ?_
  refine v_aload_n X 0 d_law_226 rfl rfl ?_
  refine v_iload_n X 3 d_law_227 rfl rfl ?_
  refine v_iconst X (v := nI 1) d_law_228 (by decide) ?_
  refine v_iadd X d_law_229 (nI_add i 1) ?_
  refine v_sld X S (j := i + 1) (by omega) d_law_230 ?_
  refine v_aload_n X 0 d_law_231 rfl rfl ?_
  refine v_iload_n X 3 d_law_232 rfl rfl ?_
  refine v_iconst X (v := nI 2) d_law_233 (by decide) ?_
  refine v_iadd X d_law_234 (nI_add i 2) ?_
  refine v_sld X S (j := i + 2) (by omega) d_law_235 ?_
  obtain ⟨P1, hC1, hk1⟩ := b_mark l o R (xs (i + 1)) (xs (i + 2))
  refine v_callM X hC1 ok_Nm_mark w_Lw_28 rfl b_0 e_0 rfl ⟨(Nat.le_of_ble_eq_true rfl), (Nat.le_of_ble_eq_true rfl)⟩ ⟨(Nat.le_of_ble_eq_true rfl), (Nat.le_of_ble_eq_true rfl)⟩ (rest := []) rfl (Nat.le_of_ble_eq_true rfl) d_law_236 (fun v1 m1 z1 hp1 => ?_)
  obtain ⟨x1, rfl, P2, hC2, hk2⟩ := hk1 v1 m1 z1 hp1
  show VE γ o 4 111 (eM o m1 z1) 111 4438 239 [(0, .ref b), (1, .ref (ads o 0)), (2, .ref (ads o 95)), (3, .int (nI i))] [.int x1]
  refine v_aload_n X 2 d_law_239 rfl rfl ?_
  refine v_aload_n X 0 d_law_240 rfl rfl ?_
  refine v_iload_n X 3 d_law_241 rfl rfl ?_
  refine v_iconst X (v := nI 1) d_law_242 (by decide) ?_
  refine v_iadd X d_law_243 (nI_add i 1) ?_
  refine v_sld X S (j := i + 1) (by omega) d_law_244 ?_
  refine v_aload_n X 0 d_law_245 rfl rfl ?_
  refine v_iload_n X 3 d_law_246 rfl rfl ?_
  refine v_iconst X (v := nI 2) d_law_247 (by decide) ?_
  refine v_iadd X d_law_248 (nI_add i 2) ?_
  refine v_sld X S (j := i + 2) (by omega) d_law_249 ?_
  refine v_callM X hC2 ok_Mo_mark w_Lw_32 rfl b_95 e_95 rfl ⟨(Nat.le_of_ble_eq_true rfl), (Nat.le_of_ble_eq_true rfl)⟩ ⟨(Nat.le_of_ble_eq_true rfl), (Nat.le_of_ble_eq_true rfl)⟩ (rest := [.int x1]) rfl (Nat.le_of_ble_eq_true rfl) d_law_250 (fun v2 m2 z2 hp2 => ?_)
  obtain ⟨rfl, R2⟩ := hk2 v2 m2 z2 hp2
  show VE γ o 4 111 (eM o m2 z2) 111 4438 253 [(0, .ref b), (1, .ref (ads o 0)), (2, .ref (ads o 95)), (3, .int (nI i))] [.int x1, .int x1]
  exact v_iceq X (tgt := 935) (c := True) d_law_253 (by decide) ⟨fun _ => trivial, fun _ => rfl⟩ (fun _ => k m2 z2 R2) (fun h => absurd trivial h)
theorem lc_4 (X : CxE γ l o "NearMarksLaw" code 4 9 308 600000 7302250 0) (S : LScr γ o b L xs) (R : Rel mi ml) (hi : i + 4 ≤ L) (k : ∀ (m : MI) (z : ML), Rel m z → VE γ o 4 111 (eM o m z) 111 4438 935 [(0, .ref b), (1, .ref (ads o 0)), (2, .ref (ads o 95)), (3, .int (nI i))] []) : VE γ o 4 111 (eM o mi ml) 111 4438 258 [(0, .ref b), (1, .ref (ads o 0)), (2, .ref (ads o 95)), (3, .int (nI i))] [] := by
  -- part
  refine v_aload_n X 1 d_law_258 rfl rfl ?_
  refine v_aload_n X 0 d_law_259 rfl rfl ?_
  refine v_iload_n X 3 d_law_260 rfl rfl ?_
  refine v_iconst X (v := nI 1) d_law_261 (by decide) ?_
  refine v_iadd X d_law_262 (nI_add i 1) ?_
  refine v_sld X S (j := i + 1) (by omega) d_law_263 ?_
  refine v_aload_n X 0 d_law_264 rfl rfl ?_
  refine v_iload_n X 3 d_law_265 rfl rfl ?_
  refine v_iconst X (v := nI 2) d_law_266 (by decide) ?_
  refine v_iadd X d_law_267 (nI_add i 2) ?_
  refine v_sld X S (j := i + 2) (by omega) d_law_268 ?_
  obtain ⟨P1, hC1, hk1⟩ := b_part l o R (xs (i + 1)) (xs (i + 2))
  refine v_callM X hC1 ok_Nm_part w_Lw_33 rfl b_0 e_0 rfl ⟨(Nat.le_of_ble_eq_true rfl), (Nat.le_of_ble_eq_true rfl)⟩ ⟨(Nat.le_of_ble_eq_true rfl), (Nat.le_of_ble_eq_true rfl)⟩ (rest := []) rfl (Nat.le_of_ble_eq_true rfl) d_law_269 (fun v1 m1 z1 hp1 => ?_)
  obtain ⟨x1, rfl, P2, hC2, hk2⟩ := hk1 v1 m1 z1 hp1
  show VE γ o 4 111 (eM o m1 z1) 111 4438 272 [(0, .ref b), (1, .ref (ads o 0)), (2, .ref (ads o 95)), (3, .int (nI i))] [.int x1]
  refine v_aload_n X 2 d_law_272 rfl rfl ?_
  refine v_aload_n X 0 d_law_273 rfl rfl ?_
  refine v_iload_n X 3 d_law_274 rfl rfl ?_
  refine v_iconst X (v := nI 1) d_law_275 (by decide) ?_
  refine v_iadd X d_law_276 (nI_add i 1) ?_
  refine v_sld X S (j := i + 1) (by omega) d_law_277 ?_
  refine v_aload_n X 0 d_law_278 rfl rfl ?_
  refine v_iload_n X 3 d_law_279 rfl rfl ?_
  refine v_iconst X (v := nI 2) d_law_280 (by decide) ?_
  refine v_iadd X d_law_281 (nI_add i 2) ?_
  refine v_sld X S (j := i + 2) (by omega) d_law_282 ?_
  refine v_callM X hC2 ok_Mo_part w_Lw_36 rfl b_95 e_95 rfl ⟨(Nat.le_of_ble_eq_true rfl), (Nat.le_of_ble_eq_true rfl)⟩ ⟨(Nat.le_of_ble_eq_true rfl), (Nat.le_of_ble_eq_true rfl)⟩ (rest := [.int x1]) rfl (Nat.le_of_ble_eq_true rfl) d_law_283 (fun v2 m2 z2 hp2 => ?_)
  obtain ⟨rfl, R2⟩ := hk2 v2 m2 z2 hp2
  show VE γ o 4 111 (eM o m2 z2) 111 4438 286 [(0, .ref b), (1, .ref (ads o 0)), (2, .ref (ads o 95)), (3, .int (nI i))] [.int x1, .int x1]
  exact v_iceq X (tgt := 935) (c := True) d_law_286 (by decide) ⟨fun _ => trivial, fun _ => rfl⟩ (fun _ => k m2 z2 R2) (fun h => absurd trivial h)
theorem lc_5 (X : CxE γ l o "NearMarksLaw" code 4 9 308 600000 7302250 0) (S : LScr γ o b L xs) (R : Rel mi ml) (hi : i + 4 ≤ L) (k : ∀ (m : MI) (z : ML), Rel m z → VE γ o 4 111 (eM o m z) 111 4438 935 [(0, .ref b), (1, .ref (ads o 0)), (2, .ref (ads o 95)), (3, .int (nI i))] []) : VE γ o 4 111 (eM o mi ml) 111 4438 291 [(0, .ref b), (1, .ref (ads o 0)), (2, .ref (ads o 95)), (3, .int (nI i))] [] := by
  -- type
  refine v_aload_n X 1 d_law_291 rfl rfl ?_
  refine v_aload_n X 0 d_law_292 rfl rfl ?_
  refine v_iload_n X 3 d_law_293 rfl rfl ?_
  refine v_iconst X (v := nI 1) d_law_294 (by decide) ?_
  refine v_iadd X d_law_295 (nI_add i 1) ?_
  refine v_sld X S (j := i + 1) (by omega) d_law_296 ?_
  refine v_aload_n X 0 d_law_297 rfl rfl ?_
  refine v_iload_n X 3 d_law_298 rfl rfl ?_
  refine v_iconst X (v := nI 2) d_law_299 (by decide) ?_
  refine v_iadd X d_law_300 (nI_add i 2) ?_
  refine v_sld X S (j := i + 2) (by omega) d_law_301 ?_
  obtain ⟨P1, hC1, hk1⟩ := b_type l o R (xs (i + 1)) (xs (i + 2))
  refine v_callM X hC1 ok_Nm_type w_Lw_37 rfl b_0 e_0 rfl ⟨(Nat.le_of_ble_eq_true rfl), (Nat.le_of_ble_eq_true rfl)⟩ ⟨(Nat.le_of_ble_eq_true rfl), (Nat.le_of_ble_eq_true rfl)⟩ (rest := []) rfl (Nat.le_of_ble_eq_true rfl) d_law_302 (fun v1 m1 z1 hp1 => ?_)
  obtain ⟨x1, rfl, P2, hC2, hk2⟩ := hk1 v1 m1 z1 hp1
  show VE γ o 4 111 (eM o m1 z1) 111 4438 305 [(0, .ref b), (1, .ref (ads o 0)), (2, .ref (ads o 95)), (3, .int (nI i))] [.int x1]
  refine v_aload_n X 2 d_law_305 rfl rfl ?_
  refine v_aload_n X 0 d_law_306 rfl rfl ?_
  refine v_iload_n X 3 d_law_307 rfl rfl ?_
  refine v_iconst X (v := nI 1) d_law_308 (by decide) ?_
  refine v_iadd X d_law_309 (nI_add i 1) ?_
  refine v_sld X S (j := i + 1) (by omega) d_law_310 ?_
  refine v_aload_n X 0 d_law_311 rfl rfl ?_
  refine v_iload_n X 3 d_law_312 rfl rfl ?_
  refine v_iconst X (v := nI 2) d_law_313 (by decide) ?_
  refine v_iadd X d_law_314 (nI_add i 2) ?_
  refine v_sld X S (j := i + 2) (by omega) d_law_315 ?_
  refine v_callM X hC2 ok_Mo_type w_Lw_40 rfl b_95 e_95 rfl ⟨(Nat.le_of_ble_eq_true rfl), (Nat.le_of_ble_eq_true rfl)⟩ ⟨(Nat.le_of_ble_eq_true rfl), (Nat.le_of_ble_eq_true rfl)⟩ (rest := [.int x1]) rfl (Nat.le_of_ble_eq_true rfl) d_law_316 (fun v2 m2 z2 hp2 => ?_)
  obtain ⟨rfl, R2⟩ := hk2 v2 m2 z2 hp2
  show VE γ o 4 111 (eM o m2 z2) 111 4438 319 [(0, .ref b), (1, .ref (ads o 0)), (2, .ref (ads o 95)), (3, .int (nI i))] [.int x1, .int x1]
  exact v_iceq X (tgt := 935) (c := True) d_law_319 (by decide) ⟨fun _ => trivial, fun _ => rfl⟩ (fun _ => k m2 z2 R2) (fun h => absurd trivial h)
theorem lc_6 (X : CxE γ l o "NearMarksLaw" code 4 9 308 600000 7302250 0) (S : LScr γ o b L xs) (R : Rel mi ml) (hi : i + 4 ≤ L) (k : ∀ (m : MI) (z : ML), Rel m z → VE γ o 4 111 (eM o m z) 111 4438 935 [(0, .ref b), (1, .ref (ads o 0)), (2, .ref (ads o 95)), (3, .int (nI i))] []) : VE γ o 4 111 (eM o mi ml) 111 4438 324 [(0, .ref b), (1, .ref (ads o 0)), (2, .ref (ads o 95)), (3, .int (nI i))] [] := by
  -- flip
  refine v_aload_n X 1 d_law_324 rfl rfl ?_
  refine v_aload_n X 0 d_law_325 rfl rfl ?_
  refine v_iload_n X 3 d_law_326 rfl rfl ?_
  refine v_iconst X (v := nI 1) d_law_327 (by decide) ?_
  refine v_iadd X d_law_328 (nI_add i 1) ?_
  refine v_sld X S (j := i + 1) (by omega) d_law_329 ?_
  obtain ⟨P1, hC1, hk1⟩ := b_flip l o R (xs (i + 1))
  refine v_callM X hC1 ok_Nm_flip w_Lw_41 rfl b_0 e_0 rfl ⟨(Nat.le_of_ble_eq_true rfl), (Nat.le_of_ble_eq_true rfl)⟩ ⟨(Nat.le_of_ble_eq_true rfl), (Nat.le_of_ble_eq_true rfl)⟩ (rest := []) rfl (Nat.le_of_ble_eq_true rfl) d_law_330 (fun v1 m1 z1 hp1 => ?_)
  obtain ⟨x1, rfl, P2, hC2, hk2⟩ := hk1 v1 m1 z1 hp1
  show VE γ o 4 111 (eM o m1 z1) 111 4438 333 [(0, .ref b), (1, .ref (ads o 0)), (2, .ref (ads o 95)), (3, .int (nI i))] [.int x1]
  refine v_aload_n X 2 d_law_333 rfl rfl ?_
  refine v_aload_n X 0 d_law_334 rfl rfl ?_
  refine v_iload_n X 3 d_law_335 rfl rfl ?_
  refine v_iconst X (v := nI 1) d_law_336 (by decide) ?_
  refine v_iadd X d_law_337 (nI_add i 1) ?_
  refine v_sld X S (j := i + 1) (by omega) d_law_338 ?_
  refine v_callM X hC2 ok_Mo_flip w_Lw_44 rfl b_95 e_95 rfl ⟨(Nat.le_of_ble_eq_true rfl), (Nat.le_of_ble_eq_true rfl)⟩ ⟨(Nat.le_of_ble_eq_true rfl), (Nat.le_of_ble_eq_true rfl)⟩ (rest := [.int x1]) rfl (Nat.le_of_ble_eq_true rfl) d_law_339 (fun v2 m2 z2 hp2 => ?_)
  obtain ⟨rfl, R2⟩ := hk2 v2 m2 z2 hp2
  show VE γ o 4 111 (eM o m2 z2) 111 4438 342 [(0, .ref b), (1, .ref (ads o 0)), (2, .ref (ads o 95)), (3, .int (nI i))] [.int x1, .int x1]
  exact v_iceq X (tgt := 935) (c := True) d_law_342 (by decide) ⟨fun _ => trivial, fun _ => rfl⟩ (fun _ => k m2 z2 R2) (fun h => absurd trivial h)
theorem lc_7 (X : CxE γ l o "NearMarksLaw" code 4 9 308 600000 7302250 0) (S : LScr γ o b L xs) (R : Rel mi ml) (hi : i + 4 ≤ L) (k : ∀ (m : MI) (z : ML), Rel m z → VE γ o 4 111 (eM o m z) 111 4438 935 [(0, .ref b), (1, .ref (ads o 0)), (2, .ref (ads o 95)), (3, .int (nI i))] []) : VE γ o 4 111 (eM o mi ml) 111 4438 347 [(0, .ref b), (1, .ref (ads o 0)), (2, .ref (ads o 95)), (3, .int (nI i))] [] := by
  -- turn
  refine v_aload_n X 1 d_law_347 rfl rfl ?_
  obtain ⟨P1, hC1, hk1⟩ := b_turn l o R
  refine v_callM X hC1 ok_Nm_turn w_Lw_45 rfl b_0 e_0 rfl ⟨(Nat.le_of_ble_eq_true rfl), (Nat.le_of_ble_eq_true rfl)⟩ ⟨(Nat.le_of_ble_eq_true rfl), (Nat.le_of_ble_eq_true rfl)⟩ (rest := []) rfl (Nat.le_of_ble_eq_true rfl) d_law_348 (fun v1 m1 z1 hp1 => ?_)
  obtain ⟨x1, rfl, P2, hC2, hk2⟩ := hk1 v1 m1 z1 hp1
  show VE γ o 4 111 (eM o m1 z1) 111 4438 351 [(0, .ref b), (1, .ref (ads o 0)), (2, .ref (ads o 95)), (3, .int (nI i))] [.int x1]
  refine v_aload_n X 2 d_law_351 rfl rfl ?_
  refine v_callM X hC2 ok_Mo_turn w_Lw_49 rfl b_95 e_95 rfl ⟨(Nat.le_of_ble_eq_true rfl), (Nat.le_of_ble_eq_true rfl)⟩ ⟨(Nat.le_of_ble_eq_true rfl), (Nat.le_of_ble_eq_true rfl)⟩ (rest := [.int x1]) rfl (Nat.le_of_ble_eq_true rfl) d_law_352 (fun v2 m2 z2 hp2 => ?_)
  obtain ⟨rfl, R2⟩ := hk2 v2 m2 z2 hp2
  show VE γ o 4 111 (eM o m2 z2) 111 4438 355 [(0, .ref b), (1, .ref (ads o 0)), (2, .ref (ads o 95)), (3, .int (nI i))] [.int x1, .int x1]
  exact v_iceq X (tgt := 935) (c := True) d_law_355 (by decide) ⟨fun _ => trivial, fun _ => rfl⟩ (fun _ => k m2 z2 R2) (fun h => absurd trivial h)
theorem lc_8 (X : CxE γ l o "NearMarksLaw" code 4 9 308 600000 7302250 0) (S : LScr γ o b L xs) (R : Rel mi ml) (hi : i + 4 ≤ L) (k : ∀ (m : MI) (z : ML), Rel m z → VE γ o 4 111 (eM o m z) 111 4438 935 [(0, .ref b), (1, .ref (ads o 0)), (2, .ref (ads o 95)), (3, .int (nI i))] []) : VE γ o 4 111 (eM o mi ml) 111 4438 360 [(0, .ref b), (1, .ref (ads o 0)), (2, .ref (ads o 95)), (3, .int (nI i))] [] := by
  -- mirror
  refine v_aload_n X 1 d_law_360 rfl rfl ?_
  obtain ⟨P1, hC1, hk1⟩ := b_mirror l o R
  refine v_callM X hC1 ok_Nm_mirror w_Lw_50 rfl b_0 e_0 rfl ⟨(Nat.le_of_ble_eq_true rfl), (Nat.le_of_ble_eq_true rfl)⟩ ⟨(Nat.le_of_ble_eq_true rfl), (Nat.le_of_ble_eq_true rfl)⟩ (rest := []) rfl (Nat.le_of_ble_eq_true rfl) d_law_361 (fun v1 m1 z1 hp1 => ?_)
  obtain ⟨x1, rfl, P2, hC2, hk2⟩ := hk1 v1 m1 z1 hp1
  show VE γ o 4 111 (eM o m1 z1) 111 4438 364 [(0, .ref b), (1, .ref (ads o 0)), (2, .ref (ads o 95)), (3, .int (nI i))] [.int x1]
  refine v_aload_n X 2 d_law_364 rfl rfl ?_
  refine v_callM X hC2 ok_Mo_mirror w_Lw_53 rfl b_95 e_95 rfl ⟨(Nat.le_of_ble_eq_true rfl), (Nat.le_of_ble_eq_true rfl)⟩ ⟨(Nat.le_of_ble_eq_true rfl), (Nat.le_of_ble_eq_true rfl)⟩ (rest := [.int x1]) rfl (Nat.le_of_ble_eq_true rfl) d_law_365 (fun v2 m2 z2 hp2 => ?_)
  obtain ⟨rfl, R2⟩ := hk2 v2 m2 z2 hp2
  show VE γ o 4 111 (eM o m2 z2) 111 4438 368 [(0, .ref b), (1, .ref (ads o 0)), (2, .ref (ads o 95)), (3, .int (nI i))] [.int x1, .int x1]
  exact v_iceq X (tgt := 935) (c := True) d_law_368 (by decide) ⟨fun _ => trivial, fun _ => rfl⟩ (fun _ => k m2 z2 R2) (fun h => absurd trivial h)
theorem lc_9 (X : CxE γ l o "NearMarksLaw" code 4 9 308 600000 7302250 0) (S : LScr γ o b L xs) (R : Rel mi ml) (hi : i + 4 ≤ L) (k : ∀ (m : MI) (z : ML), Rel m z → VE γ o 4 111 (eM o m z) 111 4438 935 [(0, .ref b), (1, .ref (ads o 0)), (2, .ref (ads o 95)), (3, .int (nI i))] []) : VE γ o 4 111 (eM o mi ml) 111 4438 373 [(0, .ref b), (1, .ref (ads o 0)), (2, .ref (ads o 95)), (3, .int (nI i))] [] := by
  -- hold
  refine v_aload_n X 1 d_law_373 rfl rfl ?_
  refine v_aload_n X 0 d_law_374 rfl rfl ?_
  refine v_iload_n X 3 d_law_375 rfl rfl ?_
  refine v_iconst X (v := nI 1) d_law_376 (by decide) ?_
  refine v_iadd X d_law_377 (nI_add i 1) ?_
  refine v_sld X S (j := i + 1) (by omega) d_law_378 ?_
  obtain ⟨P1, hC1, hk1⟩ := b_hold l o R (xs (i + 1))
  refine v_callM X hC1 ok_Nm_hold w_Lw_54 rfl b_0 e_0 rfl ⟨(Nat.le_of_ble_eq_true rfl), (Nat.le_of_ble_eq_true rfl)⟩ ⟨(Nat.le_of_ble_eq_true rfl), (Nat.le_of_ble_eq_true rfl)⟩ (rest := []) rfl (Nat.le_of_ble_eq_true rfl) d_law_379 (fun v1 m1 z1 hp1 => ?_)
  obtain ⟨x1, rfl, P2, hC2, hk2⟩ := hk1 v1 m1 z1 hp1
  show VE γ o 4 111 (eM o m1 z1) 111 4438 382 [(0, .ref b), (1, .ref (ads o 0)), (2, .ref (ads o 95)), (3, .int (nI i))] [.int x1]
  refine v_aload_n X 2 d_law_382 rfl rfl ?_
  refine v_aload_n X 0 d_law_383 rfl rfl ?_
  refine v_iload_n X 3 d_law_384 rfl rfl ?_
  refine v_iconst X (v := nI 1) d_law_385 (by decide) ?_
  refine v_iadd X d_law_386 (nI_add i 1) ?_
  refine v_sld X S (j := i + 1) (by omega) d_law_387 ?_
  refine v_callM X hC2 ok_Mo_hold w_Lw_57 rfl b_95 e_95 rfl ⟨(Nat.le_of_ble_eq_true rfl), (Nat.le_of_ble_eq_true rfl)⟩ ⟨(Nat.le_of_ble_eq_true rfl), (Nat.le_of_ble_eq_true rfl)⟩ (rest := [.int x1]) rfl (Nat.le_of_ble_eq_true rfl) d_law_388 (fun v2 m2 z2 hp2 => ?_)
  obtain ⟨rfl, R2⟩ := hk2 v2 m2 z2 hp2
  show VE γ o 4 111 (eM o m2 z2) 111 4438 391 [(0, .ref b), (1, .ref (ads o 0)), (2, .ref (ads o 95)), (3, .int (nI i))] [.int x1, .int x1]
  exact v_iceq X (tgt := 935) (c := True) d_law_391 (by decide) ⟨fun _ => trivial, fun _ => rfl⟩ (fun _ => k m2 z2 R2) (fun h => absurd trivial h)
theorem lc_10 (X : CxE γ l o "NearMarksLaw" code 4 9 308 600000 7302250 0) (S : LScr γ o b L xs) (R : Rel mi ml) (hi : i + 4 ≤ L) (k : ∀ (m : MI) (z : ML), Rel m z → VE γ o 4 111 (eM o m z) 111 4438 935 [(0, .ref b), (1, .ref (ads o 0)), (2, .ref (ads o 95)), (3, .int (nI i))] []) : VE γ o 4 111 (eM o mi ml) 111 4438 396 [(0, .ref b), (1, .ref (ads o 0)), (2, .ref (ads o 95)), (3, .int (nI i))] [] := by
  -- put
  refine v_aload_n X 1 d_law_396 rfl rfl ?_
  refine v_aload_n X 0 d_law_397 rfl rfl ?_
  refine v_iload_n X 3 d_law_398 rfl rfl ?_
  refine v_iconst X (v := nI 1) d_law_399 (by decide) ?_
  refine v_iadd X d_law_400 (nI_add i 1) ?_
  refine v_sld X S (j := i + 1) (by omega) d_law_401 ?_
  obtain ⟨P1, hC1, hk1⟩ := b_put l o R (xs (i + 1))
  refine v_callM X hC1 ok_Nm_put w_Lw_58 rfl b_0 e_0 rfl ⟨(Nat.le_of_ble_eq_true rfl), (Nat.le_of_ble_eq_true rfl)⟩ ⟨(Nat.le_of_ble_eq_true rfl), (Nat.le_of_ble_eq_true rfl)⟩ (rest := []) rfl (Nat.le_of_ble_eq_true rfl) d_law_402 (fun v1 m1 z1 hp1 => ?_)
  obtain ⟨x1, rfl, P2, hC2, hk2⟩ := hk1 v1 m1 z1 hp1
  show VE γ o 4 111 (eM o m1 z1) 111 4438 405 [(0, .ref b), (1, .ref (ads o 0)), (2, .ref (ads o 95)), (3, .int (nI i))] [.int x1]
  refine v_aload_n X 2 d_law_405 rfl rfl ?_
  refine v_aload_n X 0 d_law_406 rfl rfl ?_
  refine v_iload_n X 3 d_law_407 rfl rfl ?_
  refine v_iconst X (v := nI 1) d_law_408 (by decide) ?_
  refine v_iadd X d_law_409 (nI_add i 1) ?_
  refine v_sld X S (j := i + 1) (by omega) d_law_410 ?_
  refine v_callM X hC2 ok_Mo_put w_Lw_61 rfl b_95 e_95 rfl ⟨(Nat.le_of_ble_eq_true rfl), (Nat.le_of_ble_eq_true rfl)⟩ ⟨(Nat.le_of_ble_eq_true rfl), (Nat.le_of_ble_eq_true rfl)⟩ (rest := [.int x1]) rfl (Nat.le_of_ble_eq_true rfl) d_law_411 (fun v2 m2 z2 hp2 => ?_)
  obtain ⟨rfl, R2⟩ := hk2 v2 m2 z2 hp2
  show VE γ o 4 111 (eM o m2 z2) 111 4438 414 [(0, .ref b), (1, .ref (ads o 0)), (2, .ref (ads o 95)), (3, .int (nI i))] [.int x1, .int x1]
  exact v_iceq X (tgt := 935) (c := True) d_law_414 (by decide) ⟨fun _ => trivial, fun _ => rfl⟩ (fun _ => k m2 z2 R2) (fun h => absurd trivial h)
theorem lc_11 (X : CxE γ l o "NearMarksLaw" code 4 9 308 600000 7302250 0) (S : LScr γ o b L xs) (R : Rel mi ml) (hi : i + 4 ≤ L) (k : ∀ (m : MI) (z : ML), Rel m z → VE γ o 4 111 (eM o m z) 111 4438 935 [(0, .ref b), (1, .ref (ads o 0)), (2, .ref (ads o 95)), (3, .int (nI i))] []) : VE γ o 4 111 (eM o mi ml) 111 4438 419 [(0, .ref b), (1, .ref (ads o 0)), (2, .ref (ads o 95)), (3, .int (nI i))] [] := by
  -- cut
  refine v_aload_n X 1 d_law_419 rfl rfl ?_
  refine v_aload_n X 0 d_law_420 rfl rfl ?_
  refine v_iload_n X 3 d_law_421 rfl rfl ?_
  refine v_iconst X (v := nI 1) d_law_422 (by decide) ?_
  refine v_iadd X d_law_423 (nI_add i 1) ?_
  refine v_sld X S (j := i + 1) (by omega) d_law_424 ?_
  refine v_i2l X (v := (xs (i + 1)).toInt64) d_law_425 rfl ?_
  refine v_bipush X (v := nI 32) d_law_426 (by decide) ?_
  refine v_lshl X (v := (xs (i + 1)).toInt64 <<< ((nI 32).toInt64 &&& 63)) d_law_428 rfl ?_
  refine v_aload_n X 0 d_law_429 rfl rfl ?_
  refine v_iload_n X 3 d_law_430 rfl rfl ?_
  refine v_iconst X (v := nI 2) d_law_431 (by decide) ?_
  refine v_iadd X d_law_432 (nI_add i 2) ?_
  refine v_sld X S (j := i + 2) (by omega) d_law_433 ?_
  refine v_i2l X (v := (xs (i + 2)).toInt64) d_law_434 rfl ?_
  refine v_ldc2 X k_Lw_62 d_law_435 ?_
  refine v_land X (v := (xs (i + 2)).toInt64 &&& 4294967295) d_law_438 rfl ?_
  refine v_lor X (v := ((xs (i + 1)).toInt64 <<< ((nI 32).toInt64 &&& 63)) ||| ((xs (i + 2)).toInt64 &&& 4294967295)) d_law_439 rfl ?_
  obtain ⟨P1, hC1, hk1⟩ := b_cut l o R (((xs (i + 1)).toInt64 <<< ((nI 32).toInt64 &&& 63)) ||| ((xs (i + 2)).toInt64 &&& 4294967295))
  refine v_callM X hC1 ok_Nm_cut w_Lw_64 rfl b_0 e_0 rfl ⟨(Nat.le_of_ble_eq_true rfl), (Nat.le_of_ble_eq_true rfl)⟩ ⟨(Nat.le_of_ble_eq_true rfl), (Nat.le_of_ble_eq_true rfl)⟩ (rest := []) rfl (Nat.le_of_ble_eq_true rfl) d_law_440 (fun v1 m1 z1 hp1 => ?_)
  obtain ⟨x1, rfl, P2, hC2, hk2⟩ := hk1 v1 m1 z1 hp1
  show VE γ o 4 111 (eM o m1 z1) 111 4438 443 [(0, .ref b), (1, .ref (ads o 0)), (2, .ref (ads o 95)), (3, .int (nI i))] [.int x1]
  refine v_aload_n X 2 d_law_443 rfl rfl ?_
  refine v_aload_n X 0 d_law_444 rfl rfl ?_
  refine v_iload_n X 3 d_law_445 rfl rfl ?_
  refine v_iconst X (v := nI 1) d_law_446 (by decide) ?_
  refine v_iadd X d_law_447 (nI_add i 1) ?_
  refine v_sld X S (j := i + 1) (by omega) d_law_448 ?_
  refine v_i2l X (v := (xs (i + 1)).toInt64) d_law_449 rfl ?_
  refine v_bipush X (v := nI 32) d_law_450 (by decide) ?_
  refine v_lshl X (v := (xs (i + 1)).toInt64 <<< ((nI 32).toInt64 &&& 63)) d_law_452 rfl ?_
  refine v_aload_n X 0 d_law_453 rfl rfl ?_
  refine v_iload_n X 3 d_law_454 rfl rfl ?_
  refine v_iconst X (v := nI 2) d_law_455 (by decide) ?_
  refine v_iadd X d_law_456 (nI_add i 2) ?_
  refine v_sld X S (j := i + 2) (by omega) d_law_457 ?_
  refine v_i2l X (v := (xs (i + 2)).toInt64) d_law_458 rfl ?_
  refine v_ldc2 X k_Lw_62 d_law_459 ?_
  refine v_land X (v := (xs (i + 2)).toInt64 &&& 4294967295) d_law_462 rfl ?_
  refine v_lor X (v := ((xs (i + 1)).toInt64 <<< ((nI 32).toInt64 &&& 63)) ||| ((xs (i + 2)).toInt64 &&& 4294967295)) d_law_463 rfl ?_
  refine v_callM X hC2 ok_Mo_cut w_Lw_68 rfl b_95 e_95 rfl ⟨(Nat.le_of_ble_eq_true rfl), (Nat.le_of_ble_eq_true rfl)⟩ ⟨(Nat.le_of_ble_eq_true rfl), (Nat.le_of_ble_eq_true rfl)⟩ (rest := [.int x1]) rfl (Nat.le_of_ble_eq_true rfl) d_law_464 (fun v2 m2 z2 hp2 => ?_)
  obtain ⟨rfl, R2⟩ := hk2 v2 m2 z2 hp2
  show VE γ o 4 111 (eM o m2 z2) 111 4438 467 [(0, .ref b), (1, .ref (ads o 0)), (2, .ref (ads o 95)), (3, .int (nI i))] [.int x1, .int x1]
  exact v_iceq X (tgt := 935) (c := True) d_law_467 (by decide) ⟨fun _ => trivial, fun _ => rfl⟩ (fun _ => k m2 z2 R2) (fun h => absurd trivial h)
theorem lc_12 (X : CxE γ l o "NearMarksLaw" code 4 9 308 600000 7302250 0) (S : LScr γ o b L xs) (R : Rel mi ml) (hi : i + 4 ≤ L) (k : ∀ (m : MI) (z : ML), Rel m z → VE γ o 4 111 (eM o m z) 111 4438 935 [(0, .ref b), (1, .ref (ads o 0)), (2, .ref (ads o 95)), (3, .int (nI i))] []) : VE γ o 4 111 (eM o mi ml) 111 4438 472 [(0, .ref b), (1, .ref (ads o 0)), (2, .ref (ads o 95)), (3, .int (nI i))] [] := by
  -- take
  refine v_aload_n X 1 d_law_472 rfl rfl ?_
  refine v_aload_n X 0 d_law_473 rfl rfl ?_
  refine v_iload_n X 3 d_law_474 rfl rfl ?_
  refine v_iconst X (v := nI 1) d_law_475 (by decide) ?_
  refine v_iadd X d_law_476 (nI_add i 1) ?_
  refine v_sld X S (j := i + 1) (by omega) d_law_477 ?_
  obtain ⟨P1, hC1, hk1⟩ := b_take l o R (xs (i + 1))
  refine v_callM X hC1 ok_Nm_take w_Lw_69 rfl b_0 e_0 rfl ⟨(Nat.le_of_ble_eq_true rfl), (Nat.le_of_ble_eq_true rfl)⟩ ⟨(Nat.le_of_ble_eq_true rfl), (Nat.le_of_ble_eq_true rfl)⟩ (rest := []) rfl (Nat.le_of_ble_eq_true rfl) d_law_478 (fun v1 m1 z1 hp1 => ?_)
  obtain ⟨x1, rfl, P2, hC2, hk2⟩ := hk1 v1 m1 z1 hp1
  show VE γ o 4 111 (eM o m1 z1) 111 4438 481 [(0, .ref b), (1, .ref (ads o 0)), (2, .ref (ads o 95)), (3, .int (nI i))] [.int x1]
  refine v_aload_n X 2 d_law_481 rfl rfl ?_
  refine v_aload_n X 0 d_law_482 rfl rfl ?_
  refine v_iload_n X 3 d_law_483 rfl rfl ?_
  refine v_iconst X (v := nI 1) d_law_484 (by decide) ?_
  refine v_iadd X d_law_485 (nI_add i 1) ?_
  refine v_sld X S (j := i + 1) (by omega) d_law_486 ?_
  refine v_callM X hC2 ok_Mo_take w_Lw_72 rfl b_95 e_95 rfl ⟨(Nat.le_of_ble_eq_true rfl), (Nat.le_of_ble_eq_true rfl)⟩ ⟨(Nat.le_of_ble_eq_true rfl), (Nat.le_of_ble_eq_true rfl)⟩ (rest := [.int x1]) rfl (Nat.le_of_ble_eq_true rfl) d_law_487 (fun v2 m2 z2 hp2 => ?_)
  obtain ⟨rfl, R2⟩ := hk2 v2 m2 z2 hp2
  show VE γ o 4 111 (eM o m2 z2) 111 4438 490 [(0, .ref b), (1, .ref (ads o 0)), (2, .ref (ads o 95)), (3, .int (nI i))] [.int x1, .int x1]
  exact v_iceq X (tgt := 935) (c := True) d_law_490 (by decide) ⟨fun _ => trivial, fun _ => rfl⟩ (fun _ => k m2 z2 R2) (fun h => absurd trivial h)
theorem lc_13 (X : CxE γ l o "NearMarksLaw" code 4 9 308 600000 7302250 0) (S : LScr γ o b L xs) (R : Rel mi ml) (hi : i + 4 ≤ L) (k : ∀ (m : MI) (z : ML), Rel m z → VE γ o 4 111 (eM o m z) 111 4438 935 [(0, .ref b), (1, .ref (ads o 0)), (2, .ref (ads o 95)), (3, .int (nI i))] []) : VE γ o 4 111 (eM o mi ml) 111 4438 495 [(0, .ref b), (1, .ref (ads o 0)), (2, .ref (ads o 95)), (3, .int (nI i))] [] := by
  -- kind
  refine v_aload_n X 1 d_law_495 rfl rfl ?_
  refine v_aload_n X 0 d_law_496 rfl rfl ?_
  refine v_iload_n X 3 d_law_497 rfl rfl ?_
  refine v_iconst X (v := nI 1) d_law_498 (by decide) ?_
  refine v_iadd X d_law_499 (nI_add i 1) ?_
  refine v_sld X S (j := i + 1) (by omega) d_law_500 ?_
  refine v_aload_n X 0 d_law_501 rfl rfl ?_
  refine v_iload_n X 3 d_law_502 rfl rfl ?_
  refine v_iconst X (v := nI 2) d_law_503 (by decide) ?_
  refine v_iadd X d_law_504 (nI_add i 2) ?_
  refine v_sld X S (j := i + 2) (by omega) d_law_505 ?_
  obtain ⟨P1, hC1, hk1⟩ := b_kind l o R (xs (i + 1)) (xs (i + 2))
  refine v_callM X hC1 ok_Nm_kind w_Lw_73 rfl b_0 e_0 rfl ⟨(Nat.le_of_ble_eq_true rfl), (Nat.le_of_ble_eq_true rfl)⟩ ⟨(Nat.le_of_ble_eq_true rfl), (Nat.le_of_ble_eq_true rfl)⟩ (rest := []) rfl (Nat.le_of_ble_eq_true rfl) d_law_506 (fun v1 m1 z1 hp1 => ?_)
  obtain ⟨x1, rfl, P2, hC2, hk2⟩ := hk1 v1 m1 z1 hp1
  show VE γ o 4 111 (eM o m1 z1) 111 4438 509 [(0, .ref b), (1, .ref (ads o 0)), (2, .ref (ads o 95)), (3, .int (nI i))] [.int x1]
  refine v_aload_n X 2 d_law_509 rfl rfl ?_
  refine v_aload_n X 0 d_law_510 rfl rfl ?_
  refine v_iload_n X 3 d_law_511 rfl rfl ?_
  refine v_iconst X (v := nI 1) d_law_512 (by decide) ?_
  refine v_iadd X d_law_513 (nI_add i 1) ?_
  refine v_sld X S (j := i + 1) (by omega) d_law_514 ?_
  refine v_aload_n X 0 d_law_515 rfl rfl ?_
  refine v_iload_n X 3 d_law_516 rfl rfl ?_
  refine v_iconst X (v := nI 2) d_law_517 (by decide) ?_
  refine v_iadd X d_law_518 (nI_add i 2) ?_
  refine v_sld X S (j := i + 2) (by omega) d_law_519 ?_
  refine v_callM X hC2 ok_Mo_kind w_Lw_76 rfl b_95 e_95 rfl ⟨(Nat.le_of_ble_eq_true rfl), (Nat.le_of_ble_eq_true rfl)⟩ ⟨(Nat.le_of_ble_eq_true rfl), (Nat.le_of_ble_eq_true rfl)⟩ (rest := [.int x1]) rfl (Nat.le_of_ble_eq_true rfl) d_law_520 (fun v2 m2 z2 hp2 => ?_)
  obtain ⟨rfl, R2⟩ := hk2 v2 m2 z2 hp2
  show VE γ o 4 111 (eM o m2 z2) 111 4438 523 [(0, .ref b), (1, .ref (ads o 0)), (2, .ref (ads o 95)), (3, .int (nI i))] [.int x1, .int x1]
  exact v_iceq X (tgt := 935) (c := True) d_law_523 (by decide) ⟨fun _ => trivial, fun _ => rfl⟩ (fun _ => k m2 z2 R2) (fun h => absurd trivial h)
theorem lc_14 (X : CxE γ l o "NearMarksLaw" code 4 9 308 600000 7302250 0) (S : LScr γ o b L xs) (R : Rel mi ml) (hi : i + 4 ≤ L) (k : ∀ (m : MI) (z : ML), Rel m z → VE γ o 4 111 (eM o m z) 111 4438 935 [(0, .ref b), (1, .ref (ads o 0)), (2, .ref (ads o 95)), (3, .int (nI i))] []) : VE γ o 4 111 (eM o mi ml) 111 4438 528 [(0, .ref b), (1, .ref (ads o 0)), (2, .ref (ads o 95)), (3, .int (nI i))] [] := by
  -- drift
  refine v_aload_n X 1 d_law_528 rfl rfl ?_
  refine v_aload_n X 0 d_law_529 rfl rfl ?_
  refine v_iload_n X 3 d_law_530 rfl rfl ?_
  refine v_iconst X (v := nI 1) d_law_531 (by decide) ?_
  refine v_iadd X d_law_532 (nI_add i 1) ?_
  refine v_sld X S (j := i + 1) (by omega) d_law_533 ?_
  obtain ⟨P1, hC1, hk1⟩ := b_drift l o R (xs (i + 1))
  refine v_callM X hC1 ok_Nm_drift w_Lw_77 rfl b_0 e_0 rfl ⟨(Nat.le_of_ble_eq_true rfl), (Nat.le_of_ble_eq_true rfl)⟩ ⟨(Nat.le_of_ble_eq_true rfl), (Nat.le_of_ble_eq_true rfl)⟩ (rest := []) rfl (Nat.le_of_ble_eq_true rfl) d_law_534 (fun v1 m1 z1 hp1 => ?_)
  obtain ⟨x1, rfl, P2, hC2, hk2⟩ := hk1 v1 m1 z1 hp1
  show VE γ o 4 111 (eM o m1 z1) 111 4438 537 [(0, .ref b), (1, .ref (ads o 0)), (2, .ref (ads o 95)), (3, .int (nI i))] [.int x1]
  refine v_aload_n X 2 d_law_537 rfl rfl ?_
  refine v_aload_n X 0 d_law_538 rfl rfl ?_
  refine v_iload_n X 3 d_law_539 rfl rfl ?_
  refine v_iconst X (v := nI 1) d_law_540 (by decide) ?_
  refine v_iadd X d_law_541 (nI_add i 1) ?_
  refine v_sld X S (j := i + 1) (by omega) d_law_542 ?_
  refine v_callM X hC2 ok_Mo_drift w_Lw_80 rfl b_95 e_95 rfl ⟨(Nat.le_of_ble_eq_true rfl), (Nat.le_of_ble_eq_true rfl)⟩ ⟨(Nat.le_of_ble_eq_true rfl), (Nat.le_of_ble_eq_true rfl)⟩ (rest := [.int x1]) rfl (Nat.le_of_ble_eq_true rfl) d_law_543 (fun v2 m2 z2 hp2 => ?_)
  obtain ⟨rfl, R2⟩ := hk2 v2 m2 z2 hp2
  show VE γ o 4 111 (eM o m2 z2) 111 4438 546 [(0, .ref b), (1, .ref (ads o 0)), (2, .ref (ads o 95)), (3, .int (nI i))] [.int x1, .int x1]
  exact v_iceq X (tgt := 935) (c := True) d_law_546 (by decide) ⟨fun _ => trivial, fun _ => rfl⟩ (fun _ => k m2 z2 R2) (fun h => absurd trivial h)
theorem lc_15 (X : CxE γ l o "NearMarksLaw" code 4 9 308 600000 7302250 0) (S : LScr γ o b L xs) (R : Rel mi ml) (hi : i + 4 ≤ L) (k : ∀ (m : MI) (z : ML), Rel m z → VE γ o 4 111 (eM o m z) 111 4438 935 [(0, .ref b), (1, .ref (ads o 0)), (2, .ref (ads o 95)), (3, .int (nI i))] []) : VE γ o 4 111 (eM o mi ml) 111 4438 551 [(0, .ref b), (1, .ref (ads o 0)), (2, .ref (ads o 95)), (3, .int (nI i))] [] := by
  -- undo
  refine v_aload_n X 1 d_law_551 rfl rfl ?_
  refine v_aload_n X 0 d_law_552 rfl rfl ?_
  refine v_iload_n X 3 d_law_553 rfl rfl ?_
  refine v_iconst X (v := nI 1) d_law_554 (by decide) ?_
  refine v_iadd X d_law_555 (nI_add i 1) ?_
  refine v_sld X S (j := i + 1) (by omega) d_law_556 ?_
  obtain ⟨P1, hC1, hk1⟩ := b_undo l o R (xs (i + 1))
  refine v_callM X hC1 ok_Nm_undo w_Lw_81 rfl b_0 e_0 rfl ⟨(Nat.le_of_ble_eq_true rfl), (Nat.le_of_ble_eq_true rfl)⟩ ⟨(Nat.le_of_ble_eq_true rfl), (Nat.le_of_ble_eq_true rfl)⟩ (rest := []) rfl (Nat.le_of_ble_eq_true rfl) d_law_557 (fun v1 m1 z1 hp1 => ?_)
  obtain ⟨x1, rfl, P2, hC2, hk2⟩ := hk1 v1 m1 z1 hp1
  show VE γ o 4 111 (eM o m1 z1) 111 4438 560 [(0, .ref b), (1, .ref (ads o 0)), (2, .ref (ads o 95)), (3, .int (nI i))] [.int x1]
  refine v_aload_n X 2 d_law_560 rfl rfl ?_
  refine v_aload_n X 0 d_law_561 rfl rfl ?_
  refine v_iload_n X 3 d_law_562 rfl rfl ?_
  refine v_iconst X (v := nI 1) d_law_563 (by decide) ?_
  refine v_iadd X d_law_564 (nI_add i 1) ?_
  refine v_sld X S (j := i + 1) (by omega) d_law_565 ?_
  refine v_callM X hC2 ok_Mo_undo w_Lw_84 rfl b_95 e_95 rfl ⟨(Nat.le_of_ble_eq_true rfl), (Nat.le_of_ble_eq_true rfl)⟩ ⟨(Nat.le_of_ble_eq_true rfl), (Nat.le_of_ble_eq_true rfl)⟩ (rest := [.int x1]) rfl (Nat.le_of_ble_eq_true rfl) d_law_566 (fun v2 m2 z2 hp2 => ?_)
  obtain ⟨rfl, R2⟩ := hk2 v2 m2 z2 hp2
  show VE γ o 4 111 (eM o m2 z2) 111 4438 569 [(0, .ref b), (1, .ref (ads o 0)), (2, .ref (ads o 95)), (3, .int (nI i))] [.int x1, .int x1]
  exact v_iceq X (tgt := 935) (c := True) d_law_569 (by decide) ⟨fun _ => trivial, fun _ => rfl⟩ (fun _ => k m2 z2 R2) (fun h => absurd trivial h)
theorem lc_16 (X : CxE γ l o "NearMarksLaw" code 4 9 308 600000 7302250 0) (S : LScr γ o b L xs) (R : Rel mi ml) (hi : i + 4 ≤ L) (k : ∀ (m : MI) (z : ML), Rel m z → VE γ o 4 111 (eM o m z) 111 4438 935 [(0, .ref b), (1, .ref (ads o 0)), (2, .ref (ads o 95)), (3, .int (nI i))] []) : VE γ o 4 111 (eM o mi ml) 111 4438 574 [(0, .ref b), (1, .ref (ads o 0)), (2, .ref (ads o 95)), (3, .int (nI i))] [] := by
  -- near
  refine v_aload_n X 1 d_law_574 rfl rfl ?_
  refine v_aload_n X 0 d_law_575 rfl rfl ?_
  refine v_iload_n X 3 d_law_576 rfl rfl ?_
  refine v_iconst X (v := nI 1) d_law_577 (by decide) ?_
  refine v_iadd X d_law_578 (nI_add i 1) ?_
  refine v_sld X S (j := i + 1) (by omega) d_law_579 ?_
  obtain ⟨P1, hC1, hk1⟩ := b_near l o R (xs (i + 1))
  refine v_callM X hC1 ok_Nm_near w_Lw_85 rfl b_0 e_0 rfl ⟨(Nat.le_of_ble_eq_true rfl), (Nat.le_of_ble_eq_true rfl)⟩ ⟨(Nat.le_of_ble_eq_true rfl), (Nat.le_of_ble_eq_true rfl)⟩ (rest := []) rfl (Nat.le_of_ble_eq_true rfl) d_law_580 (fun v1 m1 z1 hp1 => ?_)
  obtain ⟨x1, rfl, P2, hC2, hk2⟩ := hk1 v1 m1 z1 hp1
  show VE γ o 4 111 (eM o m1 z1) 111 4438 583 [(0, .ref b), (1, .ref (ads o 0)), (2, .ref (ads o 95)), (3, .int (nI i))] [.long x1]
  refine v_aload_n X 2 d_law_583 rfl rfl ?_
  refine v_aload_n X 0 d_law_584 rfl rfl ?_
  refine v_iload_n X 3 d_law_585 rfl rfl ?_
  refine v_iconst X (v := nI 1) d_law_586 (by decide) ?_
  refine v_iadd X d_law_587 (nI_add i 1) ?_
  refine v_sld X S (j := i + 1) (by omega) d_law_588 ?_
  refine v_callM X hC2 ok_Mo_near w_Lw_88 rfl b_95 e_95 rfl ⟨(Nat.le_of_ble_eq_true rfl), (Nat.le_of_ble_eq_true rfl)⟩ ⟨(Nat.le_of_ble_eq_true rfl), (Nat.le_of_ble_eq_true rfl)⟩ (rest := [.long x1]) rfl (Nat.le_of_ble_eq_true rfl) d_law_589 (fun v2 m2 z2 hp2 => ?_)
  obtain ⟨rfl, R2⟩ := hk2 v2 m2 z2 hp2
  show VE γ o 4 111 (eM o m2 z2) 111 4438 592 [(0, .ref b), (1, .ref (ads o 0)), (2, .ref (ads o 95)), (3, .int (nI i))] [.long x1, .long x1]
  refine v_lcmp X d_law_592 ?_
  exact v_ifeq X (tgt := 935) (c := True) d_law_593 (by decide) ⟨fun _ => trivial, fun _ => (lg_cmp_eq x1 x1).mpr rfl⟩ (fun _ => k m2 z2 R2) (fun h => absurd trivial h)
theorem lc_17 (X : CxE γ l o "NearMarksLaw" code 4 9 308 600000 7302250 0) (S : LScr γ o b L xs) (R : Rel mi ml) (hi : i + 4 ≤ L) (k : ∀ (m : MI) (z : ML), Rel m z → VE γ o 4 111 (eM o m z) 111 4438 935 [(0, .ref b), (1, .ref (ads o 0)), (2, .ref (ads o 95)), (3, .int (nI i))] []) : VE γ o 4 111 (eM o mi ml) 111 4438 598 [(0, .ref b), (1, .ref (ads o 0)), (2, .ref (ads o 95)), (3, .int (nI i))] [] := by
  -- nearest
  refine v_aload_n X 1 d_law_598 rfl rfl ?_
  refine v_aload_n X 0 d_law_599 rfl rfl ?_
  refine v_iload_n X 3 d_law_600 rfl rfl ?_
  refine v_iconst X (v := nI 1) d_law_601 (by decide) ?_
  refine v_iadd X d_law_602 (nI_add i 1) ?_
  refine v_sld X S (j := i + 1) (by omega) d_law_603 ?_
  obtain ⟨P1, hC1, hk1⟩ := b_nearest l o R (xs (i + 1))
  refine v_callM X hC1 ok_Nm_nearest w_Lw_89 rfl b_0 e_0 rfl ⟨(Nat.le_of_ble_eq_true rfl), (Nat.le_of_ble_eq_true rfl)⟩ ⟨(Nat.le_of_ble_eq_true rfl), (Nat.le_of_ble_eq_true rfl)⟩ (rest := []) rfl (Nat.le_of_ble_eq_true rfl) d_law_604 (fun v1 m1 z1 hp1 => ?_)
  obtain ⟨x1, rfl, P2, hC2, hk2⟩ := hk1 v1 m1 z1 hp1
  show VE γ o 4 111 (eM o m1 z1) 111 4438 607 [(0, .ref b), (1, .ref (ads o 0)), (2, .ref (ads o 95)), (3, .int (nI i))] [.int x1]
  refine v_aload_n X 2 d_law_607 rfl rfl ?_
  refine v_aload_n X 0 d_law_608 rfl rfl ?_
  refine v_iload_n X 3 d_law_609 rfl rfl ?_
  refine v_iconst X (v := nI 1) d_law_610 (by decide) ?_
  refine v_iadd X d_law_611 (nI_add i 1) ?_
  refine v_sld X S (j := i + 1) (by omega) d_law_612 ?_
  refine v_callM X hC2 ok_Mo_nearest w_Lw_92 rfl b_95 e_95 rfl ⟨(Nat.le_of_ble_eq_true rfl), (Nat.le_of_ble_eq_true rfl)⟩ ⟨(Nat.le_of_ble_eq_true rfl), (Nat.le_of_ble_eq_true rfl)⟩ (rest := [.int x1]) rfl (Nat.le_of_ble_eq_true rfl) d_law_613 (fun v2 m2 z2 hp2 => ?_)
  obtain ⟨rfl, R2⟩ := hk2 v2 m2 z2 hp2
  show VE γ o 4 111 (eM o m2 z2) 111 4438 616 [(0, .ref b), (1, .ref (ads o 0)), (2, .ref (ads o 95)), (3, .int (nI i))] [.int x1, .int x1]
  exact v_iceq X (tgt := 935) (c := True) d_law_616 (by decide) ⟨fun _ => trivial, fun _ => rfl⟩ (fun _ => k m2 z2 R2) (fun h => absurd trivial h)
theorem lc_18 (X : CxE γ l o "NearMarksLaw" code 4 9 308 600000 7302250 0) (S : LScr γ o b L xs) (R : Rel mi ml) (hi : i + 4 ≤ L) (k : ∀ (m : MI) (z : ML), Rel m z → VE γ o 4 111 (eM o m z) 111 4438 935 [(0, .ref b), (1, .ref (ads o 0)), (2, .ref (ads o 95)), (3, .int (nI i))] []) : VE γ o 4 111 (eM o mi ml) 111 4438 621 [(0, .ref b), (1, .ref (ads o 0)), (2, .ref (ads o 95)), (3, .int (nI i))] [] := by
  -- apart
  refine v_aload_n X 1 d_law_621 rfl rfl ?_
  refine v_aload_n X 0 d_law_622 rfl rfl ?_
  refine v_iload_n X 3 d_law_623 rfl rfl ?_
  refine v_iconst X (v := nI 1) d_law_624 (by decide) ?_
  refine v_iadd X d_law_625 (nI_add i 1) ?_
  refine v_sld X S (j := i + 1) (by omega) d_law_626 ?_
  refine v_aload_n X 0 d_law_627 rfl rfl ?_
  refine v_iload_n X 3 d_law_628 rfl rfl ?_
  refine v_iconst X (v := nI 2) d_law_629 (by decide) ?_
  refine v_iadd X d_law_630 (nI_add i 2) ?_
  refine v_sld X S (j := i + 2) (by omega) d_law_631 ?_
  obtain ⟨P1, hC1, hk1⟩ := b_apart l o R (xs (i + 1)) (xs (i + 2))
  refine v_callM X hC1 ok_Nm_apart w_Lw_93 rfl b_0 e_0 rfl ⟨(Nat.le_of_ble_eq_true rfl), (Nat.le_of_ble_eq_true rfl)⟩ ⟨(Nat.le_of_ble_eq_true rfl), (Nat.le_of_ble_eq_true rfl)⟩ (rest := []) rfl (Nat.le_of_ble_eq_true rfl) d_law_632 (fun v1 m1 z1 hp1 => ?_)
  obtain ⟨x1, rfl, P2, hC2, hk2⟩ := hk1 v1 m1 z1 hp1
  show VE γ o 4 111 (eM o m1 z1) 111 4438 635 [(0, .ref b), (1, .ref (ads o 0)), (2, .ref (ads o 95)), (3, .int (nI i))] [.int x1]
  refine v_aload_n X 2 d_law_635 rfl rfl ?_
  refine v_aload_n X 0 d_law_636 rfl rfl ?_
  refine v_iload_n X 3 d_law_637 rfl rfl ?_
  refine v_iconst X (v := nI 1) d_law_638 (by decide) ?_
  refine v_iadd X d_law_639 (nI_add i 1) ?_
  refine v_sld X S (j := i + 1) (by omega) d_law_640 ?_
  refine v_aload_n X 0 d_law_641 rfl rfl ?_
  refine v_iload_n X 3 d_law_642 rfl rfl ?_
  refine v_iconst X (v := nI 2) d_law_643 (by decide) ?_
  refine v_iadd X d_law_644 (nI_add i 2) ?_
  refine v_sld X S (j := i + 2) (by omega) d_law_645 ?_
  refine v_callM X hC2 ok_Mo_apart w_Lw_96 rfl b_95 e_95 rfl ⟨(Nat.le_of_ble_eq_true rfl), (Nat.le_of_ble_eq_true rfl)⟩ ⟨(Nat.le_of_ble_eq_true rfl), (Nat.le_of_ble_eq_true rfl)⟩ (rest := [.int x1]) rfl (Nat.le_of_ble_eq_true rfl) d_law_646 (fun v2 m2 z2 hp2 => ?_)
  obtain ⟨rfl, R2⟩ := hk2 v2 m2 z2 hp2
  show VE γ o 4 111 (eM o m2 z2) 111 4438 649 [(0, .ref b), (1, .ref (ads o 0)), (2, .ref (ads o 95)), (3, .int (nI i))] [.int x1, .int x1]
  exact v_iceq X (tgt := 935) (c := True) d_law_649 (by decide) ⟨fun _ => trivial, fun _ => rfl⟩ (fun _ => k m2 z2 R2) (fun h => absurd trivial h)
theorem lc_19 (X : CxE γ l o "NearMarksLaw" code 4 9 308 600000 7302250 0) (S : LScr γ o b L xs) (R : Rel mi ml) (hi : i + 4 ≤ L) (k : ∀ (m : MI) (z : ML), Rel m z → VE γ o 4 111 (eM o m z) 111 4438 935 [(0, .ref b), (1, .ref (ads o 0)), (2, .ref (ads o 95)), (3, .int (nI i))] []) : VE γ o 4 111 (eM o mi ml) 111 4438 654 [(0, .ref b), (1, .ref (ads o 0)), (2, .ref (ads o 95)), (3, .int (nI i))] [] := by
  -- groups
  refine v_aload_n X 1 d_law_654 rfl rfl ?_
  refine v_aload_n X 0 d_law_655 rfl rfl ?_
  refine v_iload_n X 3 d_law_656 rfl rfl ?_
  refine v_iconst X (v := nI 1) d_law_657 (by decide) ?_
  refine v_iadd X d_law_658 (nI_add i 1) ?_
  refine v_sld X S (j := i + 1) (by omega) d_law_659 ?_
  obtain ⟨P1, hC1, hk1⟩ := b_groups l o R (xs (i + 1))
  refine v_callM X hC1 ok_Nm_groups w_Lw_97 rfl b_0 e_0 rfl ⟨(Nat.le_of_ble_eq_true rfl), (Nat.le_of_ble_eq_true rfl)⟩ ⟨(Nat.le_of_ble_eq_true rfl), (Nat.le_of_ble_eq_true rfl)⟩ (rest := []) rfl (Nat.le_of_ble_eq_true rfl) d_law_660 (fun v1 m1 z1 hp1 => ?_)
  obtain ⟨x1, rfl, P2, hC2, hk2⟩ := hk1 v1 m1 z1 hp1
  show VE γ o 4 111 (eM o m1 z1) 111 4438 663 [(0, .ref b), (1, .ref (ads o 0)), (2, .ref (ads o 95)), (3, .int (nI i))] [.int x1]
  refine v_aload_n X 2 d_law_663 rfl rfl ?_
  refine v_aload_n X 0 d_law_664 rfl rfl ?_
  refine v_iload_n X 3 d_law_665 rfl rfl ?_
  refine v_iconst X (v := nI 1) d_law_666 (by decide) ?_
  refine v_iadd X d_law_667 (nI_add i 1) ?_
  refine v_sld X S (j := i + 1) (by omega) d_law_668 ?_
  refine v_callM X hC2 ok_Mo_groups w_Lw_100 rfl b_95 e_95 rfl ⟨(Nat.le_of_ble_eq_true rfl), (Nat.le_of_ble_eq_true rfl)⟩ ⟨(Nat.le_of_ble_eq_true rfl), (Nat.le_of_ble_eq_true rfl)⟩ (rest := [.int x1]) rfl (Nat.le_of_ble_eq_true rfl) d_law_669 (fun v2 m2 z2 hp2 => ?_)
  obtain ⟨rfl, R2⟩ := hk2 v2 m2 z2 hp2
  show VE γ o 4 111 (eM o m2 z2) 111 4438 672 [(0, .ref b), (1, .ref (ads o 0)), (2, .ref (ads o 95)), (3, .int (nI i))] [.int x1, .int x1]
  exact v_iceq X (tgt := 935) (c := True) d_law_672 (by decide) ⟨fun _ => trivial, fun _ => rfl⟩ (fun _ => k m2 z2 R2) (fun h => absurd trivial h)
theorem lc_20 (X : CxE γ l o "NearMarksLaw" code 4 9 308 600000 7302250 0) (S : LScr γ o b L xs) (R : Rel mi ml) (hi : i + 4 ≤ L) (k : ∀ (m : MI) (z : ML), Rel m z → VE γ o 4 111 (eM o m z) 111 4438 935 [(0, .ref b), (1, .ref (ads o 0)), (2, .ref (ads o 95)), (3, .int (nI i))] []) : VE γ o 4 111 (eM o mi ml) 111 4438 677 [(0, .ref b), (1, .ref (ads o 0)), (2, .ref (ads o 95)), (3, .int (nI i))] [] := by
  -- group
  refine v_aload_n X 1 d_law_677 rfl rfl ?_
  refine v_aload_n X 0 d_law_678 rfl rfl ?_
  refine v_iload_n X 3 d_law_679 rfl rfl ?_
  refine v_iconst X (v := nI 1) d_law_680 (by decide) ?_
  refine v_iadd X d_law_681 (nI_add i 1) ?_
  refine v_sld X S (j := i + 1) (by omega) d_law_682 ?_
  refine v_aload_n X 0 d_law_683 rfl rfl ?_
  refine v_iload_n X 3 d_law_684 rfl rfl ?_
  refine v_iconst X (v := nI 2) d_law_685 (by decide) ?_
  refine v_iadd X d_law_686 (nI_add i 2) ?_
  refine v_sld X S (j := i + 2) (by omega) d_law_687 ?_
  refine v_aload_n X 0 d_law_688 rfl rfl ?_
  refine v_iload_n X 3 d_law_689 rfl rfl ?_
  refine v_iconst X (v := nI 3) d_law_690 (by decide) ?_
  refine v_iadd X d_law_691 (nI_add i 3) ?_
  refine v_sld X S (j := i + 3) (by omega) d_law_692 ?_
  obtain ⟨P1, hC1, hk1⟩ := b_group l o R (xs (i + 1)) (xs (i + 2)) (xs (i + 3))
  refine v_callM X hC1 ok_Nm_group w_Lw_101 rfl b_0 e_0 rfl ⟨(Nat.le_of_ble_eq_true rfl), (Nat.le_of_ble_eq_true rfl)⟩ ⟨(Nat.le_of_ble_eq_true rfl), (Nat.le_of_ble_eq_true rfl)⟩ (rest := []) rfl (Nat.le_of_ble_eq_true rfl) d_law_693 (fun v1 m1 z1 hp1 => ?_)
  obtain ⟨x1, rfl, P2, hC2, hk2⟩ := hk1 v1 m1 z1 hp1
  show VE γ o 4 111 (eM o m1 z1) 111 4438 696 [(0, .ref b), (1, .ref (ads o 0)), (2, .ref (ads o 95)), (3, .int (nI i))] [.int x1]
  refine v_aload_n X 2 d_law_696 rfl rfl ?_
  refine v_aload_n X 0 d_law_697 rfl rfl ?_
  refine v_iload_n X 3 d_law_698 rfl rfl ?_
  refine v_iconst X (v := nI 1) d_law_699 (by decide) ?_
  refine v_iadd X d_law_700 (nI_add i 1) ?_
  refine v_sld X S (j := i + 1) (by omega) d_law_701 ?_
  refine v_aload_n X 0 d_law_702 rfl rfl ?_
  refine v_iload_n X 3 d_law_703 rfl rfl ?_
  refine v_iconst X (v := nI 2) d_law_704 (by decide) ?_
  refine v_iadd X d_law_705 (nI_add i 2) ?_
  refine v_sld X S (j := i + 2) (by omega) d_law_706 ?_
  refine v_aload_n X 0 d_law_707 rfl rfl ?_
  refine v_iload_n X 3 d_law_708 rfl rfl ?_
  refine v_iconst X (v := nI 3) d_law_709 (by decide) ?_
  refine v_iadd X d_law_710 (nI_add i 3) ?_
  refine v_sld X S (j := i + 3) (by omega) d_law_711 ?_
  refine v_callM X hC2 ok_Mo_group w_Lw_105 rfl b_95 e_95 rfl ⟨(Nat.le_of_ble_eq_true rfl), (Nat.le_of_ble_eq_true rfl)⟩ ⟨(Nat.le_of_ble_eq_true rfl), (Nat.le_of_ble_eq_true rfl)⟩ (rest := [.int x1]) rfl (Nat.le_of_ble_eq_true rfl) d_law_712 (fun v2 m2 z2 hp2 => ?_)
  obtain ⟨rfl, R2⟩ := hk2 v2 m2 z2 hp2
  show VE γ o 4 111 (eM o m2 z2) 111 4438 715 [(0, .ref b), (1, .ref (ads o 0)), (2, .ref (ads o 95)), (3, .int (nI i))] [.int x1, .int x1]
  exact v_iceq X (tgt := 935) (c := True) d_law_715 (by decide) ⟨fun _ => trivial, fun _ => rfl⟩ (fun _ => k m2 z2 R2) (fun h => absurd trivial h)
theorem lc_21 (X : CxE γ l o "NearMarksLaw" code 4 9 308 600000 7302250 0) (S : LScr γ o b L xs) (R : Rel mi ml) (hi : i + 4 ≤ L) (k : ∀ (m : MI) (z : ML), Rel m z → VE γ o 4 111 (eM o m z) 111 4438 935 [(0, .ref b), (1, .ref (ads o 0)), (2, .ref (ads o 95)), (3, .int (nI i))] []) : VE γ o 4 111 (eM o mi ml) 111 4438 720 [(0, .ref b), (1, .ref (ads o 0)), (2, .ref (ads o 95)), (3, .int (nI i))] [] := by
  -- middle
  refine v_aload_n X 1 d_law_720 rfl rfl ?_
  refine v_aload_n X 0 d_law_721 rfl rfl ?_
  refine v_iload_n X 3 d_law_722 rfl rfl ?_
  refine v_iconst X (v := nI 1) d_law_723 (by decide) ?_
  refine v_iadd X d_law_724 (nI_add i 1) ?_
  refine v_sld X S (j := i + 1) (by omega) d_law_725 ?_
  refine v_aload_n X 0 d_law_726 rfl rfl ?_
  refine v_iload_n X 3 d_law_727 rfl rfl ?_
  refine v_iconst X (v := nI 2) d_law_728 (by decide) ?_
  refine v_iadd X d_law_729 (nI_add i 2) ?_
  refine v_sld X S (j := i + 2) (by omega) d_law_730 ?_
  obtain ⟨P1, hC1, hk1⟩ := b_middle l o R (xs (i + 1)) (xs (i + 2))
  refine v_callM X hC1 ok_Nm_middle w_Lw_106 rfl b_0 e_0 rfl ⟨(Nat.le_of_ble_eq_true rfl), (Nat.le_of_ble_eq_true rfl)⟩ ⟨(Nat.le_of_ble_eq_true rfl), (Nat.le_of_ble_eq_true rfl)⟩ (rest := []) rfl (Nat.le_of_ble_eq_true rfl) d_law_731 (fun v1 m1 z1 hp1 => ?_)
  obtain ⟨x1, rfl, P2, hC2, hk2⟩ := hk1 v1 m1 z1 hp1
  show VE γ o 4 111 (eM o m1 z1) 111 4438 734 [(0, .ref b), (1, .ref (ads o 0)), (2, .ref (ads o 95)), (3, .int (nI i))] [.long x1]
  refine v_aload_n X 2 d_law_734 rfl rfl ?_
  refine v_aload_n X 0 d_law_735 rfl rfl ?_
  refine v_iload_n X 3 d_law_736 rfl rfl ?_
  refine v_iconst X (v := nI 1) d_law_737 (by decide) ?_
  refine v_iadd X d_law_738 (nI_add i 1) ?_
  refine v_sld X S (j := i + 1) (by omega) d_law_739 ?_
  refine v_aload_n X 0 d_law_740 rfl rfl ?_
  refine v_iload_n X 3 d_law_741 rfl rfl ?_
  refine v_iconst X (v := nI 2) d_law_742 (by decide) ?_
  refine v_iadd X d_law_743 (nI_add i 2) ?_
  refine v_sld X S (j := i + 2) (by omega) d_law_744 ?_
  refine v_callM X hC2 ok_Mo_middle w_Lw_110 rfl b_95 e_95 rfl ⟨(Nat.le_of_ble_eq_true rfl), (Nat.le_of_ble_eq_true rfl)⟩ ⟨(Nat.le_of_ble_eq_true rfl), (Nat.le_of_ble_eq_true rfl)⟩ (rest := [.long x1]) rfl (Nat.le_of_ble_eq_true rfl) d_law_745 (fun v2 m2 z2 hp2 => ?_)
  obtain ⟨rfl, R2⟩ := hk2 v2 m2 z2 hp2
  show VE γ o 4 111 (eM o m2 z2) 111 4438 748 [(0, .ref b), (1, .ref (ads o 0)), (2, .ref (ads o 95)), (3, .int (nI i))] [.long x1, .long x1]
  refine v_lcmp X d_law_748 ?_
  exact v_ifeq X (tgt := 935) (c := True) d_law_749 (by decide) ⟨fun _ => trivial, fun _ => (lg_cmp_eq x1 x1).mpr rfl⟩ (fun _ => k m2 z2 R2) (fun h => absurd trivial h)
theorem lc_22 (X : CxE γ l o "NearMarksLaw" code 4 9 308 600000 7302250 0) (S : LScr γ o b L xs) (R : Rel mi ml) (hi : i + 4 ≤ L) (k : ∀ (m : MI) (z : ML), Rel m z → VE γ o 4 111 (eM o m z) 111 4438 935 [(0, .ref b), (1, .ref (ads o 0)), (2, .ref (ads o 95)), (3, .int (nI i))] []) : VE γ o 4 111 (eM o mi ml) 111 4438 754 [(0, .ref b), (1, .ref (ads o 0)), (2, .ref (ads o 95)), (3, .int (nI i))] [] := by
  -- fewest
  refine v_aload_n X 1 d_law_754 rfl rfl ?_
  refine v_aload_n X 0 d_law_755 rfl rfl ?_
  refine v_iload_n X 3 d_law_756 rfl rfl ?_
  refine v_iconst X (v := nI 1) d_law_757 (by decide) ?_
  refine v_iadd X d_law_758 (nI_add i 1) ?_
  refine v_sld X S (j := i + 1) (by omega) d_law_759 ?_
  refine v_aload_n X 0 d_law_760 rfl rfl ?_
  refine v_iload_n X 3 d_law_761 rfl rfl ?_
  refine v_iconst X (v := nI 2) d_law_762 (by decide) ?_
  refine v_iadd X d_law_763 (nI_add i 2) ?_
  refine v_sld X S (j := i + 2) (by omega) d_law_764 ?_
  obtain ⟨P1, hC1, hk1⟩ := b_fewest l o R (xs (i + 1)) (xs (i + 2))
  refine v_callM X hC1 ok_Nm_fewest w_Lw_111 rfl b_0 e_0 rfl ⟨(Nat.le_of_ble_eq_true rfl), (Nat.le_of_ble_eq_true rfl)⟩ ⟨(Nat.le_of_ble_eq_true rfl), (Nat.le_of_ble_eq_true rfl)⟩ (rest := []) rfl (Nat.le_of_ble_eq_true rfl) d_law_765 (fun v1 m1 z1 hp1 => ?_)
  obtain ⟨x1, rfl, P2, hC2, hk2⟩ := hk1 v1 m1 z1 hp1
  show VE γ o 4 111 (eM o m1 z1) 111 4438 768 [(0, .ref b), (1, .ref (ads o 0)), (2, .ref (ads o 95)), (3, .int (nI i))] [.int x1]
  refine v_aload_n X 2 d_law_768 rfl rfl ?_
  refine v_aload_n X 0 d_law_769 rfl rfl ?_
  refine v_iload_n X 3 d_law_770 rfl rfl ?_
  refine v_iconst X (v := nI 1) d_law_771 (by decide) ?_
  refine v_iadd X d_law_772 (nI_add i 1) ?_
  refine v_sld X S (j := i + 1) (by omega) d_law_773 ?_
  refine v_aload_n X 0 d_law_774 rfl rfl ?_
  refine v_iload_n X 3 d_law_775 rfl rfl ?_
  refine v_iconst X (v := nI 2) d_law_776 (by decide) ?_
  refine v_iadd X d_law_777 (nI_add i 2) ?_
  refine v_sld X S (j := i + 2) (by omega) d_law_778 ?_
  refine v_callM X hC2 ok_Mo_fewest w_Lw_114 rfl b_95 e_95 rfl ⟨(Nat.le_of_ble_eq_true rfl), (Nat.le_of_ble_eq_true rfl)⟩ ⟨(Nat.le_of_ble_eq_true rfl), (Nat.le_of_ble_eq_true rfl)⟩ (rest := [.int x1]) rfl (Nat.le_of_ble_eq_true rfl) d_law_779 (fun v2 m2 z2 hp2 => ?_)
  obtain ⟨rfl, R2⟩ := hk2 v2 m2 z2 hp2
  show VE γ o 4 111 (eM o m2 z2) 111 4438 782 [(0, .ref b), (1, .ref (ads o 0)), (2, .ref (ads o 95)), (3, .int (nI i))] [.int x1, .int x1]
  exact v_iceq X (tgt := 935) (c := True) d_law_782 (by decide) ⟨fun _ => trivial, fun _ => rfl⟩ (fun _ => k m2 z2 R2) (fun h => absurd trivial h)
theorem lc_23 (X : CxE γ l o "NearMarksLaw" code 4 9 308 600000 7302250 0) (S : LScr γ o b L xs) (R : Rel mi ml) (hi : i + 4 ≤ L) (k : ∀ (m : MI) (z : ML), Rel m z → VE γ o 4 111 (eM o m z) 111 4438 935 [(0, .ref b), (1, .ref (ads o 0)), (2, .ref (ads o 95)), (3, .int (nI i))] []) : VE γ o 4 111 (eM o mi ml) 111 4438 787 [(0, .ref b), (1, .ref (ads o 0)), (2, .ref (ads o 95)), (3, .int (nI i))] [] := by
  -- see
  refine v_aload_n X 1 d_law_787 rfl rfl ?_
  refine v_aload_n X 0 d_law_788 rfl rfl ?_
  refine v_iload_n X 3 d_law_789 rfl rfl ?_
  refine v_iconst X (v := nI 1) d_law_790 (by decide) ?_
  refine v_iadd X d_law_791 (nI_add i 1) ?_
  refine v_sld X S (j := i + 1) (by omega) d_law_792 ?_
  obtain ⟨P1, hC1, hk1⟩ := b_see l o R (xs (i + 1))
  refine v_callM X hC1 ok_Nm_see w_Lw_115 rfl b_0 e_0 rfl ⟨(Nat.le_of_ble_eq_true rfl), (Nat.le_of_ble_eq_true rfl)⟩ ⟨(Nat.le_of_ble_eq_true rfl), (Nat.le_of_ble_eq_true rfl)⟩ (rest := []) rfl (Nat.le_of_ble_eq_true rfl) d_law_793 (fun v1 m1 z1 hp1 => ?_)
  obtain ⟨x1, rfl, P2, hC2, hk2⟩ := hk1 v1 m1 z1 hp1
  show VE γ o 4 111 (eM o m1 z1) 111 4438 796 [(0, .ref b), (1, .ref (ads o 0)), (2, .ref (ads o 95)), (3, .int (nI i))] [.int x1]
  refine v_aload_n X 2 d_law_796 rfl rfl ?_
  refine v_aload_n X 0 d_law_797 rfl rfl ?_
  refine v_iload_n X 3 d_law_798 rfl rfl ?_
  refine v_iconst X (v := nI 1) d_law_799 (by decide) ?_
  refine v_iadd X d_law_800 (nI_add i 1) ?_
  refine v_sld X S (j := i + 1) (by omega) d_law_801 ?_
  refine v_callM X hC2 ok_Mo_see w_Lw_118 rfl b_95 e_95 rfl ⟨(Nat.le_of_ble_eq_true rfl), (Nat.le_of_ble_eq_true rfl)⟩ ⟨(Nat.le_of_ble_eq_true rfl), (Nat.le_of_ble_eq_true rfl)⟩ (rest := [.int x1]) rfl (Nat.le_of_ble_eq_true rfl) d_law_802 (fun v2 m2 z2 hp2 => ?_)
  obtain ⟨rfl, R2⟩ := hk2 v2 m2 z2 hp2
  show VE γ o 4 111 (eM o m2 z2) 111 4438 805 [(0, .ref b), (1, .ref (ads o 0)), (2, .ref (ads o 95)), (3, .int (nI i))] [.int x1, .int x1]
  exact v_iceq X (tgt := 935) (c := True) d_law_805 (by decide) ⟨fun _ => trivial, fun _ => rfl⟩ (fun _ => k m2 z2 R2) (fun h => absurd trivial h)
theorem lc_24 (X : CxE γ l o "NearMarksLaw" code 4 9 308 600000 7302250 0) (S : LScr γ o b L xs) (R : Rel mi ml) (hi : i + 4 ≤ L) (k : ∀ (m : MI) (z : ML), Rel m z → VE γ o 4 111 (eM o m z) 111 4438 935 [(0, .ref b), (1, .ref (ads o 0)), (2, .ref (ads o 95)), (3, .int (nI i))] []) : VE γ o 4 111 (eM o mi ml) 111 4438 810 [(0, .ref b), (1, .ref (ads o 0)), (2, .ref (ads o 95)), (3, .int (nI i))] [] := by
  -- write
  refine v_aload_n X 1 d_law_810 rfl rfl ?_
  refine v_aload_n X 0 d_law_811 rfl rfl ?_
  refine v_iload_n X 3 d_law_812 rfl rfl ?_
  refine v_iconst X (v := nI 1) d_law_813 (by decide) ?_
  refine v_iadd X d_law_814 (nI_add i 1) ?_
  refine v_sld X S (j := i + 1) (by omega) d_law_815 ?_
  refine v_aload_n X 0 d_law_816 rfl rfl ?_
  refine v_iload_n X 3 d_law_817 rfl rfl ?_
  refine v_iconst X (v := nI 2) d_law_818 (by decide) ?_
  refine v_iadd X d_law_819 (nI_add i 2) ?_
  refine v_sld X S (j := i + 2) (by omega) d_law_820 ?_
  refine v_aload_n X 0 d_law_821 rfl rfl ?_
  refine v_iload_n X 3 d_law_822 rfl rfl ?_
  refine v_iconst X (v := nI 3) d_law_823 (by decide) ?_
  refine v_iadd X d_law_824 (nI_add i 3) ?_
  refine v_sld X S (j := i + 3) (by omega) d_law_825 ?_
  obtain ⟨P1, hC1, hk1⟩ := b_write l o R (xs (i + 1)) (xs (i + 2)) (xs (i + 3))
  refine v_callM X hC1 ok_Nm_write w_Lw_119 rfl b_0 e_0 rfl ⟨(Nat.le_of_ble_eq_true rfl), (Nat.le_of_ble_eq_true rfl)⟩ ⟨(Nat.le_of_ble_eq_true rfl), (Nat.le_of_ble_eq_true rfl)⟩ (rest := []) rfl (Nat.le_of_ble_eq_true rfl) d_law_826 (fun v1 m1 z1 hp1 => ?_)
  obtain ⟨x1, rfl, P2, hC2, hk2⟩ := hk1 v1 m1 z1 hp1
  show VE γ o 4 111 (eM o m1 z1) 111 4438 829 [(0, .ref b), (1, .ref (ads o 0)), (2, .ref (ads o 95)), (3, .int (nI i))] [.int x1]
  refine v_aload_n X 2 d_law_829 rfl rfl ?_
  refine v_aload_n X 0 d_law_830 rfl rfl ?_
  refine v_iload_n X 3 d_law_831 rfl rfl ?_
  refine v_iconst X (v := nI 1) d_law_832 (by decide) ?_
  refine v_iadd X d_law_833 (nI_add i 1) ?_
  refine v_sld X S (j := i + 1) (by omega) d_law_834 ?_
  refine v_aload_n X 0 d_law_835 rfl rfl ?_
  refine v_iload_n X 3 d_law_836 rfl rfl ?_
  refine v_iconst X (v := nI 2) d_law_837 (by decide) ?_
  refine v_iadd X d_law_838 (nI_add i 2) ?_
  refine v_sld X S (j := i + 2) (by omega) d_law_839 ?_
  refine v_aload_n X 0 d_law_840 rfl rfl ?_
  refine v_iload_n X 3 d_law_841 rfl rfl ?_
  refine v_iconst X (v := nI 3) d_law_842 (by decide) ?_
  refine v_iadd X d_law_843 (nI_add i 3) ?_
  refine v_sld X S (j := i + 3) (by omega) d_law_844 ?_
  refine v_callM X hC2 ok_Mo_write w_Lw_122 rfl b_95 e_95 rfl ⟨(Nat.le_of_ble_eq_true rfl), (Nat.le_of_ble_eq_true rfl)⟩ ⟨(Nat.le_of_ble_eq_true rfl), (Nat.le_of_ble_eq_true rfl)⟩ (rest := [.int x1]) rfl (Nat.le_of_ble_eq_true rfl) d_law_845 (fun v2 m2 z2 hp2 => ?_)
  obtain ⟨rfl, R2⟩ := hk2 v2 m2 z2 hp2
  show VE γ o 4 111 (eM o m2 z2) 111 4438 848 [(0, .ref b), (1, .ref (ads o 0)), (2, .ref (ads o 95)), (3, .int (nI i))] [.int x1, .int x1]
  exact v_iceq X (tgt := 935) (c := True) d_law_848 (by decide) ⟨fun _ => trivial, fun _ => rfl⟩ (fun _ => k m2 z2 R2) (fun h => absurd trivial h)
theorem lc_25 (X : CxE γ l o "NearMarksLaw" code 4 9 308 600000 7302250 0) (S : LScr γ o b L xs) (R : Rel mi ml) (hi : i + 4 ≤ L) (k : ∀ (m : MI) (z : ML), Rel m z → VE γ o 4 111 (eM o m z) 111 4438 935 [(0, .ref b), (1, .ref (ads o 0)), (2, .ref (ads o 95)), (3, .int (nI i))] []) : VE γ o 4 111 (eM o mi ml) 111 4438 853 [(0, .ref b), (1, .ref (ads o 0)), (2, .ref (ads o 95)), (3, .int (nI i))] [] := by
  -- tear
  refine v_aload_n X 1 d_law_853 rfl rfl ?_
  obtain ⟨P1, hC1, hk1⟩ := b_tear l o R
  refine v_callM X hC1 ok_Nm_tear w_Lw_123 rfl b_0 e_0 rfl ⟨(Nat.le_of_ble_eq_true rfl), (Nat.le_of_ble_eq_true rfl)⟩ ⟨(Nat.le_of_ble_eq_true rfl), (Nat.le_of_ble_eq_true rfl)⟩ (rest := []) rfl (Nat.le_of_ble_eq_true rfl) d_law_854 (fun v1 m1 z1 hp1 => ?_)
  obtain ⟨x1, rfl, P2, hC2, hk2⟩ := hk1 v1 m1 z1 hp1
  show VE γ o 4 111 (eM o m1 z1) 111 4438 857 [(0, .ref b), (1, .ref (ads o 0)), (2, .ref (ads o 95)), (3, .int (nI i))] [.int x1]
  refine v_aload_n X 2 d_law_857 rfl rfl ?_
  refine v_callM X hC2 ok_Mo_tear w_Lw_126 rfl b_95 e_95 rfl ⟨(Nat.le_of_ble_eq_true rfl), (Nat.le_of_ble_eq_true rfl)⟩ ⟨(Nat.le_of_ble_eq_true rfl), (Nat.le_of_ble_eq_true rfl)⟩ (rest := [.int x1]) rfl (Nat.le_of_ble_eq_true rfl) d_law_858 (fun v2 m2 z2 hp2 => ?_)
  obtain ⟨rfl, R2⟩ := hk2 v2 m2 z2 hp2
  show VE γ o 4 111 (eM o m2 z2) 111 4438 861 [(0, .ref b), (1, .ref (ads o 0)), (2, .ref (ads o 95)), (3, .int (nI i))] [.int x1, .int x1]
  exact v_iceq X (tgt := 935) (c := True) d_law_861 (by decide) ⟨fun _ => trivial, fun _ => rfl⟩ (fun _ => k m2 z2 R2) (fun h => absurd trivial h)
theorem lc_26 (X : CxE γ l o "NearMarksLaw" code 4 9 308 600000 7302250 0) (S : LScr γ o b L xs) (R : Rel mi ml) (hi : i + 4 ≤ L) (k : ∀ (m : MI) (z : ML), Rel m z → VE γ o 4 111 (eM o m z) 111 4438 935 [(0, .ref b), (1, .ref (ads o 0)), (2, .ref (ads o 95)), (3, .int (nI i))] []) : VE γ o 4 111 (eM o mi ml) 111 4438 866 [(0, .ref b), (1, .ref (ads o 0)), (2, .ref (ads o 95)), (3, .int (nI i))] [] := by
  -- seed
  refine v_aload_n X 1 d_law_866 rfl rfl ?_
  refine v_aload_n X 0 d_law_867 rfl rfl ?_
  refine v_iload_n X 3 d_law_868 rfl rfl ?_
  refine v_iconst X (v := nI 1) d_law_869 (by decide) ?_
  refine v_iadd X d_law_870 (nI_add i 1) ?_
  refine v_sld X S (j := i + 1) (by omega) d_law_871 ?_
  obtain ⟨P1, hC1, hk1⟩ := b_seed l o R (xs (i + 1))
  refine v_callM X hC1 ok_Nm_seed w_Lw_127 rfl b_0 e_0 rfl ⟨(Nat.le_of_ble_eq_true rfl), (Nat.le_of_ble_eq_true rfl)⟩ ⟨(Nat.le_of_ble_eq_true rfl), (Nat.le_of_ble_eq_true rfl)⟩ (rest := []) rfl (Nat.le_of_ble_eq_true rfl) d_law_872 (fun v1 m1 z1 hp1 => ?_)
  obtain ⟨x1, rfl, P2, hC2, hk2⟩ := hk1 v1 m1 z1 hp1
  show VE γ o 4 111 (eM o m1 z1) 111 4438 875 [(0, .ref b), (1, .ref (ads o 0)), (2, .ref (ads o 95)), (3, .int (nI i))] [.int x1]
  refine v_aload_n X 2 d_law_875 rfl rfl ?_
  refine v_aload_n X 0 d_law_876 rfl rfl ?_
  refine v_iload_n X 3 d_law_877 rfl rfl ?_
  refine v_iconst X (v := nI 1) d_law_878 (by decide) ?_
  refine v_iadd X d_law_879 (nI_add i 1) ?_
  refine v_sld X S (j := i + 1) (by omega) d_law_880 ?_
  refine v_callM X hC2 ok_Mo_seed w_Lw_130 rfl b_95 e_95 rfl ⟨(Nat.le_of_ble_eq_true rfl), (Nat.le_of_ble_eq_true rfl)⟩ ⟨(Nat.le_of_ble_eq_true rfl), (Nat.le_of_ble_eq_true rfl)⟩ (rest := [.int x1]) rfl (Nat.le_of_ble_eq_true rfl) d_law_881 (fun v2 m2 z2 hp2 => ?_)
  obtain ⟨rfl, R2⟩ := hk2 v2 m2 z2 hp2
  show VE γ o 4 111 (eM o m2 z2) 111 4438 884 [(0, .ref b), (1, .ref (ads o 0)), (2, .ref (ads o 95)), (3, .int (nI i))] [.int x1, .int x1]
  exact v_iceq X (tgt := 935) (c := True) d_law_884 (by decide) ⟨fun _ => trivial, fun _ => rfl⟩ (fun _ => k m2 z2 R2) (fun h => absurd trivial h)
theorem lc_27 (X : CxE γ l o "NearMarksLaw" code 4 9 308 600000 7302250 0) (S : LScr γ o b L xs) (R : Rel mi ml) (hi : i + 4 ≤ L) (k : ∀ (m : MI) (z : ML), Rel m z → VE γ o 4 111 (eM o m z) 111 4438 935 [(0, .ref b), (1, .ref (ads o 0)), (2, .ref (ads o 95)), (3, .int (nI i))] []) : VE γ o 4 111 (eM o mi ml) 111 4438 889 [(0, .ref b), (1, .ref (ads o 0)), (2, .ref (ads o 95)), (3, .int (nI i))] [] := by
  -- keep
  refine v_aload_n X 1 d_law_889 rfl rfl ?_
  refine v_aload_n X 0 d_law_890 rfl rfl ?_
  refine v_iload_n X 3 d_law_891 rfl rfl ?_
  refine v_iconst X (v := nI 1) d_law_892 (by decide) ?_
  refine v_iadd X d_law_893 (nI_add i 1) ?_
  refine v_sld X S (j := i + 1) (by omega) d_law_894 ?_
  obtain ⟨P1, hC1, hk1⟩ := b_keep l o R (xs (i + 1))
  refine v_callM X hC1 ok_Nm_keep w_Lw_131 rfl b_0 e_0 rfl ⟨(Nat.le_of_ble_eq_true rfl), (Nat.le_of_ble_eq_true rfl)⟩ ⟨(Nat.le_of_ble_eq_true rfl), (Nat.le_of_ble_eq_true rfl)⟩ (rest := []) rfl (Nat.le_of_ble_eq_true rfl) d_law_895 (fun v1 m1 z1 hp1 => ?_)
  obtain ⟨x1, rfl, P2, hC2, hk2⟩ := hk1 v1 m1 z1 hp1
  show VE γ o 4 111 (eM o m1 z1) 111 4438 898 [(0, .ref b), (1, .ref (ads o 0)), (2, .ref (ads o 95)), (3, .int (nI i))] [.int x1]
  refine v_aload_n X 2 d_law_898 rfl rfl ?_
  refine v_aload_n X 0 d_law_899 rfl rfl ?_
  refine v_iload_n X 3 d_law_900 rfl rfl ?_
  refine v_iconst X (v := nI 1) d_law_901 (by decide) ?_
  refine v_iadd X d_law_902 (nI_add i 1) ?_
  refine v_sld X S (j := i + 1) (by omega) d_law_903 ?_
  refine v_callM X hC2 ok_Mo_keep w_Lw_134 rfl b_95 e_95 rfl ⟨(Nat.le_of_ble_eq_true rfl), (Nat.le_of_ble_eq_true rfl)⟩ ⟨(Nat.le_of_ble_eq_true rfl), (Nat.le_of_ble_eq_true rfl)⟩ (rest := [.int x1]) rfl (Nat.le_of_ble_eq_true rfl) d_law_904 (fun v2 m2 z2 hp2 => ?_)
  obtain ⟨rfl, R2⟩ := hk2 v2 m2 z2 hp2
  show VE γ o 4 111 (eM o m2 z2) 111 4438 907 [(0, .ref b), (1, .ref (ads o 0)), (2, .ref (ads o 95)), (3, .int (nI i))] [.int x1, .int x1]
  exact v_iceq X (tgt := 935) (c := True) d_law_907 (by decide) ⟨fun _ => trivial, fun _ => rfl⟩ (fun _ => k m2 z2 R2) (fun h => absurd trivial h)
theorem lc_28 (X : CxE γ l o "NearMarksLaw" code 4 9 308 600000 7302250 0) (S : LScr γ o b L xs) (R : Rel mi ml) (hi : i + 4 ≤ L) (k : ∀ (m : MI) (z : ML), Rel m z → VE γ o 4 111 (eM o m z) 111 4438 935 [(0, .ref b), (1, .ref (ads o 0)), (2, .ref (ads o 95)), (3, .int (nI i))] []) : VE γ o 4 111 (eM o mi ml) 111 4438 912 [(0, .ref b), (1, .ref (ads o 0)), (2, .ref (ads o 95)), (3, .int (nI i))] [] := by
  -- goBack
  refine v_aload_n X 1 d_law_912 rfl rfl ?_
  refine v_aload_n X 0 d_law_913 rfl rfl ?_
  refine v_iload_n X 3 d_law_914 rfl rfl ?_
  refine v_iconst X (v := nI 1) d_law_915 (by decide) ?_
  refine v_iadd X d_law_916 (nI_add i 1) ?_
  refine v_sld X S (j := i + 1) (by omega) d_law_917 ?_
  obtain ⟨P1, hC1, hk1⟩ := b_goBack l o R (xs (i + 1))
  refine v_callM X hC1 ok_Nm_goBack w_Lw_135 rfl b_0 e_0 rfl ⟨(Nat.le_of_ble_eq_true rfl), (Nat.le_of_ble_eq_true rfl)⟩ ⟨(Nat.le_of_ble_eq_true rfl), (Nat.le_of_ble_eq_true rfl)⟩ (rest := []) rfl (Nat.le_of_ble_eq_true rfl) d_law_918 (fun v1 m1 z1 hp1 => ?_)
  obtain ⟨x1, rfl, P2, hC2, hk2⟩ := hk1 v1 m1 z1 hp1
  show VE γ o 4 111 (eM o m1 z1) 111 4438 921 [(0, .ref b), (1, .ref (ads o 0)), (2, .ref (ads o 95)), (3, .int (nI i))] [.int x1]
  refine v_aload_n X 2 d_law_921 rfl rfl ?_
  refine v_aload_n X 0 d_law_922 rfl rfl ?_
  refine v_iload_n X 3 d_law_923 rfl rfl ?_
  refine v_iconst X (v := nI 1) d_law_924 (by decide) ?_
  refine v_iadd X d_law_925 (nI_add i 1) ?_
  refine v_sld X S (j := i + 1) (by omega) d_law_926 ?_
  refine v_callM X hC2 ok_Mo_goBack w_Lw_138 rfl b_95 e_95 rfl ⟨(Nat.le_of_ble_eq_true rfl), (Nat.le_of_ble_eq_true rfl)⟩ ⟨(Nat.le_of_ble_eq_true rfl), (Nat.le_of_ble_eq_true rfl)⟩ (rest := [.int x1]) rfl (Nat.le_of_ble_eq_true rfl) d_law_927 (fun v2 m2 z2 hp2 => ?_)
  obtain ⟨rfl, R2⟩ := hk2 v2 m2 z2 hp2
  show VE γ o 4 111 (eM o m2 z2) 111 4438 930 [(0, .ref b), (1, .ref (ads o 0)), (2, .ref (ads o 95)), (3, .int (nI i))] [.int x1, .int x1]
  exact v_iceq X (tgt := 935) (c := True) d_law_930 (by decide) ⟨fun _ => trivial, fun _ => rfl⟩ (fun _ => k m2 z2 R2) (fun h => absurd trivial h)
end LAWC
