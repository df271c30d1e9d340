/-! the law's loop, its start, the claim -/
section LAWL
variable {γ : GT} {l : Launch} {o : OM} {b L : Nat} {xs : Nat → Int32}
theorem law_sw (X : CxE γ l o "NearMarksLaw" code 4 9 308 600000 7302250 0) (S : LScr γ o b L xs) {mi : MI} {ml : ML} (R : Rel mi ml) {i : Nat} (hi : i + 4 ≤ L) (x : Nat) (hx : x < 32) (k : ∀ (m : MI) (z : ML), Rel m z → VE γ o 4 111 (eM o m z) 111 4438 935 [(0, .ref b), (1, .ref (ads o 0)), (2, .ref (ads o 95)), (3, .int (nI i))] []) : VE γ o 4 111 (eM o mi ml) 111 4438 32 [(0, .ref b), (1, .ref (ads o 0)), (2, .ref (ads o 95)), (3, .int (nI i))] [.int (nI x)] := by
  rcases (show x = 0 ∨ x = 1 ∨ x = 2 ∨ x = 3 ∨ x = 4 ∨ x = 5 ∨ x = 6 ∨ x = 7 ∨ x = 8 ∨ x = 9 ∨ x = 10 ∨ x = 11 ∨ x = 12 ∨ x = 13 ∨ x = 14 ∨ x = 15 ∨ x = 16 ∨ x = 17 ∨ x = 18 ∨ x = 19 ∨ x = 20 ∨ x = 21 ∨ x = 22 ∨ x = 23 ∨ x = 24 ∨ x = 25 ∨ x = 26 ∨ x = 27 ∨ x = 28 ∨ x = 29 ∨ x = 30 ∨ x = 31 by omega) with rfl | rfl | rfl | rfl | rfl | rfl | rfl | rfl | rfl | rfl | rfl | rfl | rfl | rfl | rfl | rfl | rfl | rfl | rfl | rfl | rfl | rfl | rfl | rfl | rfl | rfl | rfl | rfl | rfl | rfl | rfl | rfl
  · exact v_tswIn X (off := 132) (tgt := 164) d_law_32 (by decide) (by decide) rfl (by decide) (lc_0 X S R hi k)
  · exact v_tswIn X (off := 155) (tgt := 187) d_law_32 (by decide) (by decide) rfl (by decide) (lc_1 X S R hi k)
  · exact v_tswIn X (off := 169) (tgt := 201) d_law_32 (by decide) (by decide) rfl (by decide) (lc_2 X S R hi k)
  · exact v_tswIn X (off := 193) (tgt := 225) d_law_32 (by decide) (by decide) rfl (by decide) (lc_3 X S R hi k)
  · exact v_tswIn X (off := 226) (tgt := 258) d_law_32 (by decide) (by decide) rfl (by decide) (lc_4 X S R hi k)
  · exact v_tswIn X (off := 259) (tgt := 291) d_law_32 (by decide) (by decide) rfl (by decide) (lc_5 X S R hi k)
  · exact v_tswIn X (off := 292) (tgt := 324) d_law_32 (by decide) (by decide) rfl (by decide) (lc_6 X S R hi k)
  · exact v_tswIn X (off := 315) (tgt := 347) d_law_32 (by decide) (by decide) rfl (by decide) (lc_7 X S R hi k)
  · exact v_tswIn X (off := 328) (tgt := 360) d_law_32 (by decide) (by decide) rfl (by decide) (lc_8 X S R hi k)
  · exact v_tswIn X (off := 341) (tgt := 373) d_law_32 (by decide) (by decide) rfl (by decide) (lc_9 X S R hi k)
  · exact v_tswIn X (off := 364) (tgt := 396) d_law_32 (by decide) (by decide) rfl (by decide) (lc_10 X S R hi k)
  · exact v_tswIn X (off := 387) (tgt := 419) d_law_32 (by decide) (by decide) rfl (by decide) (lc_11 X S R hi k)
  · exact v_tswIn X (off := 440) (tgt := 472) d_law_32 (by decide) (by decide) rfl (by decide) (lc_12 X S R hi k)
  · exact v_tswIn X (off := 463) (tgt := 495) d_law_32 (by decide) (by decide) rfl (by decide) (lc_13 X S R hi k)
  · exact v_tswIn X (off := 496) (tgt := 528) d_law_32 (by decide) (by decide) rfl (by decide) (lc_14 X S R hi k)
  · exact v_tswIn X (off := 519) (tgt := 551) d_law_32 (by decide) (by decide) rfl (by decide) (lc_15 X S R hi k)
  · exact v_tswIn X (off := 542) (tgt := 574) d_law_32 (by decide) (by decide) rfl (by decide) (lc_16 X S R hi k)
  · exact v_tswIn X (off := 566) (tgt := 598) d_law_32 (by decide) (by decide) rfl (by decide) (lc_17 X S R hi k)
  · exact v_tswIn X (off := 589) (tgt := 621) d_law_32 (by decide) (by decide) rfl (by decide) (lc_18 X S R hi k)
  · exact v_tswIn X (off := 622) (tgt := 654) d_law_32 (by decide) (by decide) rfl (by decide) (lc_19 X S R hi k)
  · exact v_tswIn X (off := 645) (tgt := 677) d_law_32 (by decide) (by decide) rfl (by decide) (lc_20 X S R hi k)
  · exact v_tswIn X (off := 688) (tgt := 720) d_law_32 (by decide) (by decide) rfl (by decide) (lc_21 X S R hi k)
  · exact v_tswIn X (off := 722) (tgt := 754) d_law_32 (by decide) (by decide) rfl (by decide) (lc_22 X S R hi k)
  · exact v_tswIn X (off := 755) (tgt := 787) d_law_32 (by decide) (by decide) rfl (by decide) (lc_23 X S R hi k)
  · exact v_tswIn X (off := 778) (tgt := 810) d_law_32 (by decide) (by decide) rfl (by decide) (lc_24 X S R hi k)
  · exact v_tswIn X (off := 821) (tgt := 853) d_law_32 (by decide) (by decide) rfl (by decide) (lc_25 X S R hi k)
  · exact v_tswIn X (off := 834) (tgt := 866) d_law_32 (by decide) (by decide) rfl (by decide) (lc_26 X S R hi k)
  · exact v_tswIn X (off := 857) (tgt := 889) d_law_32 (by decide) (by decide) rfl (by decide) (lc_27 X S R hi k)
  · exact v_tswIn X (off := 880) (tgt := 912) d_law_32 (by decide) (by decide) rfl (by decide) (lc_28 X S R hi k)
  · exact v_tswOut X (tgt := 935) d_law_32 (Or.inr (by decide)) (by decide) (k mi ml R)
  · exact v_tswOut X (tgt := 935) d_law_32 (Or.inr (by decide)) (by decide) (k mi ml R)
  · exact v_tswOut X (tgt := 935) d_law_32 (Or.inr (by decide)) (by decide) (k mi ml R)
theorem law_loop (X : CxE γ l o "NearMarksLaw" code 4 9 308 600000 7302250 0) (S : LScr γ o b L xs) (Q : LRet γ b) : ∀ (n i : Nat) (mi : MI) (ml : ML), i ≤ L → L + 1 ≤ i + n → Rel mi ml → VE γ o 4 111 (eM o mi ml) 111 4438 18 [(0, .ref b), (1, .ref (ads o 0)), (2, .ref (ads o 95)), (3, .int (nI i))] [] := by
  have hL : L ≤ 2048 := S.2.2.2
  intro n
  induction n with
  | zero =>
    intro i mi ml h1 h2
    exact absurd h2 (by omega)
  | succ n ih =>
    intro i mi ml h1 h2 R
    refine v_iload_n X 3 d_law_18 rfl rfl ?_
    refine v_aload_n X 0 d_law_19 rfl rfl ?_
    refine v_slen X S d_law_20 ?_
    refine v_iconst X (v := nI 4) d_law_21 (by decide) ?_
    refine v_isub X (v := nI L - nI 4) d_law_22 rfl ?_
    refine v_icgt X (tgt := 941) (c := L < i + 4) d_law_23 (by decide) (sub4 hL (by omega)) (fun _ => ?_) (fun hc => ?_)
    · refine v_iconst X (v := 1) d_law_941 (by decide) ?_
      exact v_lawret X Q (Nat.le_of_ble_eq_true rfl) (Nat.le_of_ble_eq_true rfl) d_law_942
    · have hi : i + 4 ≤ L := by omega
      refine v_aload_n X 0 d_law_26 rfl rfl ?_
      refine v_iload_n X 3 d_law_27 rfl rfl ?_
      refine v_sld X S (j := i) (by omega) d_law_28 ?_
      refine v_bipush X (v := nI 31) d_law_29 (by decide) ?_
      obtain ⟨x, hx, ex⟩ := and31 (xs i)
      refine v_iand X (v := nI x) d_law_31 ex ?_
      refine law_sw X S R hi x hx (fun m z R' => ?_)
      refine v_iinc X 3 (v := nI (i + 4)) [(3, .int (nI (i + 4))), (0, .ref b), (1, .ref (ads o 0)), (2, .ref (ads o 95))] d_law_935 rfl (nI_add i 4) (Nat.le_of_ble_eq_true rfl) rfl ?_
      refine v_goto X (tgt := 18) d_law_938 (by decide) ?_
      exact VE.wk [1, 2, 3, 0] (ih (i + 4) m z hi (by omega) R') rfl
theorem law_start (X : CxE γ l o "NearMarksLaw" code 4 9 308 600000 7302250 0) (S : LScr γ o b L xs) (Q : LRet γ b) (E : Nat → va_E) : VE γ o 4 0 E 0 0 0 [(0, .ref b)] [] := by
  refine v_new X (ci := 9) (N := 10) (C := CR9) (T := CT9) (ty := CY9) (fs := [.null, .null, .null, .null, .null, .null, .null, .null, .null, .null]) rfl CI9 CYok9 (by decide) cl_Lw_7 in_Nm ii_Nm rfl (Nat.le_of_ble_eq_true rfl) (Nat.le_of_ble_eq_true rfl) d_law_0 ?_
  refine v_dup X d_law_3 rfl ?_
  refine v_callX X (m_Nm_init l o (uf E 0 (.inr (9, [.null, .null, .null, .null, .null, .null, .null, .null, .null, .null]))) (by rw [uf_s])) ok_Nm_init w_Lw_9 rfl ⟨(Nat.le_of_ble_eq_true rfl), (Nat.le_of_ble_eq_true rfl)⟩ (Nat.le_of_ble_eq_true rfl) (Nat.le_of_ble_eq_true rfl) (Nat.le_of_ble_eq_true rfl) d_law_4 (fun m z hp => ?_)
  show VE γ o 4 95 (eM o m z) 95 2329 7 [(0, .ref b)] [.ref (ads o 0)]
  refine v_astore_n X [(1, .ref (ads o 0)), (0, .ref b)] d_law_7 rfl (Nat.le_of_ble_eq_true rfl) rfl ?_
  refine v_new X (ci := 10) (N := 19) (C := CR10) (T := CT10) (ty := CY10) (fs := [.null, .null, .int 0, .null, .null, .null, .null, .null, .null, .int 0, .int 0, .null, .null, .int 0, .null, .null, .null, .null, .null]) rfl CI10 CYok10 (by decide) cl_Lw_10 in_Mo ii_Mo rfl (Nat.le_of_ble_eq_true rfl) (Nat.le_of_ble_eq_true rfl) d_law_8 ?_
  refine v_dup X d_law_11 rfl ?_
  refine v_callI X (m_Mo_init l o 95 96 (uf (eM o m z) 95 (.inr (10, [.null, .null, .int 0, .null, .null, .null, .null, .null, .null, .int 0, .int 0, .null, .null, .int 0, .null, .null, .null, .null, .null]))) (by decide) (by rw [uf_s])) ok_Mo_init w_Lw_12 rfl ⟨(Nat.le_of_ble_eq_true rfl), (Nat.le_of_ble_eq_true rfl)⟩ (Nat.le_of_ble_eq_true rfl) (Nat.le_of_ble_eq_true rfl) (Nat.le_of_ble_eq_true rfl) d_law_12 ?_
  show VE γ o 4 111 (eMo_init o (uf (eM o m z) 95 (.inr (10, [.null, .null, .int 0, .null, .null, .null, .null, .null, .null, .int 0, .int 0, .null, .null, .int 0, .null, .null, .null, .null, .null]))) 95 96) 111 4438 15 [(1, .ref (ads o 0)), (0, .ref b)] [.ref (ads o 95)]
  refine VE.eq2 (EE2 := eM o m (u2 z 96 1 281479271743489)) ?_ (fun i hi => eqv.of (ini_eq hp hi))
  refine v_astore_n X [(2, .ref (ads o 95)), (1, .ref (ads o 0)), (0, .ref b)] d_law_15 rfl (Nat.le_of_ble_eq_true rfl) rfl ?_
  refine v_iconst X (v := nI 0) d_law_16 (by decide) ?_
  refine v_istore_n X [(3, .int (nI 0)), (2, .ref (ads o 95)), (1, .ref (ads o 0)), (0, .ref b)] d_law_17 rfl (Nat.le_of_ble_eq_true rfl) rfl ?_
  exact VE.wk [3, 2, 1, 0] (law_loop X S Q (L + 1) 0 m _ (Nat.zero_le L) (by omega) (ini_rel hp)) rfl
end LAWL
