/-! class and reference: the same answers, part 2: columns, the middle -/
theorem stB_inj {p q : Nat → Bool} {n : Nat} (hn : n ≤ 64) : stB p n = stB q n ↔ ∀ k, k < n → p k = q k := by
  constructor
  · intro h k hk
    have h1 := bt_stB (p := p) hn k (by omega)
    have h2 := bt_stB (p := q) hn k (by omega)
    rw [h] at h1
    simpa [hk] using h1.symm.trans h2
  · intro h
    apply bt_ext
    intro k hk
    rw [bt_stB hn k hk, bt_stB hn k hk]
    by_cases h1 : k < n
    · rw [h k h1]
    · simp [h1]
theorem stB_no (n : Nat) : stB (fun _ => false) n = 0 := by
  induction n with
  | zero => rfl
  | succ n ih => rw [stB, ih, if_neg (by decide), or0]
theorem bt_col1 {x : Int64} {b k j : Nat} (hb : b < 64) (hk : k < 64) (hj : j < 64) : bt (shl (ushr x b &&& 1) k) j = (decide (j = k) && bt x b) := by
  rw [bt_shl _ hk hj, bt_and, bt_1]
  by_cases h : j = k
  · subst h
    have e : bt (ushr x b) (j - j) = bt x b := by rw [bt_ushr x hb, Nat.sub_self]; rfl
    rw [e]; simp
  · by_cases h2 : k ≤ j
    · have e : ¬ j - k = 0 := by omega
      simp [h, e]
    · simp [h, h2]
theorem col_eq {M : Nat → Int64} {b : Nat} (hb : b < 64) : ∀ {n : Nat}, n ≤ 64 → colS M b n = stB (fun k => bt (M k) b) n
  | 0, _ => rfl
  | n + 1, hn => by
    rw [colS, stB, col_eq hb (by omega)]
    congr 1
    apply bt_ext
    intro j hj
    rw [bt_col1 hb (by omega) hj]
    by_cases h : bt (M n) b = true
    · rw [if_pos h, bt_sh1 (by omega) hj]; simp [h]
    · have h : bt (M n) b = false := by simpa using h
      rw [if_neg (by rw [h]; decide), bt_0, h]; simp
theorem all_eq : ∀ n, n < 41 → allS n = stB (fun _ => true) n := by decide +kernel
theorem xor_all {p : Nat → Bool} {n : Nat} (hn : n ≤ 64) : stB (fun _ => true) n ^^^ stB p n = stB (fun k => !p k) n := by
  apply bt_ext
  intro j hj
  rw [bt_xor, bt_stB hn j hj, bt_stB hn j hj, bt_stB hn j hj]
  by_cases h : j < n
  · simp [h]
  · simp [h]
theorem dead_eq {M : Nat → Int64} {n b : Nat} (hn : n ≤ 40) (hb : b < 64) : deadC M n b = deadM M n b := by
  unfold deadC deadM
  rw [col_eq hb (by omega), all_eq n (by omega), ← stB_no n]
  rw [show decide (stB (fun k => bt (M k) b) n = stB (fun _ => false) n) = decide (∀ k, k < n → bt (M k) b = false) from decide_eq_decide.mpr (stB_inj (by omega)), show decide (stB (fun k => bt (M k) b) n = stB (fun _ => true) n) = decide (∀ k, k < n → bt (M k) b = true) from decide_eq_decide.mpr (stB_inj (by omega))]
  rw [Bool.eq_iff_iff, Bool.or_eq_true, decide_eq_true_eq, decide_eq_true_eq, alB_iff]
  constructor
  · rintro (h | h) k hk
    · rw [h k hk, h 0 (by omega)]; rfl
    · rw [h k hk, h 0 (by omega)]; rfl
  · intro h
    rcases h0 : bt (M 0) b with _ | _
    · left; intro k hk; have := h k hk; rw [h0] at this; simpa using this
    · right; intro k hk; have := h k hk; rw [h0] at this; simpa using this
theorem dead_iff {M : Nat → Int64} {n b : Nat} : deadM M n b = true ↔ ∀ j k, j < n → k < n → bt (M j) b = bt (M k) b := by
  unfold deadM
  rw [alB_iff]
  constructor
  · intro h j k hj hk
    have h1 := h j hj
    have h2 := h k hk
    simp only [decide_eq_true_eq] at h1 h2
    rw [h1, h2]
  · intro h k hk
    simp only [decide_eq_true_eq]
    exact h k 0 hk (by omega)
theorem tog_iff {M : Nat → Int64} {n a b : Nat} : togM M n a b = true ↔ (∀ k, k < n → bt (M k) a = bt (M k) b) ∨ ∀ k, k < n → bt (M k) a = !bt (M k) b := by
  unfold togM
  rw [Bool.or_eq_true, alB_iff, alB_iff]
  constructor
  · rintro (h | h)
    · left; intro k hk; simpa using h k hk
    · right; intro k hk
      have := h k hk
      simp only [Bool.not_eq_true', decide_eq_false_iff_not] at this
      rcases h1 : bt (M k) a with _ | _ <;> rcases h2 : bt (M k) b with _ | _ <;> simp_all
  · rintro (h | h)
    · left; intro k hk; simpa using h k hk
    · right; intro k hk
      rw [h k hk]
      rcases h2 : bt (M k) b with _ | _ <;> simp
theorem pair_eq {M : Nat → Int64} {n a b : Nat} (hn : n ≤ 40) (ha : a < 64) (hb : b < 64) : goC M n a b = pairM M n a b := by
  have e : goC M n a b = (!deadM M n a && togM M n a b) := by
    unfold goC
    rw [dead_eq hn ha, col_eq ha (by omega), col_eq hb (by omega), all_eq n (by omega), xor_all (by omega)]
    congr 1
    rw [show decide (stB (fun k => bt (M k) a) n = stB (fun k => bt (M k) b) n) = decide (∀ k, k < n → bt (M k) a = bt (M k) b) from decide_eq_decide.mpr (stB_inj (by omega)), show decide (stB (fun k => bt (M k) a) n = stB (fun k => !bt (M k) b) n) = decide (∀ k, k < n → bt (M k) a = !bt (M k) b) from decide_eq_decide.mpr (stB_inj (by omega))]
    rw [Bool.eq_iff_iff, Bool.or_eq_true, decide_eq_true_eq, decide_eq_true_eq, tog_iff]
  rw [e]; unfold pairM
  rcases h1 : deadM M n a with _ | _
  · rcases h2 : togM M n a b with _ | _
    · simp
    · have h3 : deadM M n b = false := by
        rcases h3 : deadM M n b with _ | _
        · rfl
        · have h4 : deadM M n a = true := by
            rw [dead_iff] at h3 ⊢
            rw [tog_iff] at h2
            intro j k hj hk
            rcases h2 with h2 | h2
            · rw [h2 j hj, h2 k hk, h3 j k hj hk]
            · rw [h2 j hj, h2 k hk, h3 j k hj hk]
          rw [h1] at h4; cases h4
      rw [h3]; rfl
  · simp
theorem fromC_cong {p q : Nat → Bool} {v : Nat → Int32} {e e' : Int32} (he : e = e') : ∀ {d i : Nat}, (∀ k, i ≤ k → k < i + d → p k = q k) → fromC p v e d i = fromC q v e' d i
  | 0, _, _ => he
  | d + 1, i, h => by
    rw [fromC, fromC, h i (Nat.le_refl _) (by omega), fromC_cong he (d := d) (i := i + 1) (fun k h1 h2 => h k (by omega) (by omega))]
theorem togR_cong {p q : Nat → Nat → Bool} : ∀ {d a : Nat}, a + d ≤ 64 → (∀ x y, x < 64 → y < 64 → p x y = q x y) → togR p d a = togR q d a
  | 0, _, _, _ => rfl
  | d + 1, a, h, hp => by
    rw [togR, togR]
    exact fromC_cong (togR_cong (by omega) hp) (fun k h1 h2 => hp a k (by omega) (by omega))
theorem and_stB {p q : Nat → Bool} {n : Nat} (hn : n ≤ 64) : stB p n &&& stB q n = stB (fun k => p k && q k) n := by
  apply bt_ext
  intro j hj
  rw [bt_and, bt_stB hn j hj, bt_stB hn j hj, bt_stB hn j hj]
  by_cases h : j < n
  · simp [h]
  · simp [h]
theorem stN_eq (p : Nat → Bool) : ∀ n, stN p n = stB (fun k => !p k) n
  | 0 => rfl
  | n + 1 => by
    rw [stN, stB, stN_eq p n]
    rcases h : p n with _ | _ <;> simp
theorem mid_eq {M : Nat → Int64} {n r : Nat} {G : Nat → Nat} {S : Int64} (hn : n ≤ 40) (hS : S = stB (fun k => decide (G k = r)) n) : midC M n S = stN (midP M n G r) 64 := by
  subst hS
  rw [stN_eq]; unfold midC
  rw [stB_inj (Nat.le_refl _)]
  intro b hb
  unfold midP
  rw [col_eq hb (by omega), and_stB (by omega), pop_stB (by omega), pop_stB (by omega)]
  rw [ct_cong (fun k _ => Bool.and_comm (bt (M k) b) (decide (G k = r)))]
theorem rows_eq : ∀ d, d < 256 → rowsE d 8 = rowsS (lN d) 8 := by decide +kernel
theorem lotH_eq (h : Int64) (z : Nat) : lotHC h z = lotH h z := by
  unfold lotHC lotH
  by_cases e : lotW z = 0
  · rw [if_pos e, if_pos e, rows_eq _ (Nat.mod_lt _ (by decide))]
  · rw [if_neg e, if_neg e]
