/-! class and reference: the same answers, part 1: firsts, counts, sets, parts alike -/
theorem fromB_spec {p : Nat → Bool} : ∀ {d i : Nat}, (fromB p d i = -1 ∧ ∀ k, i ≤ k → k < i + d → p k = false) ∨ ∃ k, i ≤ k ∧ k < i + d ∧ p k = true ∧ (∀ j, i ≤ j → j < k → p j = false) ∧ fromB p d i = nI k
  | 0, i => Or.inl ⟨rfl, fun k h1 h2 => by omega⟩
  | d + 1, i => by
    by_cases h : p i = true
    · exact Or.inr ⟨i, Nat.le_refl _, by omega, h, fun j h1 h2 => by omega, by rw [fromB, if_pos h]⟩
    · have h' : p i = false := by simpa using h
      have e0 : fromB p (d + 1) i = fromB p d (i + 1) := by rw [fromB, if_neg h]
      rcases fromB_spec (p := p) (d := d) (i := i + 1) with ⟨e, q⟩ | ⟨k, q1, q2, q3, q4, e⟩
      · refine Or.inl ⟨e0.trans e, fun k h1 h2 => ?_⟩
        rcases Nat.eq_or_lt_of_le h1 with h3 | h3
        · rw [← h3]; exact h'
        · exact q k h3 (by omega)
      · refine Or.inr ⟨k, by omega, by omega, q3, fun j h1 h2 => ?_, e0.trans e⟩
        rcases Nat.eq_or_lt_of_le h1 with h3 | h3
        · rw [← h3]; exact h'
        · exact q4 j h3 h2
theorem lastB_spec {p : Nat → Bool} : ∀ {n : Nat}, (lastB p n = -1 ∧ ∀ k, k < n → p k = false) ∨ ∃ k, k < n ∧ p k = true ∧ lastB p n = nI k
  | 0 => Or.inl ⟨rfl, fun k h => by omega⟩
  | n + 1 => by
    by_cases h : p n = true
    · exact Or.inr ⟨n, by omega, h, by rw [lastB, if_pos h]⟩
    · have h' : p n = false := by simpa using h
      have e0 : lastB p (n + 1) = lastB p n := by rw [lastB, if_neg h]
      rcases lastB_spec (p := p) (n := n) with ⟨e, q⟩ | ⟨k, q1, q2, e⟩
      · refine Or.inl ⟨e0.trans e, fun k hk => ?_⟩
        rcases Nat.lt_or_ge k n with h3 | h3
        · exact q k h3
        · rw [show k = n by omega]; exact h'
      · exact Or.inr ⟨k, by omega, q2, e0.trans e⟩
theorem first_last {p : Nat → Bool} {n : Nat} (hu : ∀ j k, j < n → k < n → p j = true → p k = true → j = k) : fromB p n 0 = lastB p n := by
  rcases fromB_spec (p := p) (d := n) (i := 0) with ⟨e, q⟩ | ⟨k, -, h2, h3, -, e⟩ <;> rcases lastB_spec (p := p) (n := n) with ⟨e', q'⟩ | ⟨k', h2', h3', e'⟩
  · rw [e, e']
  · have := q k' (Nat.zero_le _) (by omega); rw [h3'] at this; cases this
  · have := q' k (by omega); rw [h3] at this; cases this
  · rw [e, e', hu k k' (by omega) h2' h3 h3']
theorem fromB_cong {p q : Nat → Bool} : ∀ {d i : Nat}, (∀ k, i ≤ k → k < i + d → p k = q k) → fromB p d i = fromB q d i
  | 0, _, _ => rfl
  | d + 1, i, h => by
    rw [fromB, fromB, h i (Nat.le_refl _) (by omega), fromB_cong (d := d) (i := i + 1) (fun k h1 h2 => h k (by omega) (by omega))]
theorem lastB_cong {p q : Nat → Bool} : ∀ {n : Nat}, (∀ k, k < n → p k = q k) → lastB p n = lastB q n
  | 0, _ => rfl
  | n + 1, h => by
    rw [lastB, lastB, h n (by omega), lastB_cong (fun k hk => h k (by omega))]
theorem ct_sub {p q : Nat → Bool} : ∀ {n : Nat}, (∀ k, k < n → p k = true → q k = true) → ct p n ≤ ct q n
  | 0, _ => Nat.le_refl _
  | n + 1, h => by
    have h1 := ct_sub (n := n) (fun k hk => h k (by omega))
    have h2 := h n (by omega)
    show ct p n + (p n).toNat ≤ ct q n + (q n).toNat
    rcases hp : p n with _ | _
    · simp; omega
    · rw [h2 hp]; omega
theorem ct_ssub {p q : Nat → Bool} {i : Nat} : ∀ {n : Nat}, (∀ k, k < n → p k = true → q k = true) → i < n → p i = false → q i = true → ct p n < ct q n
  | 0, _, hi, _, _ => absurd hi (Nat.not_lt_zero i)
  | n + 1, h, hi, h1, h2 => by
    show ct p n + (p n).toNat < ct q n + (q n).toNat
    rcases Nat.lt_or_ge i n with h3 | h3
    · have h4 := ct_ssub (n := n) (fun k hk => h k (by omega)) h3 h1 h2
      have h5 := h n (by omega)
      rcases hp : p n with _ | _
      · simp; omega
      · rw [h5 hp]; omega
    · have e : i = n := by omega
      subst e
      have h4 := ct_sub (n := i) (fun k hk => h k (by omega))
      rw [h1, h2]
      show ct p i + 0 < ct q i + 1
      omega
theorem ahd_lt {f : Nat → Nat} {n j k : Nat} (hj : j < n) (h : f j < f k ∨ (f j = f k ∧ j < k)) : ahd f n j < ahd f n k := by
  unfold ahd
  refine ct_ssub (i := j) (fun i hi q => ?_) hj (by simp) ?_
  · simp only [Bool.or_eq_true, Bool.and_eq_true, decide_eq_true_eq, Bool.not_eq_true', decide_eq_false_iff_not] at q ⊢
    omega
  · simp only [Bool.or_eq_true, Bool.and_eq_true, decide_eq_true_eq, Bool.not_eq_true', decide_eq_false_iff_not]
    omega
theorem ahd_inj {f : Nat → Nat} {n j k : Nat} (hj : j < n) (hk : k < n) (h : ahd f n j = ahd f n k) : j = k := by
  rcases Nat.lt_trichotomy j k with h1 | h1 | h1
  · rcases Nat.lt_trichotomy (f j) (f k) with h2 | h2 | h2
    · have := ahd_lt hj (Or.inl h2); omega
    · have := ahd_lt hj (Or.inr ⟨h2, h1⟩); omega
    · have := ahd_lt hk (Or.inl h2); omega
  · exact h1
  · rcases Nat.lt_trichotomy (f j) (f k) with h2 | h2 | h2
    · have := ahd_lt hj (Or.inl h2); omega
    · have := ahd_lt hk (Or.inr ⟨h2.symm, h1⟩); omega
    · have := ahd_lt hk (Or.inl h2); omega
theorem nrs_eq {f : Nat → Nat} {n : Nat} (hn : n ≤ 40) (w : Int32) : fromB (fun k => decide (nI (ahd f n k) = w)) n 0 = lastB (fun k => decide (nI (ahd f n k) = w)) n := by
  refine first_last (fun j k hj hk h1 h2 => ?_)
  simp only [decide_eq_true_eq] at h1 h2
  have a1 : ahd f n j ≤ n := ct_le _ _
  have a2 : ahd f n k ≤ n := ct_le _ _
  exact ahd_inj hj hk ((nI_eq (by omega) (by omega)).mp (h1.trans h2.symm))
theorem bt_stB {p : Nat → Bool} : ∀ {n : Nat}, n ≤ 64 → ∀ k, k < 64 → bt (stB p n) k = (decide (k < n) && p k)
  | 0, _, k, _ => by simp [stB, bt_0]
  | n + 1, hn, k, hk => by
    have ih := bt_stB (p := p) (n := n) (by omega) k hk
    rw [stB, bt_or, ih]
    by_cases hp : p n = true
    · rw [if_pos hp, bt_sh1 (by omega) hk]
      by_cases e : k = n
      · subst e; simp [hp]
      · have e2 : (k < n + 1) ↔ (k < n) := by omega
        simp [e, e2]
    · have hp : p n = false := by simpa using hp
      rw [if_neg (by rw [hp]; decide), bt_0]
      by_cases e : k = n
      · subst e; simp [hp]
      · have e2 : (k < n + 1) ↔ (k < n) := by omega
        simp [e2]
theorem ct_lim {p : Nat → Bool} {n : Nat} : ∀ {N : Nat}, n ≤ N → ct (fun k => decide (k < n) && p k) N = ct p n
  | 0, h => by rw [show n = 0 by omega]; rfl
  | N + 1, h => by
    rcases Nat.eq_or_lt_of_le h with e | e
    · rw [e]; exact ct_cong (fun k hk => by simp [hk])
    · rw [ct_f (by simp; omega), ct_lim (by omega)]
theorem pop_stB {p : Nat → Bool} {n : Nat} (hn : n ≤ 64) : pop (stB p n) = ct p n := by
  unfold pop
  rw [ct_cong (fun k hk => bt_stB hn k hk), ct_lim hn]
theorem first_lim {p : Nat → Bool} {n N : Nat} (h : n ≤ N) : fromB (fun k => decide (k < n) && p k) N 0 = fromB p n 0 := by
  rcases fromB_spec (p := fun k => decide (k < n) && p k) (d := N) (i := 0) with ⟨e, q⟩ | ⟨k, -, h2, h3, h4, e⟩ <;> rcases fromB_spec (p := p) (d := n) (i := 0) with ⟨e', q'⟩ | ⟨k', -, h2', h3', h4', e'⟩
  · rw [e, e']
  · have h5 := q k' (Nat.zero_le _) (by omega)
    have h6 : k' < n := by omega
    simp [h6, h3'] at h5
  · simp only [Bool.and_eq_true, decide_eq_true_eq] at h3
    have h5 := q' k (Nat.zero_le _) (by omega)
    rw [h3.2] at h5; cases h5
  · simp only [Bool.and_eq_true, decide_eq_true_eq] at h3
    rcases Nat.lt_trichotomy k k' with h5 | h5 | h5
    · have := h4' k (Nat.zero_le _) h5; rw [h3.2] at this; cases this
    · rw [e, e', h5]
    · have h6 := h4 k' (Nat.zero_le _) h5
      have h7 : k' < n := by omega
      simp [h7, h3'] at h6
theorem first_stB {p : Nat → Bool} {n : Nat} (hn : n ≤ 64) : fromB (bt (stB p n)) 64 0 = fromB p n 0 := by
  rw [fromB_cong (fun k _ hk => bt_stB hn k (by omega)), first_lim hn]
theorem lastD_eq {p : Nat → Bool} {n : Nat} : ∀ {i : Nat}, i ≤ n → lastD p n i = fromB p i (n - i)
  | 0, _ => rfl
  | i + 1, h => by
    rw [lastD, fromB, lastD_eq (by omega), show n - (i + 1) = n - i - 1 by omega, show n - i - 1 + 1 = n - i by omega]
theorem ctD_eq {p : Nat → Bool} {n : Nat} : ∀ {i : Nat}, i ≤ n → ctD p n i + ct p (n - i) = ct p n
  | 0, _ => by rw [ctD, Nat.zero_add]; rfl
  | i + 1, h => by
    have h1 := ctD_eq (p := p) (n := n) (i := i) (by omega)
    have h2 : ct p (n - i) = ct p (n - i - 1) + (p (n - i - 1)).toNat := by
      rw [show n - i = (n - i - 1) + 1 by omega]; rfl
    rw [ctD, show n - (i + 1) = n - i - 1 by omega]
    omega
theorem ctD_all {p : Nat → Bool} {n : Nat} : ctD p n n = ct p n := by
  have h := ctD_eq (p := p) (n := n) (i := n) (Nat.le_refl n)
  rw [Nat.sub_self] at h
  exact h
theorem lastD_all {p : Nat → Bool} {n : Nat} : lastD p n n = fromB p n 0 := by
  rw [lastD_eq (Nat.le_refl n), Nat.sub_self]
/-- a part alike: bit by bit, and by parts -/
theorem alZ_S {d : Int64} {lo b : Nat} (h : lo ≤ b) : alZ d lo (b + 1) = (alZ d lo b && !bt d b) := by
  unfold alZ
  rw [show b + 1 - lo = (b - lo) + 1 by omega]
  show (alB _ (b - lo) && !bt d (lo + (b - lo))) = _
  rw [show lo + (b - lo) = b by omega]
theorem alZ_0 (d : Int64) (b : Nat) : alZ d b b = true := by unfold alZ; rw [Nat.sub_self]; rfl
theorem en_at {x : Int64} {p : Nat} (h : p + 1 < pop x) : enM x p = kth x (p + 1) := by
  unfold enM; rw [if_neg (by simp; omega)]
theorem lk_inv {u c : Int64} (h0 : bt c 0 = true) : ∀ b, 1 ≤ b → b ≤ 64 → ((lkS u c b).1 = true ↔ ∃ p, p + 1 < ct (bt c) b ∧ alZ u (kth c p) (enM c p) = true) ∧ (lkS u c b).2 = alZ u (kth c (ct (bt c) b - 1)) b ∧ 1 ≤ ct (bt c) b
  | 0, h, _ => absurd h (by decide)
  | b + 1, _, hb => by
    rcases Nat.eq_zero_or_pos b with e | e
    · subst e
      have e1 : ct (bt c) (0 + 1) = 1 := by rw [ct_t h0]; rfl
      have e2 : kth c 0 = 0 := by
        have := kth_un (x := c) (b := 0) (by decide) h0
        exact this
      refine ⟨?_, ?_, ?_⟩
      · rw [e1]
        constructor
        · intro h; simp [lkS] at h
        · rintro ⟨p, h, -⟩; omega
      · rw [e1, show 1 - 1 = 0 from rfl, e2, alZ_S (Nat.le_refl 0), alZ_0]
        simp [lkS, h0]
      · rw [e1]; exact Nat.le_refl _
    · obtain ⟨i1, i2, i3⟩ := lk_inv (u := u) h0 b e (by omega)
      have hm := ct_mono (bt c) (show b + 1 ≤ 64 by omega)
      by_cases hc : bt c b = true
      · have e1 : ct (bt c) (b + 1) = ct (bt c) b + 1 := ct_t hc
        have e2 : kth c (ct (bt c) b) = b := kth_un (by omega) hc
        have hp : ct (bt c) b < pop c := by unfold pop; omega
        have e3 : enM c (ct (bt c) b - 1) = b := by rw [en_at (by omega), show ct (bt c) b - 1 + 1 = ct (bt c) b by omega, e2]
        refine ⟨?_, ?_, by omega⟩
        · have e4 : (lkS u c (b + 1)).1 = ((lkS u c b).1 || (lkS u c b).2) := by simp [lkS, e, hc]
          rw [e4, Bool.or_eq_true, i1, i2, e1]
          constructor
          · rintro (⟨p, h1, h2⟩ | h)
            · exact ⟨p, by omega, h2⟩
            · exact ⟨ct (bt c) b - 1, by omega, by rw [e3]; exact h⟩
          · rintro ⟨p, h1, h2⟩
            rcases Nat.lt_or_ge (p + 1) (ct (bt c) b) with h3 | h3
            · exact Or.inl ⟨p, h3, h2⟩
            · right
              rw [show p = ct (bt c) b - 1 by omega, e3] at h2; exact h2
        · have e4 : (lkS u c (b + 1)).2 = !bt u b := by simp [lkS, hc]
          rw [e4, e1, show ct (bt c) b + 1 - 1 = ct (bt c) b by omega, e2, alZ_S (Nat.le_refl b), alZ_0]; rfl
      · have hc : bt c b = false := by simpa using hc
        have e1 : ct (bt c) (b + 1) = ct (bt c) b := ct_f hc
        have hp : ct (bt c) b - 1 < pop c := by unfold pop; omega
        have e2 := kth_lt_of hp (show ct (bt c) b - 1 < ct (bt c) b by omega)
        refine ⟨?_, ?_, by omega⟩
        · have e4 : (lkS u c (b + 1)).1 = (lkS u c b).1 := by simp [lkS, hc]
          rw [e4, e1]; exact i1
        · have e4 : (lkS u c (b + 1)).2 = ((lkS u c b).2 && !bt u b) := by simp [lkS, hc]
          rw [e4, e1, i2, alZ_S (by omega)]
theorem alike_lk {x y c : Int64} (h0 : bt c 0 = true) : lk x y c = alikeC (x ^^^ y) c := by
  obtain ⟨i1, i2, i3⟩ := lk_inv (u := x ^^^ y) h0 64 (by decide) (Nat.le_refl _)
  have hp : ct (bt c) 64 = pop c := rfl
  rw [hp] at i1 i2 i3
  have hen : enM c (pop c - 1) = 64 := by unfold enM; rw [if_pos (by simp; omega)]
  unfold lk alikeC
  rcases hr : alB (fun p => !alZ (x ^^^ y) (kth c p) (enM c p)) (pop c) with _ | _
  · show _ = true
    rw [Bool.or_eq_true, i1, i2]
    have hn : ¬ ∀ p, p < pop c → (!alZ (x ^^^ y) (kth c p) (enM c p)) = true := fun q => by rw [alB_iff.mpr q] at hr; cases hr
    rcases Classical.not_forall.mp hn with ⟨p, hq⟩
    have hq2 : p < pop c ∧ alZ (x ^^^ y) (kth c p) (enM c p) = true := by
      by_cases h1 : p < pop c
      · refine ⟨h1, ?_⟩
        rcases h2 : alZ (x ^^^ y) (kth c p) (enM c p) with _ | _
        · exact absurd (fun _ => by rw [h2]; rfl) hq
        · rfl
      · exact absurd (fun h => absurd h h1) hq
    rcases Nat.lt_or_ge (p + 1) (pop c) with h3 | h3
    · exact Or.inl ⟨p, h3, hq2.2⟩
    · right
      have e : p = pop c - 1 := by omega
      rw [e, hen] at hq2
      exact hq2.2
  · show _ = false
    rw [alB_iff] at hr
    rw [Bool.or_eq_false_iff]
    constructor
    · rcases h1 : (lkS (x ^^^ y) c 64).1 with _ | _
      · rfl
      · obtain ⟨p, h2, h3⟩ := i1.mp h1
        have := hr p (by omega)
        rw [h3] at this; cases this
    · rw [i2]
      have := hr (pop c - 1) (by omega)
      rw [hen] at this
      simpa using this
