/-! class and reference: the same answers, part 4: cuts, looks, near, parts -/
theorem even_eq : ∀ P, P < 9 → 1 ≤ P → ∀ h, h < 3 → (evS P h P).1 = (cutS P h P).1 := by decide +kernel
def tri (A : Nat → Nat → Bool) (n : Nat) : Nat → Nat
  | 0 => 0
  | j + 1 => tri A n j + ct (fun t => A j (j + 1 + t)) (n - (j + 1))
def low (A : Nat → Nat → Bool) : Nat → Nat
  | 0 => 0
  | j + 1 => low A j + ct (fun k => A j k) j
def rec2 (A : Nat → Nat → Bool) (n : Nat) : Nat → Nat
  | 0 => 0
  | j + 1 => rec2 A n j + ct (fun k => A j k) n
theorem ct_ad2 (p : Nat → Bool) (a : Nat) : ∀ b, ct p (a + b) = ct p a + ct (fun t => p (a + t)) b
  | 0 => rfl
  | b + 1 => by
    show ct p (a + b) + (p (a + b)).toNat = ct p a + (ct (fun t => p (a + t)) b + (p (a + b)).toNat)
    rw [ct_ad2 p a b]; omega
theorem rec2_eq {A : Nat → Nat → Bool} {n : Nat} (hd : ∀ i, A i i = true) : ∀ j, j ≤ n → rec2 A n j = low A j + j + tri A n j
  | 0, _ => rfl
  | j + 1, h => by
    have ih := rec2_eq (A := A) (n := n) hd j (by omega)
    have e1 := ct_ad2 (fun k => A j k) (j + 1) (n - (j + 1))
    rw [show j + 1 + (n - (j + 1)) = n by omega] at e1
    have e2 : ct (fun k => A j k) (j + 1) = ct (fun k => A j k) j + 1 := ct_t (hd j)
    show rec2 A n j + ct (fun k => A j k) n = low A j + ct (fun k => A j k) j + (j + 1) + (tri A n j + ct (fun t => A j (j + 1 + t)) (n - (j + 1)))
    omega
theorem tri_S {A : Nat → Nat → Bool} {n : Nat} : ∀ j, j ≤ n → tri A (n + 1) j = tri A n j + ct (fun i => A i n) j
  | 0, _ => rfl
  | j + 1, h => by
    have ih := tri_S (A := A) (n := n) j (by omega)
    show tri A (n + 1) j + ct (fun t => A j (j + 1 + t)) (n + 1 - (j + 1)) = tri A n j + ct (fun t => A j (j + 1 + t)) (n - (j + 1)) + (ct (fun i => A i n) j + (A j n).toNat)
    rw [show n + 1 - (j + 1) = (n - (j + 1)) + 1 by omega]
    have e : ct (fun t => A j (j + 1 + t)) (n - (j + 1) + 1) = ct (fun t => A j (j + 1 + t)) (n - (j + 1)) + (A j n).toNat := by
      show ct (fun t => A j (j + 1 + t)) (n - (j + 1)) + (A j (j + 1 + (n - (j + 1)))).toNat = _
      rw [show j + 1 + (n - (j + 1)) = n by omega]
    omega
theorem tri_low {A : Nat → Nat → Bool} (hs : ∀ i j, A i j = A j i) : ∀ n, tri A n n = low A n
  | 0 => rfl
  | n + 1 => by
    have ih := tri_low hs n
    have e1 := tri_S (A := A) (n := n) n (Nat.le_refl n)
    show tri A (n + 1) n + ct (fun t => A n (n + 1 + t)) (n + 1 - (n + 1)) = low A n + ct (fun k => A n k) n
    rw [Nat.sub_self, e1, ih, ct_cong (fun i _ => hs i n)]
    rfl
theorem prX_tri {M : Nat → Int64} {n : Nat} {x : Int64} : ∀ j, prX M n x j = tri (fun i k => alikeC (M i ^^^ M k) x) n j
  | 0 => rfl
  | j + 1 => by
    show prX M n x j + _ = tri (fun i k => alikeC (M i ^^^ M k) x) n j + _
    rw [prX_tri j]
theorem looks_rec {M : Nat → Int64} {n : Nat} {x : Int64} (h0 : bt x 0 = true) : ∀ j, looksM M n x j = rec2 (fun i k => alikeC (M i ^^^ M k) x) n j
  | 0 => rfl
  | j + 1 => by
    show looksM M n x j + ct (fun k => lk (M j) (M k) x) n = rec2 (fun i k => alikeC (M i ^^^ M k) x) n j + ct (fun k => alikeC (M j ^^^ M k) x) n
    rw [looks_rec h0 j, ct_cong (fun k _ => alike_lk h0)]
theorem alike_self {x d : Int64} (h0 : bt x 0 = true) (hd : d = 0) : alikeC d x = true := by
  subst hd
  have hp := pop_pos h0
  unfold alikeC
  rcases hr : alB (fun p => !alZ 0 (kth x p) (enM x p)) (pop x) with _ | _
  · rfl
  · have := alB_iff.mp hr 0 (by omega)
    have h1 : alZ 0 (kth x 0) (enM x 0) = true := by
      unfold alZ; rw [alB_iff]; intro k _; rw [bt_0]; rfl
    rw [h1] at this; cases this
theorem looks_eq {M : Nat → Int64} {n : Nat} {x : Int64} (h0 : bt x 0 = true) : n + 2 * prX M n x n = looksM M n x n := by
  have h1 := rec2_eq (A := fun i k => alikeC (M i ^^^ M k) x) (n := n) (fun i => alike_self h0 (Int64.xor_self)) n (Nat.le_refl n)
  have h2 := tri_low (A := fun i k => alikeC (M i ^^^ M k) x) (fun i j => by rw [Int64.xor_comm]) n
  rw [looks_rec h0, h1, prX_tri, h2]; omega
theorem fewC_cong {f g : Nat → Nat} : ∀ {n : Nat}, (∀ h, h < n → f h = g h) → fewC f n = fewC g n
  | 0, _ => rfl
  | n + 1, h => by rw [fewC, fewC, fewC_cong (fun k hk => h k (by omega)), h n (by omega)]
theorem fewS_cong {f g : Nat → Nat} : ∀ {n : Nat}, (∀ h, h < n → f h = g h) → fewS f n = fewS g n
  | 0, _ => rfl
  | n + 1, h => by rw [fewS, fewS, fewS_cong (fun k hk => h k (by omega)), h n (by omega)]
theorem nI_ne_m1 {a : Nat} (h : a < 2 ^ 31) : ¬ nI a = -1 := by
  intro e
  have h1 : (0 : Int32) ≤ nI a := nI_pos' h
  rw [e] at h1
  exact absurd h1 (by decide)
theorem few_eq (f : Nat → Nat) : ∀ i, i < 5 → fewC f (i + 1) = ((fewS f (i + 1)).1, nI (fewS f (i + 1)).2)
  | 0, _ => by
    have e1 : fewC f (0 + 1) = (f 0, nI 0) := fewC_y rfl
    rw [e1]; rfl
  | i + 1, hi => by
    have ih := few_eq f i (by omega)
    have h2 := fewS2_le f (i + 1)
    have hne : ¬ nI (fewS f (i + 1)).2 = -1 := nI_ne_m1 (by omega)
    by_cases h : (fewS f (i + 1)).1 ≤ f (i + 1)
    · rw [fewC_n (by rw [ih]; simp [hne, h]), ih]
      rw [show fewS f (i + 1 + 1) = fewS f (i + 1) from by rw [fewS, if_neg (by simp; exact h), if_pos (by simp; exact h)]]
    · rw [fewC_y (by rw [ih]; simp only [hne, h, decide_false, Bool.not_false, Bool.or_true])]
      rw [show fewS f (i + 1 + 1) = (f (i + 1), i + 1) from by rw [fewS, if_pos (by simp; omega), if_neg (by simp; omega)]]
theorem near_eq {K : Int32} {d q c : Nat} (hK : K = nI 0 ∨ K = nI 1 ∨ K = nI 2) : nearQ K d q c = nearP K d q c := by
  unfold nearQ nearP
  rcases hK with rfl | rfl | rfl
  · rw [show decide (nI 0 = nI 1) = false from by decide, show decide (nI 0 = nI 2) = false from by decide, show decide (nI 0 = (0 : Int32)) = true from by decide]
    simp
  · rw [show decide (nI 1 = nI 1) = true from by decide]; simp
  · rw [show decide (nI 2 = nI 1) = false from by decide, show decide (nI 2 = nI 2) = true from by decide, show decide (nI 2 = (0 : Int32)) = false from by decide]
    simp
/-- a part's bits -/
theorem ct_int {lo hi : Nat} : ∀ {N : Nat}, lo ≤ hi → hi ≤ N → ct (fun j => decide (lo ≤ j) && decide (j < hi)) N = hi - lo
  | 0, h1, h2 => by show 0 = hi - lo; omega
  | N + 1, h1, h2 => by
    rcases Nat.eq_or_lt_of_le h2 with e | e
    · subst e
      rcases Nat.eq_or_lt_of_le h1 with e2 | e2
      · subst e2
        rw [ct_f (by simp)]
        rw [ct_cong (q := fun _ => false) (fun k hk => by simp <;> omega)]
        have : ∀ m, ct (fun _ => false) m = 0 := fun m => by induction m with
          | zero => rfl
          | succ m ih => rw [ct_f rfl, ih]
        rw [this]; omega
      · rw [ct_t (by simp; omega)]
        have := ct_int (lo := lo) (hi := N) (N := N) (by omega) (Nat.le_refl _)
        rw [ct_cong (q := fun j => decide (lo ≤ j) && decide (j < N)) (fun k hk => by
          have h3 : k < N + 1 := by omega
          simp [hk, h3]), this]; omega
    · rw [ct_f (by simp; omega), ct_int h1 (by omega)]
theorem pop_mask {x M : Int64} {p : Nat} (hp : p < pop x) (hM : ∀ j, j < 64 → bt M j = (decide (kth x p ≤ j) && decide (j < enM x p))) : pop M = enM x p - kth x p := by
  unfold pop
  rw [ct_cong (fun k hk => hM k hk)]
  exact ct_int (Nat.le_of_lt (enM_gt hp)) (enM_le x p)
theorem with_eq {x M a h : Int64} {p : Nat} (hM : ∀ j, j < 64 → bt M j = (decide (kth x p ≤ j) && decide (j < enM x p))) : decide ((a ^^^ h) &&& M = 0) = alB (fun t => decide (bt a (kth x p + t) = bt h (kth x p + t))) (enM x p - kth x p) := by
  rw [and_zero (enM_le x p) hM]
  unfold alZ
  refine alB_cong (fun t _ => ?_)
  rw [bt_xor]
  rcases bt a (kth x p + t) with _ | _ <;> rcases bt h (kth x p + t) with _ | _ <;> rfl
