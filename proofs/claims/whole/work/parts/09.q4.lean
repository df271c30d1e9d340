/-! pure words for NearMarks' own methods -/
theorem rng_in {q m : Nat} (h : q ≤ m) (hm : m < 2 ^ 31) : (!decide (nI q < 0) && !decide (nI m < nI q)) = true := by
  have e1 : ¬ nI q < 0 := nI_pos (by omega)
  have e2 : ¬ nI m < nI q := nI_nlt h hm
  simp [e1, e2]
theorem rng_out {x : Int32} {m : Nat} (h : x < nI 0 ∨ nI m < x) : (!decide (x < 0) && !decide (nI m < x)) = false := by
  rcases h with h | h
  · have h : x < 0 := h
    simp [h]
  · simp [h]
theorem isMk_of {n : Nat} {p : Int32} (h1 : ¬ p < 0) (h2 : p < nI n) : isMk n p = true := by
  rw [← isMk_cl]
  have e2 : ¬ nI n ≤ p := by rw [Int32.le_iff_toInt_le]; rw [Int32.lt_iff_toInt_lt] at h2; omega
  simp [h1, e2]
theorem raw_lo {x : Int32} {a b c : Nat} (ha : b < 2 ^ 31) (hb : c < 2 ^ 31) (e : c = b + 1) (h : x < nI a ∨ nI b < x) (h1 : ¬ x < nI a) (h2 : ¬ nI c ≤ x) : False := by
  rcases h with h | h
  · exact h1 h
  · rw [Int32.lt_iff_toInt_lt, nI_toInt ha] at h
    rw [Int32.le_iff_toInt_le, nI_toInt hb] at h2
    omega
theorem raw_le {x : Int32} {a b : Nat} (h : x < nI a ∨ nI b < x) (h1 : ¬ x < nI a) (h2 : x ≤ nI b) : False := by
  rcases h with h | h
  · exact h1 h
  · rw [Int32.lt_iff_toInt_lt] at h; rw [Int32.le_iff_toInt_le] at h2; omega
theorem raw_lt {x : Int32} {a b c : Nat} (ha : b < 2 ^ 31) (hb : c < 2 ^ 31) (e : c = b + 1) (h : x < nI a ∨ nI b < x) (h1 : ¬ x < nI a) (h2 : x < nI c) : False := by
  refine raw_lo ha hb e h h1 (fun q => ?_)
  rw [Int32.lt_iff_toInt_lt] at h2; rw [Int32.le_iff_toInt_le] at q; omega
def lookC (ml : ML) (P : Nat) (w : Int32) (k : Nat) : Bool := !decide (nI (ds (ml 2 k) (ml 1 0)) ≤ w) && anyP (ml 2 k ^^^ ml 1 0) (ml 77) P
def nrsC (ml : ML) (n : Nat) (w : Int32) : Int32 := fromB (fun k => decide (nI (ahd (fun q => ds (ml 2 q) (ml 1 0)) n k) = w)) n 0
def othC (ml : ML) (k r j : Nat) : Bool := !decide (j = k) && !decide (r < ds (ml 2 j) (ml 2 k))
def withC (ml : ML) (x : Int64) (k : Nat) : Bool := decide ((ml 2 k ^^^ ml 1 0) &&& x = 0)
def cbC (mi : MI) (ml : ML) (s k : Nat) : Bool := cb (ml 2 k) (ml 87) (mi 88) s
def toldC (mi : MI) (ml : ML) (n P s E : Nat) (B1 B2 : Nat → Nat) (q : Nat) : Int32 := match q with
  | 0 => nI n
  | 1 => nI P
  | 2 => nI (pop (ml 1 0))
  | 3 => fromB (fun k => decide (ml 2 k = ml 1 0)) n 0
  | 4 => nI (ct (lookC ml P (-1)) n)
  | 5 => nI (ct (lookC ml P (nI (P - 1))) n)
  | 6 => nrsC ml n (nI 0)
  | 7 => if isMk n (nrsC ml n (nI 0)) then nI (ds (ml 2 (nrsC ml n (nI 0)).toNatClampNeg) (ml 1 0)) else -1
  | 8 => nI (ct (deadC (ml 2) n) 64)
  | 9 => togR (goC (ml 2) n) 64 0
  | 10 => nI s
  | 11 => nI (pop (stB (cbC mi ml s) n))
  | 12 => fromB (bt (stB (cbC mi ml s) n)) 64 0
  | 13 => (askS (fun k => mstC (fun q => ds (ml 2 q) (ml 2 k)) (bt (stB (cbC mi ml s) n)) n) (pop (stB (cbC mi ml s) n)) n).2
  | 14 => nI E
  | 15 => fromB (fun e => !rgC mi ml n B1 B2 e) E 0
  | _ => mi 4 2
def markC (mi : MI) (ml : ML) (n P k q : Nat) : Int32 := match q with
  | 0 => mi 3 k
  | 1 => nI (pop (ml 2 k))
  | 2 => nI (ds (ml 2 k) (ml 1 0))
  | 3 => nI (ct (othC ml k (P - 1)) n)
  | _ => bI (anyP (ml 2 k ^^^ ml 1 0) (ml 77) P)
def partC (mi : MI) (ml : ML) (n p q : Nat) : Int32 := match q with
  | 0 => mi 76 p
  | 1 => nI (pop (ml 77 p))
  | _ => nI (ct (withC ml (ml 77 p)) n)
def nearQ (K : Int32) (d q P : Nat) : Bool := (!decide (q < d) && !decide (K = nI 1)) && (decide (K = 0) || (decide (P - 1 ≤ q) || !decide (q / 2 < d)))
theorem jn_ct (cl : Nat → Int64) (n : Nat) : ∀ i, ct (fun k => !bt (jnS cl n k).1 k) i = (jnS cl n i).2
  | 0 => rfl
  | i + 1 => by
    have ih := jn_ct cl n i
    by_cases e : bt (jnS cl n i).1 i = true
    · rw [ct_f (by simp [e]), jnS_y e, ih]
    · have e : bt (jnS cl n i).1 i = false := by simpa using e
      rw [ct_t (by simp [e]), jnS_n e, ih]
def rtC (cl : Nat → Int64) (n x : Nat) : Nat := kthP (fun k => !bt (jnS cl n k).1 k) n x
def setC (cl : Nat → Int64) (n x : Nat) : Int64 := sprS cl n (cl (rtC cl n x)) n
theorem set_at {z : ML} {cl : Nat → Int64} {n x : Nat} (h : jnOK z cl n n) (hx : x < (jnS cl n n).2) : z 82 x = setC cl n x := by
  rw [← jn_ct] at hx
  obtain ⟨h1, h2, h3⟩ := kthP_spec hx
  have h4 := h _ h1 (by simpa using h2)
  rw [← jn_ct] at h4
  unfold setC rtC
  rw [← h4, h3]
def grpC (ml : ML) (cl : Nat → Int64) (n x z : Nat) : Int32 := match z with
  | 0 => nI (pop (setC cl n x))
  | 1 => fromB (bt (setC cl n x)) 64 0
  | _ => nI (wdO (bt (setC cl n x)) (fun p q => ds (ml 2 p) (ml 2 q)) n n)
/-- drifts in the class -/
def lotHC (h : Int64) (z : Nat) : Int64 := if lotW z = 0 then rowsE (nxt (nxt (nxt z)) / 65536 % 256) 8 else if lotW z = 1 ∨ lotW z = 2 then h ^^^ shl 1 (nxt (nxt z) / 65536 % 64) else h
def putA (ml : ML) (n : Nat) : Bool := decide (n < 40) && decide (fromB (fun k => decide (ml 2 k = ml 1 0)) n 0 = -1)
def putI (mi : MI) (ml : ML) (n : Nat) : MI := if putA ml n then u2 (u2 mi 3 n (nI 0)) 1 2 (nI (n + 1)) else mi
def putL (ml : ML) (n : Nat) : ML := if putA ml n then u2 ml 2 n (ml 1 0) else ml
/-- pairs of the class's even cuts -/
def prO (M : Nat → Int64) (n : Nat) (mk : Nat → Int64) (c : Nat) : Nat → Nat
  | 0 => 0
  | j + 1 => prO M n mk c j + ct (fun t => anyP (M j ^^^ M (j + 1 + t)) mk c) (n - (j + 1))
theorem prO_le (M : Nat → Int64) (n : Nat) (mk : Nat → Int64) (c : Nat) : ∀ j, prO M n mk c j ≤ j * n
  | 0 => by simp [prO]
  | j + 1 => by
    have h1 := prO_le M n mk c j
    have h2 := ct_le (fun t => anyP (M j ^^^ M (j + 1 + t)) mk c) (n - (j + 1))
    show prO M n mk c j + ct (fun t => anyP (M j ^^^ M (j + 1 + t)) mk c) (n - (j + 1)) ≤ (j + 1) * n
    rw [Nat.succ_mul]; omega
/-- one time by draws in the class, and n times -/
def lcI (mi : MI) (ml : ML) (nx c n z : Nat) : MI := putI (u2 (remI mi nx c n) 94 0 (nI (lotZ z))) (u2 (remL ml nx n) 1 0 (lotHC (ml 1 0) z)) n
def lcL (ml : ML) (nx n z : Nat) : ML := putL (u2 (remL ml nx n) 1 0 (lotHC (ml 1 0) z)) n
def nxP (nx : Nat) : Nat := if decide (20 ≤ nx + 1) then 0 else nx + 1
def cP (c : Nat) : Nat := if decide (20 < c + 1) then 20 else c + 1
def nP (ml : ML) (nx n z : Nat) : Nat := if putA (u2 (remL ml nx n) 1 0 (lotHC (ml 1 0) z)) n then n + 1 else n
theorem nxP_lt {nx : Nat} (h : nx < 20) : nxP nx < 20 := by unfold nxP; split <;> simp_all <;> omega
theorem cP_le {c : Nat} (h : c ≤ 20) : cP c ≤ 20 := by unfold cP; split <;> simp_all <;> omega
theorem putA_lt {ml : ML} {n : Nat} (h : putA ml n = true) : n < 40 := by unfold putA at h; simp at h; exact h.1
theorem nP_le {ml : ML} {nx n z : Nat} (h : n ≤ 40) : nP ml nx n z ≤ 40 := by
  unfold nP; split
  · rename_i q; have := putA_lt q; omega
  · exact h
def dcS (mi : MI) (ml : ML) (nx c n z : Nat) : Nat → MI × ML × Nat × Nat × Nat × Nat
  | 0 => (mi, ml, nx, c, n, z)
  | i + 1 => (lcI (dcS mi ml nx c n z i).1 (dcS mi ml nx c n z i).2.1 (dcS mi ml nx c n z i).2.2.1 (dcS mi ml nx c n z i).2.2.2.1 (dcS mi ml nx c n z i).2.2.2.2.1 (dcS mi ml nx c n z i).2.2.2.2.2,
      lcL (dcS mi ml nx c n z i).2.1 (dcS mi ml nx c n z i).2.2.1 (dcS mi ml nx c n z i).2.2.2.2.1 (dcS mi ml nx c n z i).2.2.2.2.2,
      nxP (dcS mi ml nx c n z i).2.2.1, cP (dcS mi ml nx c n z i).2.2.2.1, nP (dcS mi ml nx c n z i).2.1 (dcS mi ml nx c n z i).2.2.1 (dcS mi ml nx c n z i).2.2.2.2.1 (dcS mi ml nx c n z i).2.2.2.2.2, lotZ (dcS mi ml nx c n z i).2.2.2.2.2)
theorem putI_n (mi : MI) (ml : ML) {n t : Nat} (h1 : t ≠ 1) (h3 : t ≠ 3) : putI mi ml n t = mi t := by
  unfold putI; split
  · rw [u2_n _ _ _ h1, u2_n _ _ _ h3]
  · rfl
theorem putI_c {mi : MI} {ml : ML} {n : Nat} (h : mi 1 2 = nI n) : putI mi ml n 1 2 = nI (if putA ml n then n + 1 else n) := by
  unfold putI; split
  · rw [u2_s, uf_s]
  · exact h
def okC (mi : MI) (nx c n z : Nat) : Prop := mi 4 1 = nI nx ∧ nx < 20 ∧ mi 4 2 = nI c ∧ c ≤ 20 ∧ mi 1 2 = nI n ∧ n ≤ 40 ∧ mi 94 0 = nI z ∧ z < 2147483648
theorem lc_ok {mi : MI} {ml : ML} {nx c n z : Nat} (h : okC mi nx c n z) : okC (lcI mi ml nx c n z) (nxP nx) (cP c) (nP ml nx n z) (lotZ z) := by
  obtain ⟨h1, h2, h3, h4, h5, h6, h7, h8⟩ := h
  unfold lcI
  refine ⟨?_, nxP_lt h2, ?_, cP_le h4, ?_, nP_le h6, ?_, lotZ_lt z⟩
  · rw [putI_n _ _ (by decide) (by decide), u2_n _ _ _ (by decide)]; unfold remI; rw [u2_s, uf_n _ _ (by decide), u2_s, uf_s]; rfl
  · rw [putI_n _ _ (by decide) (by decide), u2_n _ _ _ (by decide)]; unfold remI; rw [u2_s, uf_s]; rfl
  · rw [putI_c (n := n) (by rw [u2_n _ _ _ (by decide), remI_n _ (by omega) (by omega) (by decide)]; exact h5)]; rfl
  · rw [putI_n _ _ (by decide) (by decide), u2_s, uf_s]
theorem dc_ok {mi : MI} {ml : ML} {nx c n z : Nat} (h : okC mi nx c n z) : ∀ i, okC (dcS mi ml nx c n z i).1 (dcS mi ml nx c n z i).2.2.1 (dcS mi ml nx c n z i).2.2.2.1 (dcS mi ml nx c n z i).2.2.2.2.1 (dcS mi ml nx c n z i).2.2.2.2.2
  | 0 => h
  | i + 1 => lc_ok (dc_ok h i)
def fewC (f : Nat → Nat) : Nat → Nat × Int32
  | 0 => (0, -1)
  | h + 1 => if (decide ((fewC f h).2 = -1) || !decide ((fewC f h).1 ≤ f h)) then (f h, nI h) else fewC f h
theorem fewC_y {f : Nat → Nat} {h : Nat} (e : (decide ((fewC f h).2 = -1) || !decide ((fewC f h).1 ≤ f h)) = true) : fewC f (h + 1) = (f h, nI h) := by rw [fewC, if_pos e]
theorem fewC_n {f : Nat → Nat} {h : Nat} (e : (decide ((fewC f h).2 = -1) || !decide ((fewC f h).1 ≤ f h)) = false) : fewC f (h + 1) = fewC f h := by rw [fewC, if_neg (by rw [e]; decide)]
theorem fewC_le {f : Nat → Nat} {B : Nat} (hf : ∀ i, f i ≤ B) : ∀ i, (fewC f i).1 ≤ B
  | 0 => Nat.zero_le _
  | i + 1 => by
    rcases e : (decide ((fewC f i).2 = -1) || !decide ((fewC f i).1 ≤ f i)) with _ | _
    · rw [fewC_n e]; exact fewC_le hf i
    · rw [fewC_y e]; exact hf i
/-- a part alike, by the cut itself -/
def alZ (d : Int64) (lo hi : Nat) : Bool := alB (fun t => !bt d (lo + t)) (hi - lo)
def alikeC (d x : Int64) : Bool := !alB (fun p => !alZ d (kth x p) (enM x p)) (pop x)
theorem and_zero {d M : Int64} {lo hi : Nat} (hh : hi ≤ 64) (hM : ∀ j, j < 64 → bt M j = (decide (lo ≤ j) && decide (j < hi))) : decide (d &&& M = 0) = alZ d lo hi := by
  rcases e : alZ d lo hi with _ | _
  · simp only [decide_eq_false_iff_not]
    intro h0
    have : alZ d lo hi = true := by
      unfold alZ
      rw [alB_iff]
      intro t ht
      have h1 := congrArg (fun z => bt z (lo + t)) h0
      simp only [bt_and, bt_0, hM (lo + t) (by omega)] at h1
      have h2 : lo + t < hi := by omega
      simp [h2] at h1
      simp [h1]
    rw [e] at this; cases this
  · simp only [decide_eq_true_eq]
    unfold alZ at e
    rw [alB_iff] at e
    apply bt_ext
    intro j hj
    rw [bt_and, bt_0, hM j hj]
    by_cases h1 : lo ≤ j
    · by_cases h2 : j < hi
      · have := e (j - lo) (by omega)
        rw [show lo + (j - lo) = j by omega] at this
        simp at this
        simp [this]
      · simp [h2]
    · simp [h1]
theorem alB_cong {p q : Nat → Bool} : ∀ {n : Nat}, (∀ k, k < n → p k = q k) → alB p n = alB q n
  | 0, _ => rfl
  | n + 1, h => by
    show (alB p n && p n) = (alB q n && q n)
    rw [alB_cong (fun k hk => h k (by omega)), h n (by omega)]
theorem any_alike {m : MI} {z : ML} {a : Nat} {x : Int64} (h : PtOK m z a x) (d : Int64) : anyP d (z (a + 2)) (pop x) = alikeC d x := by
  unfold anyP alikeC
  rw [alB_cong (fun p hp => by rw [and_zero (enM_le x p) (h.2.2 p hp)])]
def prX (M : Nat → Int64) (n : Nat) (x : Int64) : Nat → Nat
  | 0 => 0
  | j + 1 => prX M n x j + ct (fun t => alikeC (M j ^^^ M (j + 1 + t)) x) (n - (j + 1))
theorem pr_eq {m : MI} {z : ML} {a : Nat} {x : Int64} (h : PtOK m z a x) (M : Nat → Int64) (n : Nat) : ∀ j, prO M n (z (a + 2)) (pop x) j = prX M n x j
  | 0 => rfl
  | j + 1 => by
    show prO M n (z (a + 2)) (pop x) j + ct (fun t => anyP (M j ^^^ M (j + 1 + t)) (z (a + 2)) (pop x)) (n - (j + 1)) = prX M n x j + ct (fun t => alikeC (M j ^^^ M (j + 1 + t)) x) (n - (j + 1))
    rw [pr_eq h M n j, ct_cong (fun t _ => any_alike h _)]
theorem pr40 (M : Nat → Int64) {n : Nat} (hn : n ≤ 40) (mk : Nat → Int64) (c : Nat) {j : Nat} (hj : j ≤ n) : prO M n mk c j ≤ 1600 := by
  have h1 := prO_le M n mk c j
  have h2 : j * n ≤ 40 * 40 := Nat.mul_le_mul (by omega) hn
  omega
theorem prX_le (M : Nat → Int64) {n : Nat} (hn : n ≤ 40) (x : Int64) : ∀ {j : Nat}, j ≤ n → prX M n x j ≤ j * n
  | 0, _ => by simp [prX]
  | j + 1, h => by
    have h1 := prX_le M hn x (show j ≤ n by omega)
    have h2 := ct_le (fun t => alikeC (M j ^^^ M (j + 1 + t)) x) (n - (j + 1))
    show prX M n x j + ct (fun t => alikeC (M j ^^^ M (j + 1 + t)) x) (n - (j + 1)) ≤ (j + 1) * n
    rw [Nat.succ_mul]; omega
theorem prX40 (M : Nat → Int64) {n : Nat} (hn : n ≤ 40) (x : Int64) : n + 2 * prX M n x n ≤ 3240 := by
  have h1 := prX_le M hn x (Nat.le_refl n)
  have h2 : n * n ≤ 40 * 40 := Nat.mul_le_mul hn hn
  omega
