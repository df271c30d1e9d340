/-! pure words for the class: columns, groups, what is seen, the book -/
theorem stB_y {p : Nat → Bool} {k : Nat} (h : p k = true) : stB p (k + 1) = stB p k ||| shl 1 k := by rw [stB, if_pos h]
theorem stB_n {p : Nat → Bool} {k : Nat} (h : p k = false) : stB p (k + 1) = stB p k := by rw [stB, if_neg (by rw [h]; decide), or0]
def mstC (f : Nat → Nat) (c : Nat → Bool) : Nat → Nat
  | 0 => 0
  | j + 1 => if c j then (if decide (mstC f c j < cn f c (f j) j + 1) then cn f c (f j) j + 1 else mstC f c j) else mstC f c j
theorem mstC_y {f : Nat → Nat} {c : Nat → Bool} {j : Nat} (h : c j = true) : mstC f c (j + 1) = if decide (mstC f c j < cn f c (f j) j + 1) then cn f c (f j) j + 1 else mstC f c j := by rw [mstC, if_pos h]
theorem mstC_n {f : Nat → Nat} {c : Nat → Bool} {j : Nat} (h : c j = false) : mstC f c (j + 1) = mstC f c j := by rw [mstC, if_neg (by rw [h]; decide)]
theorem mstC_eq (f : Nat → Nat) (c : Nat → Bool) : ∀ j, mstC f c j = mst f c j
  | 0 => rfl
  | j + 1 => by
    have ih := mstC_eq f c j
    unfold mstC mst
    rw [ih]
    by_cases h : c j = true
    · rw [if_pos h, if_pos h]
      by_cases h1 : cn f c (f j) j + 1 ≤ mst f c j
      · have h2 : ¬ mst f c j < cn f c (f j) j + 1 := by omega
        simp [h1, h2]
      · have h2 : mst f c j < cn f c (f j) j + 1 := by omega
        simp [h1, h2]
    · rw [if_neg h, if_neg h]
theorem mstC_le (f : Nat → Nat) (c : Nat → Bool) (j : Nat) : mstC f c j ≤ j := by rw [mstC_eq]; exact mst_le f c j
theorem cn_noA {A : Nat} {f : Nat → Nat} {c : Nat → Bool} {j : Nat} {m : MI} (h : c j = false) (hr : ∀ t, t < 65 → m A t = nI (cn f c t j)) : ∀ t, t < 65 → m A t = nI (cn f c t (j + 1)) := by
  intro t ht
  rw [hr t ht]
  simp [cn, ct, h]
theorem cn_yesA {A : Nat} {f : Nat → Nat} {c : Nat → Bool} {j d : Nat} {m : MI} (h : c j = true) (hd : f j = d) (hr : ∀ t, t < 65 → m A t = nI (cn f c t j)) : ∀ t, t < 65 → u2 m A d (nI (cn f c d j + 1)) A t = nI (cn f c t (j + 1)) := by
  intro t ht
  rw [u2_s]
  by_cases e : t = d
  · subst e; rw [uf_s]; simp [cn, ct, h, hd]
  · rw [uf_n _ _ e, hr t ht]
    have e2 : ¬ f j = t := fun q => e (by rw [← q, hd])
    simp [cn, ct, e2]
theorem askS_y {g : Nat → Nat} {few m : Nat} (h : (askS g few m).1 ≤ g m) : askS g few (m + 1) = askS g few m := by
  rw [askS, if_pos (by simpa using h), if_pos (by simpa using h)]
theorem askS_n {g : Nat → Nat} {few m : Nat} (h : ¬ (askS g few m).1 ≤ g m) : askS g few (m + 1) = (g m, nI m) := by
  rw [askS, if_neg (by simpa using h), if_neg (by simpa using h)]
/-- columns -/
def colS (M : Nat → Int64) (b : Nat) : Nat → Int64
  | 0 => 0
  | k + 1 => colS M b k ||| shl (ushr (M k) b &&& 1) k
def allS (n : Nat) : Int64 := shl 1 n - 1
def deadC (M : Nat → Int64) (n b : Nat) : Bool := decide (colS M b n = 0) || decide (colS M b n = allS n)
def goC (M : Nat → Int64) (n a b : Nat) : Bool := !deadC M n a && (decide (colS M a n = colS M b n) || decide (colS M a n = allS n ^^^ colS M b n))
/-- groups by spreading -/
def clS (M : Nat → Int64) (n b j : Nat) : Int64 := stB (fun k => !decide (b < ds (M j) (M k))) n
def psS (cl : Nat → Int64) (s : Int64) : Nat → Int64
  | 0 => s
  | k + 1 => if bt (psS cl s k) k then psS cl s k ||| cl k else psS cl s k
theorem psS_y {cl : Nat → Int64} {s : Int64} {k : Nat} (h : bt (psS cl s k) k = true) : psS cl s (k + 1) = psS cl s k ||| cl k := by rw [psS, if_pos h]
theorem psS_n {cl : Nat → Int64} {s : Int64} {k : Nat} (h : bt (psS cl s k) k = false) : psS cl s (k + 1) = psS cl s k := by rw [psS, if_neg (by rw [h]; decide)]
def sprS (cl : Nat → Int64) (n : Nat) (s : Int64) : Nat → Int64
  | 0 => s
  | r + 1 => psS cl (sprS cl n s r) n
theorem sprS_fix {cl : Nat → Int64} {n : Nat} {s : Int64} {i : Nat} (h : psS cl (sprS cl n s i) n = sprS cl n s i) : ∀ d, sprS cl n s (i + d) = sprS cl n s i
  | 0 => rfl
  | d + 1 => by
    show psS cl (sprS cl n s (i + d)) n = _
    rw [sprS_fix h d, h]
def jnS (cl : Nat → Int64) (n : Nat) : Nat → Int64 × Nat
  | 0 => (0, 0)
  | k + 1 => if bt (jnS cl n k).1 k then jnS cl n k else ((jnS cl n k).1 ||| sprS cl n (cl k) n, (jnS cl n k).2 + 1)
theorem jnS_y {cl : Nat → Int64} {n k : Nat} (h : bt (jnS cl n k).1 k = true) : jnS cl n (k + 1) = jnS cl n k := by rw [jnS, if_pos h]
theorem jnS_n {cl : Nat → Int64} {n k : Nat} (h : bt (jnS cl n k).1 k = false) : jnS cl n (k + 1) = ((jnS cl n k).1 ||| sprS cl n (cl k) n, (jnS cl n k).2 + 1) := by rw [jnS, if_neg (by rw [h]; decide)]
theorem jnS_le (cl : Nat → Int64) (n : Nat) : ∀ k, (jnS cl n k).2 ≤ k
  | 0 => Nat.le_refl 0
  | k + 1 => by
    have h := jnS_le cl n k
    by_cases e : bt (jnS cl n k).1 k = true
    · rw [jnS_y e]; omega
    · rw [jnS_n (by simpa using e)]; show (jnS cl n k).2 + 1 ≤ k + 1; omega
theorem jnS_mono {cl : Nat → Int64} {n : Nat} : ∀ {a b : Nat}, a ≤ b → (jnS cl n a).2 ≤ (jnS cl n b).2 := by
  intro a b h
  induction b with
  | zero => rw [show a = 0 by omega]; exact Nat.le_refl _
  | succ b ih =>
    rcases Nat.lt_or_ge b a with h2 | h2
    · rw [show a = b + 1 by omega]; exact Nat.le_refl _
    · refine Nat.le_trans (ih h2) ?_
      by_cases e : bt (jnS cl n b).1 b = true
      · rw [jnS_y e]; exact Nat.le_refl _
      · rw [jnS_n (by simpa using e)]; exact Nat.le_succ _
def jnOK (z : ML) (cl : Nat → Int64) (n i : Nat) : Prop := ∀ k, k < i → bt (jnS cl n k).1 k = false → z 82 (jnS cl n k).2 = sprS cl n (cl k) n
theorem jnOK_y {z : ML} {cl : Nat → Int64} {n i : Nat} (hb : bt (jnS cl n i).1 i = true) (h : jnOK z cl n i) : jnOK z cl n (i + 1) := by
  intro k hk hf
  rcases Nat.lt_or_ge k i with q | q
  · exact h k q hf
  · rw [show k = i by omega] at hf; rw [hb] at hf; cases hf
theorem jnOK_n {z : ML} {cl : Nat → Int64} {n i : Nat} (hb : bt (jnS cl n i).1 i = false) (h : jnOK z cl n i) : jnOK (u2 z 82 (jnS cl n i).2 (sprS cl n (cl i) n)) cl n (i + 1) := by
  intro k hk hf
  rw [u2_s]
  rcases Nat.lt_or_ge k i with q | q
  · have h1 : (jnS cl n (k + 1)).2 ≤ (jnS cl n i).2 := jnS_mono q
    rw [jnS_n hf] at h1
    have h2 : (jnS cl n k).2 + 1 ≤ (jnS cl n i).2 := h1
    rw [uf_n _ _ (by omega)]; exact h k q hf
  · rw [show k = i by omega, uf_s]
def rgC (mi : MI) (ml : ML) (n : Nat) (B1 B2 : Nat → Nat) (e : Nat) : Bool := (isMk n (nI (B1 e)) && (isMk n (nI (B2 e)) && !decide (nI (B1 e) = nI (B2 e)))) && decide (nI (ds (ml 2 (B1 e)) (ml 2 (B2 e))) = mi 93 e)
theorem col_st {z : ML} {M : Nat → Int64} {n i : Nat} (h : ∀ b, b < i → z 85 b = colS M b n) (h2 : z 85 i = colS M i n) : ∀ b, b < i + 1 → z 85 b = colS M b n := by
  intro b hb
  rcases Nat.lt_or_ge b i with q | q
  · exact h b q
  · rw [show b = i by omega]; exact h2
theorem cl_st {z : ML} {f : Nat → Int64} {i : Nat} (h : ∀ b, b < i → z 83 b = f b) (h2 : z 83 i = f i) : ∀ b, b < i + 1 → z 83 b = f b := by
  intro b hb
  rcases Nat.lt_or_ge b i with q | q
  · exact h b q
  · rw [show b = i by omega]; exact h2
theorem row_kept {z : ML} {A i : Nat} {x : Int64} {f : Nat → Int64} (h : ∀ b, b < i → z A b = f b) : ∀ b, b < i → u2 z A i x A b = f b := by
  intro b hb; rw [u2_s, uf_n _ _ (by omega)]; exact h b hb
/-- even cuts: begin with bit 0, eight parts at most -/
theorem ev_ok : ∀ P, P < 9 → 1 ≤ P → ∀ h, h < 3 → bt (evS P h P).1 0 = true ∧ pop (evS P h P).1 ≤ 8 := by decide +kernel
theorem fromC_hit {p : Nat → Bool} {v : Nat → Int32} {e : Int32} {d i : Nat} (h : p i = true) : fromC p v e (d + 1) i = v i := by rw [fromC, if_pos h]
theorem fromC_miss {p : Nat → Bool} {v : Nat → Int32} {e : Int32} {d i : Nat} (h : p i = false) : fromC p v e (d + 1) i = fromC p v e d (i + 1) := by rw [fromC, if_neg (by rw [h]; decide)]
theorem turnO_lt {p P h : Nat} (hp : p < P) (hP : P ≤ 8) : turnO p P h < 2 ^ 31 := by
  unfold turnO; split
  · omega
  · split
    · omega
    · split <;> omega
