/-! pure words for NearMarks' own methods -/
theorem rng_in {q m : Nat} (h : q ≤ m) (hm : m < 2 ^ 31) : (!decide (nI q < 0) && !decide (nI m < nI q)) = true := by
  have e1 : ¬ nI q < 0 := nI_pos (by omega)
  have e2 : ¬ nI m < nI q := nI_nlt h hm
  simp [e1, e2]
theorem rng_out {x : Int32} {m : Nat} (h : x < nI 0 ∨ nI m < x) : (!decide (x < 0) && !decide (nI m < x)) = false := by
  rcases h with h | h
  · have h : x < 0 := h
    simp [h]
  · simp [h]
theorem isMk_of {n : Nat} {p : Int32} (h1 : ¬ p < 0) (h2 : p < nI n) : isMk n p = true := by
  rw [← isMk_cl]
  have e2 : ¬ nI n ≤ p := by rw [Int32.le_iff_toInt_le]; rw [Int32.lt_iff_toInt_lt] at h2; omega
  simp [h1, e2]
theorem raw_lo {x : Int32} {a b c : Nat} (ha : b < 2 ^ 31) (hb : c < 2 ^ 31) (e : c = b + 1) (h : x < nI a ∨ nI b < x) (h1 : ¬ x < nI a) (h2 : ¬ nI c ≤ x) : False := by
  rcases h with h | h
  · exact h1 h
  · rw [Int32.lt_iff_toInt_lt, nI_toInt ha] at h
    rw [Int32.le_iff_toInt_le, nI_toInt hb] at h2
    omega
theorem raw_le {x : Int32} {a b : Nat} (h : x < nI a ∨ nI b < x) (h1 : ¬ x < nI a) (h2 : x ≤ nI b) : False := by
  rcases h with h | h
  · exact h1 h
  · rw [Int32.lt_iff_toInt_lt] at h; rw [Int32.le_iff_toInt_le] at h2; omega
theorem raw_lt {x : Int32} {a b c : Nat} (ha : b < 2 ^ 31) (hb : c < 2 ^ 31) (e : c = b + 1) (h : x < nI a ∨ nI b < x) (h1 : ¬ x < nI a) (h2 : x < nI c) : False := by
  refine raw_lo ha hb e h h1 (fun q => ?_)
  rw [Int32.lt_iff_toInt_lt] at h2; rw [Int32.le_iff_toInt_le] at q; omega
def lookC (ml : ML) (P : Nat) (w : Int32) (k : Nat) : Bool := !decide (nI (ds (ml 2 k) (ml 1 0)) ≤ w) && anyP (ml 2 k ^^^ ml 1 0) (ml 77) P
def nrsC (ml : ML) (n : Nat) (w : Int32) : Int32 := fromB (fun k => decide (nI (ahd (fun q => ds (ml 2 q) (ml 1 0)) n k) = w)) n 0
def othC (ml : ML) (k r j : Nat) : Bool := !decide (j = k) && !decide (r < ds (ml 2 j) (ml 2 k))
def withC (ml : ML) (x : Int64) (k : Nat) : Bool := decide ((ml 2 k ^^^ ml 1 0) &&& x = 0)
def cbC (mi : MI) (ml : ML) (s k : Nat) : Bool := cb (ml 2 k) (ml 87) (mi 88) s
def toldC (mi : MI) (ml : ML) (n P s E : Nat) (B1 B2 : Nat → Nat) (q : Nat) : Int32 := match q with
  | 0 => nI n
  | 1 => nI P
  | 2 => nI (pop (ml 1 0))
  | 3 => fromB (fun k => decide (ml 2 k = ml 1 0)) n 0
  | 4 => nI (ct (lookC ml P (-1)) n)
  | 5 => nI (ct (lookC ml P (nI (P - 1))) n)
  | 6 => nrsC ml n (nI 0)
  | 7 => if isMk n (nrsC ml n (nI 0)) then nI (ds (ml 2 (nrsC ml n (nI 0)).toNatClampNeg) (ml 1 0)) else -1
  | 8 => nI (ct (deadC (ml 2) n) 64)
  | 9 => togR (goC (ml 2) n) 64 0
  | 10 => nI s
  | 11 => nI (pop (stB (cbC mi ml s) n))
  | 12 => fromB (bt (stB (cbC mi ml s) n)) 64 0
  | 13 => (askS (fun k => mstC (fun q => ds (ml 2 q) (ml 2 k)) (bt (stB (cbC mi ml s) n)) n) (pop (stB (cbC mi ml s) n)) n).2
  | 14 => nI E
  | 15 => fromB (fun e => !rgC mi ml n B1 B2 e) E 0
  | _ => mi 4 2
def markC (mi : MI) (ml : ML) (n P k q : Nat) : Int32 := match q with
  | 0 => mi 3 k
  | 1 => nI (pop (ml 2 k))
  | 2 => nI (ds (ml 2 k) (ml 1 0))
  | 3 => nI (ct (othC ml k (P - 1)) n)
  | _ => bI (anyP (ml 2 k ^^^ ml 1 0) (ml 77) P)
def partC (mi : MI) (ml : ML) (n p q : Nat) : Int32 := match q with
  | 0 => mi 76 p
  | 1 => nI (pop (ml 77 p))
  | _ => nI (ct (withC ml (ml 77 p)) n)
def nearQ (K : Int32) (d q P : Nat) : Bool := (!decide (q < d) && !decide (K = nI 1)) && (decide (K = 0) || (decide (P - 1 ≤ q) || !decide (q / 2 < d)))
theorem jn_ct (cl : Nat → Int64) (n : Nat) : ∀ i, ct (fun k => !bt (jnS cl n k).1 k) i = (jnS cl n i).2
  | 0 => rfl
  | i + 1 => by
    have ih := jn_ct cl n i
    by_cases e : bt (jnS cl n i).1 i = true
    · rw [ct_f (by simp [e]), jnS_y e, ih]
    · have e : bt (jnS cl n i).1 i = false := by simpa using e
      rw [ct_t (by simp [e]), jnS_n e, ih]
def rtC (cl : Nat → Int64) (n x : Nat) : Nat := kthP (fun k => !bt (jnS cl n k).1 k) n x
def setC (cl : Nat → Int64) (n x : Nat) : Int64 := sprS cl n (cl (rtC cl n x)) n
theorem set_at {z : ML} {cl : Nat → Int64} {n x : Nat} (h : jnOK z cl n n) (hx : x < (jnS cl n n).2) : z 82 x = setC cl n x := by
  rw [← jn_ct] at hx
  obtain ⟨h1, h2, h3⟩ := kthP_spec hx
  have h4 := h _ h1 (by simpa using h2)
  rw [← jn_ct] at h4
  unfold setC rtC
  rw [← h4, h3]
def grpC (ml : ML) (cl : Nat → Int64) (n x z : Nat) : Int32 := match z with
  | 0 => nI (pop (setC cl n x))
  | 1 => fromB (bt (setC cl n x)) 64 0
  | _ => nI (wdO (bt (setC cl n x)) (fun p q => ds (ml 2 p) (ml 2 q)) n n)
/-- drifts in the class -/
def lotHC (h : Int64) (z : Nat) : Int64 := if lotW z = 0 then rowsE (nxt (nxt (nxt z)) / 65536 % 256) 8 else if lotW z = 1 ∨ lotW z = 2 then h ^^^ shl 1 (nxt (nxt z) / 65536 % 64) else h
def putA (ml : ML) (n : Nat) : Bool := decide (n < 40) && decide (fromB (fun k => decide (ml 2 k = ml 1 0)) n 0 = -1)
def putI (mi : MI) (ml : ML) (n : Nat) : MI := if putA ml n then u2 (u2 mi 3 n (nI 0)) 1 2 (nI (n + 1)) else mi
def putL (ml : ML) (n : Nat) : ML := if putA ml n then u2 ml 2 n (ml 1 0) else ml
/-- pairs of the class's even cuts -/
def prO (M : Nat → Int64) (n : Nat) (mk : Nat → Int64) (c : Nat) : Nat → Nat
  | 0 => 0
  | j + 1 => prO M n mk c j + ct (fun t => anyP (M j ^^^ M (j + 1 + t)) mk c) (n - (j + 1))
theorem prO_le (M : Nat → Int64) (n : Nat) (mk : Nat → Int64) (c : Nat) : ∀ j, prO M n mk c j ≤ j * n
  | 0 => by simp [prO]
  | j + 1 => by
    have h1 := prO_le M n mk c j
    have h2 := ct_le (fun t => anyP (M j ^^^ M (j + 1 + t)) mk c) (n - (j + 1))
    show prO M n mk c j + ct (fun t => anyP (M j ^^^ M (j + 1 + t)) mk c) (n - (j + 1)) ≤ (j + 1) * n
    rw [Nat.succ_mul]; omega
