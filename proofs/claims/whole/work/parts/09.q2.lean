/-! pure facts for the class: pictures, the past's ring, parts -/
theorem turn_y {x : Int64} {r c : Nat} (hc : c < 8) (h : bt x (8 * r + c) = true) : turnS x (8 * r + c + 1) = turnS x (8 * r + c) ||| shl 1 (8 * c + (7 - r)) ∨ 8 ≤ r := by
  rcases Nat.lt_or_ge r 8 with hr | hr
  · left
    rw [turnS, if_pos h, show 8 * ((8 * r + c) % 8) + 7 - (8 * r + c) / 8 = 8 * c + (7 - r) by omega]
  · right; exact hr
theorem turn_n {x : Int64} {b : Nat} (h : bt x b = false) : turnS x (b + 1) = turnS x b := by
  rw [turnS, if_neg (by rw [h]; decide), or0]
theorem mir_y {x : Int64} {r c : Nat} (hc : c < 8) (h : bt x (8 * r + c) = true) : mirS x (8 * r + c + 1) = mirS x (8 * r + c) ||| shl 1 (8 * r + (7 - c)) := by
  rw [mirS, if_pos h, show (8 * r + c) / 8 * 8 + 7 - (8 * r + c) % 8 = 8 * r + (7 - c) by omega]
theorem mir_n {x : Int64} {b : Nat} (h : bt x b = false) : mirS x (b + 1) = mirS x b := by
  rw [mirS, if_neg (by rw [h]; decide), or0]
theorem sub_add20 {a b : Nat} (h : b ≤ a + 20) : nI a - nI b + nI 20 = nI (a + 20 - b) := by
  rw [← pk_sub h, ← nI_add, Int32.sub_eq_add_neg, Int32.sub_eq_add_neg, Int32.add_assoc, Int32.add_comm (-nI b), ← Int32.add_assoc]
def bkN (nx q : Nat) : Nat := if decide (nx < q) then nx + 20 - q else nx - q
theorem bkN_lt {nx q : Nat} (h : nx < 20) (hq : q ≤ 20) (h1 : 1 ≤ q) : bkN nx q < 20 := by
  unfold bkN; split
  · rename_i h2; simp at h2; omega
  · omega
/-- a store becomes another -/
def bcI (mi : MI) (a b n : Nat) : MI := cpL (u2 mi a 2 (nI n)) (a + 2) 0 (b + 2) 0 n
def bcL (ml : ML) (a b n : Nat) : ML := cpL (u2 (u2 ml a 0 (ml b 0)) a 1 (ml b 1)) (a + 1) 0 (b + 1) 0 n
theorem bcI_n (mi : MI) {a b n t : Nat} (h : t ≠ a) (h2 : t ≠ a + 2) : bcI mi a b n t = mi t := by unfold bcI; rw [cpL_n _ h2, u2_n _ _ _ h]
theorem bcL_n (ml : ML) {a b n t : Nat} (h : t ≠ a) (h2 : t ≠ a + 1) : bcL ml a b n t = ml t := by unfold bcL; rw [cpL_n _ h2, u2_n _ _ _ h, u2_n _ _ _ h]
def remI (mi : MI) (nx c n : Nat) : MI := u2 (u2 (bcI mi (6 + 3 * nx) 1 n) 4 1 (nI (if decide (20 ≤ nx + 1) then 0 else nx + 1))) 4 2 (nI (if decide (20 < c + 1) then 20 else c + 1))
def remL (ml : ML) (nx n : Nat) : ML := bcL ml (6 + 3 * nx) 1 n
theorem remI_n (mi : MI) {nx c n t : Nat} (h : t ≠ 6 + 3 * nx) (h2 : t ≠ 6 + 3 * nx + 2) (h3 : t ≠ 4) : remI mi nx c n t = mi t := by unfold remI; rw [u2_n _ _ _ h3, u2_n _ _ _ h3, bcI_n _ h h2]
theorem remL_n (ml : ML) {nx n t : Nat} (h : t ≠ 6 + 3 * nx) (h2 : t ≠ 6 + 3 * nx + 1) : remL ml nx n t = ml t := bcL_n _ h h2
/-- parts as a cut says -/
def PtOK (mi : MI) (ml : ML) (a : Nat) (x : Int64) : Prop := mi a 2 = nI (pop x) ∧ (∀ p, p < pop x → mi (a + 1) p = nI (kth x p)) ∧ ∀ p, p < pop x → ∀ j, j < 64 → bt (ml (a + 2) p) j = (decide (kth x p ≤ j) && decide (j < enM x p))
theorem kth_un {x : Int64} {b : Nat} (hb : b < 64) (h : bt x b = true) : kth x (ct (bt x) b) = b := by
  have h1 : ct (bt x) b < pop x := by
    have := ct_mono (bt x) (show b + 1 ≤ 64 by omega)
    have e : ct (bt x) (b + 1) = ct (bt x) b + 1 := ct_t h
    unfold pop; omega
  obtain ⟨a1, a2, a3⟩ := kth_spec h1
  rcases Nat.lt_trichotomy (kth x (ct (bt x) b)) b with q | q | q
  · have := ct_mono (bt x) (show kth x (ct (bt x) b) + 1 ≤ b by omega)
    rw [ct_t a2] at this; omega
  · exact q
  · have := ct_mono (bt x) (show b + 1 ≤ kth x (ct (bt x) b) by omega)
    rw [ct_t h] at this; omega
theorem kth_ge {x : Int64} {p i : Nat} (hp : p < pop x) (h : ct (bt x) i ≤ p) : i ≤ kth x p := by
  obtain ⟨a1, a2, a3⟩ := kth_spec hp
  rcases Nat.lt_or_ge (kth x p) i with q | q
  · have := ct_mono (bt x) (show kth x p + 1 ≤ i by omega)
    rw [ct_t a2] at this; omega
  · exact q
theorem kth_lt_of {x : Int64} {p i : Nat} (hp : p < pop x) (h : p < ct (bt x) i) : kth x p < i := by
  obtain ⟨a1, a2, a3⟩ := kth_spec hp
  rcases Nat.lt_or_ge (kth x p) i with q | q
  · exact q
  · have := ct_mono (bt x) q
    omega
theorem en_gt {x : Int64} {p i : Nat} (hi : i < 64) (h : ct (bt x) (i + 1) ≤ p + 1) : i < enM x p := by
  unfold enM; split
  · exact hi
  · rename_i h2; simp at h2; exact kth_ge h2 h
theorem en_le {x : Int64} {p i : Nat} (hi : i ≤ 64) (h : p + 1 < ct (bt x) i) : enM x p < i := by
  have h0 := ct_mono (bt x) hi
  unfold enM; split
  · rename_i h2; simp at h2; unfold pop at h2; omega
  · rename_i h2; simp at h2; exact kth_lt_of h2 h
theorem bt_sh1 {i j : Nat} (hi : i < 64) (hj : j < 64) : bt (shl 1 i) j = decide (j = i) := by
  rw [bt_shl 1 hi hj, bt_1]
  by_cases h : j = i
  · subst h; simp
  · by_cases h2 : i ≤ j
    · have : ¬ j - i = 0 := by omega
      simp [h, this]
    · simp [h, h2]
/-- masks while they are laid: up to bit i -/
def mkP (x : Int64) (i p j : Nat) : Bool := decide (kth x p ≤ j) && (decide (j < i) && decide (j < enM x p))
theorem mk_old {x : Int64} {i p j : Nat} (hi : i < 64) (h : p + 1 < ct (bt x) (i + 1)) : mkP x (i + 1) p j = mkP x i p j := by
  unfold mkP
  have := en_le (show i + 1 ≤ 64 by omega) h
  by_cases h1 : j < enM x p
  · have h2 : j < i := by omega
    have h3 : j < i + 1 := by omega
    simp [h1, h2, h3]
  · simp [h1]
theorem mk_cur {x : Int64} {i p j : Nat} (hi : i < 64) (hj : j < 64) (hp : p + 1 = ct (bt x) (i + 1)) {M : Int64} (hM : bt M j = mkP x i p j) : bt (M ||| shl 1 i) j = mkP x (i + 1) p j := by
  rw [bt_or, bt_sh1 hi hj, hM]
  have hp2 : p < pop x := by have := ct_mono (bt x) (show i + 1 ≤ 64 by omega); unfold pop; omega
  have h1 := en_gt hi (show ct (bt x) (i + 1) ≤ p + 1 by omega)
  have h2 := kth_lt_of hp2 (show p < ct (bt x) (i + 1) by omega)
  unfold mkP
  by_cases e : j = i
  · subst e
    have h3 : kth x p ≤ j := by omega
    simp [h1, h3]
  · have e2 : (j < i + 1) ↔ (j < i) := by omega
    simp [e, e2]
theorem mk_new {x : Int64} {i p j : Nat} (hi : i < 64) (hb : bt x i = true) (hp : p = ct (bt x) i) : mkP x i p j = false := by
  unfold mkP; subst hp
  rw [kth_un hi hb]
  by_cases e : j < i
  · simp [Nat.not_le.mpr e]
  · simp [e]
theorem mk_end {x : Int64} {p j : Nat} (hj : j < 64) : mkP x 64 p j = (decide (kth x p ≤ j) && decide (j < enM x p)) := by
  unfold mkP; simp [hj]
def ptI (mi : MI) (a : Nat) (x : Int64) (i : Nat) : Prop := mi a 2 = nI (ct (bt x) i) ∧ ∀ p, p < ct (bt x) i → mi (a + 1) p = nI (kth x p)
def ptL (ml : ML) (a : Nat) (x : Int64) (i : Nat) : Prop := ∀ p, p < ct (bt x) i → ∀ j, j < 64 → bt (ml (a + 2) p) j = mkP x i p j
theorem pt_hit_I {mi : MI} {a i : Nat} {x : Int64} (hi : i < 64) (hb : bt x i = true) (h : ptI mi a x i) : ptI (u2 (u2 mi (a + 1) (ct (bt x) i) (nI i)) a 2 (nI (ct (bt x) i + 1))) a x (i + 1) := by
  refine ⟨by rw [u2_s, uf_s, ct_t hb], fun p hp => ?_⟩
  rw [u2_n _ _ _ (by omega), u2_s]
  rw [ct_t hb] at hp
  by_cases e : p = ct (bt x) i
  · subst e; rw [uf_s, kth_un hi hb]
  · rw [uf_n _ _ e]; exact h.2 p (by omega)
theorem pt_miss_I {mi : MI} {a i : Nat} {x : Int64} (hb : bt x i = false) (h : ptI mi a x i) : ptI mi a x (i + 1) := by
  unfold ptI; rw [ct_f hb]; exact h
theorem pt_hit_L {ml : ML} {a i : Nat} {x : Int64} (hi : i < 64) (hb : bt x i = true) (h : ptL ml a x i) : ptL (u2 (u2 ml (a + 2) (ct (bt x) i) 0) (a + 2) (ct (bt x) i) ((0 : Int64) ||| shl 1 i)) a x (i + 1) := by
  intro p hp j hj
  rw [u2_s]
  by_cases e : p = ct (bt x) i
  · subst e; rw [uf_s]
    exact mk_cur hi hj (ct_t hb).symm (by rw [bt_0, mk_new hi hb rfl])
  · rw [uf_n _ _ e, u2_s, uf_n _ _ e]
    rw [ct_t hb] at hp
    rw [h p (by omega) j hj, mk_old hi (by rw [ct_t hb]; omega)]
theorem pt_miss_L {ml : ML} {a i c : Nat} {x : Int64} (hi : i < 64) (hb : bt x i = false) (hc : c + 1 = ct (bt x) i) (h : ptL ml a x i) : ptL (u2 ml (a + 2) c (ml (a + 2) c ||| shl 1 i)) a x (i + 1) := by
  intro p hp j hj
  rw [u2_s]
  rw [ct_f hb] at hp
  by_cases e : p = c
  · subst e; rw [uf_s]
    exact mk_cur hi hj (by rw [ct_f hb]; exact hc) (h p hp j hj)
  · rw [uf_n _ _ e, h p hp j hj, mk_old hi (by rw [ct_f hb]; omega)]
