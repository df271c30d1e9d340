/-! maps: copies and shifts of rows -/
def cpL {α : Type} (m : Nat → Nat → α) (dst dp src sp len : Nat) : Nat → Nat → α := fun a k => if a = dst ∧ dp ≤ k ∧ k < dp + len then m src (sp + (k - dp)) else m a k
def shL {α : Type} (m : Nat → Nat → α) (id lo d len : Nat) : Nat → Nat → α := fun a k => if a = id ∧ lo ≤ k ∧ k < lo + len then m a (k + d) else m a k
theorem u2_at {α : Type} (f : Nat → Nat → α) (i k : Nat) (v : α) (a b : Nat) : u2 f i k v a b = if a = i ∧ b = k then v else f a b := by
  by_cases h : a = i
  · subst h; rw [u2_s]; by_cases h2 : b = k <;> simp [uf, h2]
  · rw [u2_n _ _ _ h]; simp [h]
theorem cpL_0 {α : Type} (m : Nat → Nat → α) (dst dp src sp : Nat) : cpL m dst dp src sp 0 = m := by
  funext a k; unfold cpL; rw [if_neg (by omega)]
theorem cpL_n {α : Type} (m : Nat → Nat → α) {dst dp src sp len a : Nat} (h : a ≠ dst) : cpL m dst dp src sp len a = m a := by
  funext k; unfold cpL; rw [if_neg (by intro q; exact h q.1)]
theorem cpL_in {α : Type} (m : Nat → Nat → α) {dst dp src sp len j : Nat} (h : j < len) : cpL m dst dp src sp len dst (dp + j) = m src (sp + j) := by
  unfold cpL; rw [if_pos (by omega), show dp + j - dp = j by omega]
theorem cpL_out {α : Type} (m : Nat → Nat → α) {dst dp src sp len a k : Nat} (h : k < dp ∨ dp + len ≤ k) : cpL m dst dp src sp len a k = m a k := by
  unfold cpL; rw [if_neg (by omega)]
theorem cpL_step {α : Type} (m : Nat → Nat → α) {dst dp src sp i x y : Nat} (hd : src ≠ dst) (hx : x = dp + i) (hy : y = sp + i) : cpL m dst dp src sp (i + 1) = u2 (cpL m dst dp src sp i) dst x (cpL m dst dp src sp i src y) := by
  subst hx; subst hy
  funext a k
  rw [u2_at, cpL_n m hd]
  unfold cpL
  by_cases h1 : a = dst ∧ k = dp + i
  · rw [if_pos h1, if_pos (by omega), h1.2, show dp + i - dp = i by omega]
  · rw [if_neg h1]
    by_cases h2 : a = dst ∧ dp ≤ k ∧ k < dp + i
    · rw [if_pos (by omega), if_pos h2]
    · rw [if_neg (by omega), if_neg h2]
theorem shL_0 {α : Type} (m : Nat → Nat → α) (id lo d : Nat) : shL m id lo d 0 = m := by
  funext a k; unfold shL; rw [if_neg (by omega)]
theorem shL_n {α : Type} (m : Nat → Nat → α) {id lo d len a : Nat} (h : a ≠ id) : shL m id lo d len a = m a := by
  funext k; unfold shL; rw [if_neg (by intro q; exact h q.1)]
theorem shL_in {α : Type} (m : Nat → Nat → α) {id lo d len k : Nat} (h : lo ≤ k) (h2 : k < lo + len) : shL m id lo d len id k = m id (k + d) := by
  unfold shL; rw [if_pos ⟨rfl, h, h2⟩]
theorem shL_out {α : Type} (m : Nat → Nat → α) {id lo d len a k : Nat} (h : k < lo ∨ lo + len ≤ k) : shL m id lo d len a k = m a k := by
  unfold shL; rw [if_neg (by omega)]
theorem shL_step {α : Type} (m : Nat → Nat → α) {id lo d i x y : Nat} (hd : 0 < d) (hx : x = lo + i) (hy : y = lo + i + d) : shL m id lo d (i + 1) = u2 (shL m id lo d i) id x (shL m id lo d i id y) := by
  subst hx; subst hy
  funext a k
  rw [u2_at]
  unfold shL
  by_cases h1 : a = id ∧ k = lo + i
  · rw [if_pos h1, if_pos (by omega), if_neg (by omega), h1.1, h1.2]
  · rw [if_neg h1]
    by_cases h2 : a = id ∧ lo ≤ k ∧ k < lo + i
    · rw [if_pos (by omega), if_pos h2]
    · rw [if_neg (by omega), if_neg h2]
theorem u2_u2 {α : Type} (f : Nat → Nat → α) (i k : Nat) (v w : α) : u2 (u2 f i k v) i k w = u2 f i k w := by
  funext a b; rw [u2_at, u2_at, u2_at]; by_cases h : a = i ∧ b = k <;> simp [h]
theorem u2_same {α : Type} (f : Nat → Nat → α) (i k : Nat) : u2 f i k (f i k) = f := by
  funext a b; rw [u2_at]; split
  · rename_i h; rw [h.1, h.2]
  · rfl
/-- what note() does: the past is one longer, or goes on by one -/
def noteI (mi : MI) (c : Nat) : MI := if c = 20 then u2 (cpL (u2 (shL mi 99 0 40 760) 95 2 (nI 19)) 99 (40 * 19) 97 0 40) 95 2 (nI (19 + 1)) else u2 (cpL mi 99 (40 * c) 97 0 40) 95 2 (nI (c + 1))
def noteL (ml : ML) (c : Nat) : ML := if c = 20 then cpL (shL ml 98 0 43 817) 98 (43 * 19) 96 0 43 else cpL ml 98 (43 * c) 96 0 43
theorem noteL_n (ml : ML) (c : Nat) {a : Nat} (h : a ≠ 98) : noteL ml c a = ml a := by
  unfold noteL; split
  · rw [cpL_n _ h, shL_n _ h]
  · rw [cpL_n _ h]
theorem noteI_n (mi : MI) (c : Nat) {a : Nat} (h : a ≠ 99) (h2 : a ≠ 95) : noteI mi c a = mi a := by
  unfold noteI; split
  · rw [u2_n _ _ _ h2, cpL_n _ h, u2_n _ _ _ h2, shL_n _ h]
  · rw [u2_n _ _ _ h2, cpL_n _ h]
theorem noteI_95 (mi : MI) (c : Nat) {k : Nat} (h : k ≠ 2) : noteI mi c 95 k = mi 95 k := by
  unfold noteI; split
  · rw [u2_s, uf_n _ _ h, cpL_n _ (by decide), u2_s, uf_n _ _ h, shL_n _ (by decide)]
  · rw [u2_s, uf_n _ _ h, cpL_n _ (by decide)]
theorem noteI_c (mi : MI) (c : Nat) : noteI mi c 95 2 = if c = 20 then nI 20 else nI (c + 1) := by
  unfold noteI; split
  · rw [u2_s, uf_s]
  · rw [u2_s, uf_s]
/-- the next seed -/
def nxt (z : Nat) : Nat := (z * 1103515245 + 12345) % 2147483648
theorem nxt_lt (z : Nat) : nxt z < 2147483648 := Nat.mod_lt _ (by decide)
/-- pictures -/
def turnS (h : Int64) : Nat → Int64
  | 0 => 0
  | b + 1 => turnS h b ||| (if bt h b then shl 1 (8 * (b % 8) + 7 - b / 8) else 0)
def mirS (h : Int64) : Nat → Int64
  | 0 => 0
  | b + 1 => mirS h b ||| (if bt h b then shl 1 (b / 8 * 8 + 7 - b % 8) else 0)
def rowsS (x : Int64) : Nat → Int64
  | 0 => 0
  | r + 1 => rowsS x r ||| shl x (8 * r)
def typed (h : Int64) (r d : Nat) : Int64 := h &&& (shl 255 (8 * r) ^^^ (-1)) ||| shl (lN d) (8 * r)
theorem pop_pos {x : Int64} (h : bt x 0 = true) : 1 ≤ pop x := by
  have := ct_mono (bt x) (show 1 ≤ 64 by decide)
  have e : ct (bt x) 1 = 1 := by simp [ct, h]
  unfold pop; omega
/-- one of the times by draws, in the reference -/
def lotW (z : Nat) : Nat := nxt z / 65536 % 4
def lotH (h : Int64) (z : Nat) : Int64 := if lotW z = 0 then rowsS (lN (nxt (nxt (nxt z)) / 65536 % 256)) 8 else if lotW z = 1 ∨ lotW z = 2 then h ^^^ shl 1 (nxt (nxt z) / 65536 % 64) else h
def lotZ (z : Nat) : Nat := if lotW z = 0 then nxt (nxt (nxt z)) else if lotW z = 1 ∨ lotW z = 2 then nxt (nxt z) else nxt z
theorem lotZ_lt (z : Nat) : lotZ z < 2147483648 := by
  unfold lotZ; split
  · exact nxt_lt _
  · split <;> exact nxt_lt _
def lotA (ml : ML) (n z : Nat) : Bool := decide (lastB (fun k => decide (oM ml k = lotH (ml 96 0) z)) n = -1) && decide (n < 40)
def lotI (mi : MI) (ml : ML) (c n z : Nat) : MI := if lotA ml n z then u2 (u2 (noteI mi c) 95 9 (nI (lotZ z))) 97 n (nI 0) else u2 (noteI mi c) 95 9 (nI (lotZ z))
def lotL (ml : ML) (c n z : Nat) : ML := if lotA ml n z then u2 (u2 (u2 (noteL ml c) 96 0 (lotH (ml 96 0) z)) 96 (3 + n) (lotH (ml 96 0) z)) 96 2 (lN (n + 1)) else u2 (noteL ml c) 96 0 (lotH (ml 96 0) z)
theorem oM_u0 (ml : ML) (x : Int64) (k : Nat) : oM (u2 ml 96 0 x) k = oM ml k := by unfold oM; rw [u2_s, uf_n _ _ (by omega)]
theorem oM_note (ml : ML) (c k : Nat) : oM (noteL ml c) k = oM ml k := by unfold oM; rw [noteL_n _ _ (by decide)]
/-- the end of a lot: what was found, what was done -/
theorem lot_end {mi mi' : MI} {ml ml' : ML} {c n z : Nat} {h : Int64} {Z : Nat} (hn : n ≤ 40) (eh : h = lotH (ml 96 0) z) (eZ : Z = lotZ z) :
    (lastB (fun k => decide (oM (u2 (noteL ml c) 96 0 h) k = h)) n = -1 → n < 40 → mi' = u2 (u2 (noteI mi c) 95 9 (nI Z)) 97 n (nI 0) → ml' = u2 (u2 (u2 (noteL ml c) 96 0 h) 96 (3 + n) h) 96 2 (lN (n + 1)) → mi' = lotI mi ml c n z ∧ ml' = lotL ml c n z) ∧
    (¬ (lastB (fun k => decide (oM (u2 (noteL ml c) 96 0 h) k = h)) n = -1 ∧ n < 40) → mi' = u2 (noteI mi c) 95 9 (nI Z) → ml' = u2 (noteL ml c) 96 0 h → mi' = lotI mi ml c n z ∧ ml' = lotL ml c n z) := by
  subst eh; subst eZ
  simp only [oM_u0, oM_note]
  refine ⟨fun h1 h2 e1 e2 => ?_, fun h1 e1 e2 => ?_⟩
  · have hA : lotA ml n z = true := by unfold lotA; simp [h1, h2]
    unfold lotI lotL; rw [if_pos hA, if_pos hA]; exact ⟨e1, e2⟩
  · have hA : ¬ lotA ml n z = true := by
      unfold lotA
      intro q
      simp only [Bool.and_eq_true, decide_eq_true_eq] at q
      exact h1 q
    unfold lotI lotL; rw [if_neg hA, if_neg hA]; exact ⟨e1, e2⟩
/-- n times by draws, in the reference: maps, past, marks, seed -/
def drS (mi : MI) (ml : ML) (c n z : Nat) : Nat → MI × ML × Nat × Nat × Nat
  | 0 => (mi, ml, c, n, z)
  | i + 1 => (lotI (drS mi ml c n z i).1 (drS mi ml c n z i).2.1 (drS mi ml c n z i).2.2.1 (drS mi ml c n z i).2.2.2.1 (drS mi ml c n z i).2.2.2.2, lotL (drS mi ml c n z i).2.1 (drS mi ml c n z i).2.2.1 (drS mi ml c n z i).2.2.2.1 (drS mi ml c n z i).2.2.2.2,
      (if (drS mi ml c n z i).2.2.1 = 20 then 20 else (drS mi ml c n z i).2.2.1 + 1), (if lotA (drS mi ml c n z i).2.1 (drS mi ml c n z i).2.2.2.1 (drS mi ml c n z i).2.2.2.2 then (drS mi ml c n z i).2.2.2.1 + 1 else (drS mi ml c n z i).2.2.2.1), lotZ (drS mi ml c n z i).2.2.2.2)
theorem lotI_c (mi : MI) (ml : ML) (c n z : Nat) : lotI mi ml c n z 95 2 = nI (if c = 20 then 20 else c + 1) := by
  unfold lotI; split
  · rw [u2_n _ _ _ (by decide), u2_s, uf_n _ _ (by decide), noteI_c]; split <;> rfl
  · rw [u2_s, uf_n _ _ (by decide), noteI_c]; split <;> rfl
theorem lotI_z (mi : MI) (ml : ML) (c n z : Nat) : lotI mi ml c n z 95 9 = nI (lotZ z) := by
  unfold lotI; split
  · rw [u2_n _ _ _ (by decide), u2_s, uf_s]
  · rw [u2_s, uf_s]
theorem lotL_n {ml : ML} {c n z : Nat} (h : ml 96 2 = lN n) : lotL ml c n z 96 2 = lN (if lotA ml n z then n + 1 else n) := by
  unfold lotL; split
  · rw [u2_s, uf_s]
  · rw [u2_s, uf_n _ _ (by decide), noteL_n _ _ (by decide), h]
theorem drS_ok {mi : MI} {ml : ML} {c n z : Nat} (hc : mi 95 2 = nI c) (hc20 : c ≤ 20) (hn : ml 96 2 = lN n) (hn40 : n ≤ 40) (hz : mi 95 9 = nI z) (hz31 : z < 2147483648) : ∀ i, (drS mi ml c n z i).1 95 2 = nI (drS mi ml c n z i).2.2.1 ∧ (drS mi ml c n z i).2.2.1 ≤ 20 ∧ (drS mi ml c n z i).2.1 96 2 = lN (drS mi ml c n z i).2.2.2.1 ∧ (drS mi ml c n z i).2.2.2.1 ≤ 40 ∧ (drS mi ml c n z i).1 95 9 = nI (drS mi ml c n z i).2.2.2.2 ∧ (drS mi ml c n z i).2.2.2.2 < 2147483648
  | 0 => ⟨hc, hc20, hn, hn40, hz, hz31⟩
  | i + 1 => by
    obtain ⟨h1, h2, h3, h4, h5, h6⟩ := drS_ok hc hc20 hn hn40 hz hz31 i
    refine ⟨lotI_c _ _ _ _ _, ?_, lotL_n h3, ?_, lotI_z _ _ _ _ _, lotZ_lt _⟩
    · show (if (drS mi ml c n z i).2.2.1 = 20 then 20 else (drS mi ml c n z i).2.2.1 + 1) ≤ 20
      split <;> omega
    · show (if lotA (drS mi ml c n z i).2.1 (drS mi ml c n z i).2.2.2.1 (drS mi ml c n z i).2.2.2.2 then (drS mi ml c n z i).2.2.2.1 + 1 else (drS mi ml c n z i).2.2.2.1) ≤ 40
      split
      · rename_i hA
        unfold lotA at hA
        simp only [Bool.and_eq_true, decide_eq_true_eq] at hA
        omega
      · exact h4
