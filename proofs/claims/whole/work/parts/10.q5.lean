/-! pure words for what is asked of NearMarks -/
theorem both_in {n j k : Nat} (hn : n ≤ 40) (hj : j < n) (hk : k < n) (h : j ≠ k) : (isMk n (nI j) && (isMk n (nI k) && !decide (nI j = nI k))) = true := by
  rw [isMk_nI (by omega) (by omega), isMk_nI (by omega) (by omega)]
  have e : ¬ nI j = nI k := fun q => h ((nI_eq (by omega) (by omega)).mp q)
  simp [hj, hk, e]
def midC (M : Nat → Int64) (n : Nat) (S : Int64) : Int64 := stB (fun q => !decide (2 * pop ((colS M q n) &&& S) ≤ pop S)) 64
theorem pt_u4 {m : MI} {z : ML} {x : Int64} {k : Nat} {v : Int32} (h : PtOK m z 75 x) : PtOK (u2 m 4 k v) z 75 x := by
  obtain ⟨h1, h2, h3⟩ := h
  refine ⟨?_, fun p hp => ?_, h3⟩
  · rw [u2_n _ _ _ (by decide)]; exact h1
  · rw [u2_n _ _ _ (by decide)]; exact h2 p hp
theorem fr_u4 {m f : MI} {k : Nat} {v : Int32} (h : ∀ t, t ≠ 75 → t ≠ 76 → m t = f t) : ∀ t, t ≠ 75 → t ≠ 76 → u2 m 4 k v t = u2 f 4 k v t := by
  intro t h1 h2
  by_cases e : t = 4
  · subst e; rw [u2_s, u2_s, h 4 (by decide) (by decide)]
  · rw [u2_n _ _ _ e, u2_n _ _ _ e, h t h1 h2]
