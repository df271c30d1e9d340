/-! class and reference: n times by draws; a step reads and writes its own side alone -/
theorem u2_S {α : Type} {S : Nat → Prop} {f g : Nat → Nat → α} (h : ∀ t, S t → f t = g t) (i k : Nat) (v : α) : ∀ t, S t → u2 f i k v t = u2 g i k v t := fun t ht => by
  funext b; rw [u2_at, u2_at, h t ht]
theorem cpL_S {α : Type} {S : Nat → Prop} {f g : Nat → Nat → α} (h : ∀ t, S t → f t = g t) {dst dp src sp len : Nat} (hs : S src) : ∀ t, S t → cpL f dst dp src sp len t = cpL g dst dp src sp len t := fun t ht => by
  funext b; unfold cpL; rw [h t ht, h src hs]
theorem shL_S {α : Type} {S : Nat → Prop} {f g : Nat → Nat → α} (h : ∀ t, S t → f t = g t) {id lo d len : Nat} : ∀ t, S t → shL f id lo d len t = shL g id lo d len t := fun t ht => by
  funext b; unfold shL; rw [h t ht]
theorem remI_S {S : Nat → Prop} {m m' : MI} {nx c n : Nat} (h : ∀ t, S t → m t = m' t) (h3 : S 3) : ∀ t, S t → remI m nx c n t = remI m' nx c n t := by
  unfold remI bcI
  exact u2_S (u2_S (cpL_S (u2_S h _ _ _) h3) _ _ _) _ _ _
theorem remL_S {S : Nat → Prop} {z z' : ML} {nx n : Nat} (h : ∀ t, S t → z t = z' t) (h1 : S 1) (h2 : S 2) : ∀ t, S t → remL z nx n t = remL z' nx n t := by
  unfold remL bcL
  rw [h 1 h1]
  exact cpL_S (u2_S (u2_S h _ _ _) _ _ _) h2
theorem noteI_S {S : Nat → Prop} {m m' : MI} {c : Nat} (h : ∀ t, S t → m t = m' t) (h97 : S 97) : ∀ t, S t → noteI m c t = noteI m' c t := by
  unfold noteI
  by_cases e : c = 20
  · rw [if_pos e, if_pos e]; exact u2_S (cpL_S (u2_S (shL_S h) _ _ _) h97) _ _ _
  · rw [if_neg e, if_neg e]; exact u2_S (cpL_S h h97) _ _ _
theorem noteL_S {S : Nat → Prop} {m m' : ML} {c : Nat} (h : ∀ t, S t → m t = m' t) (h96 : S 96) : ∀ t, S t → noteL m c t = noteL m' c t := by
  unfold noteL
  by_cases e : c = 20
  · rw [if_pos e, if_pos e]; exact cpL_S (shL_S h) h96
  · rw [if_neg e, if_neg e]; exact cpL_S h h96
theorem putA_S {S : Nat → Prop} {z z' : ML} {n : Nat} (h : ∀ t, S t → z t = z' t) (h1 : S 1) (h2 : S 2) : putA z n = putA z' n := by
  unfold putA; rw [h 1 h1, h 2 h2]
theorem lcY_S {S : Nat → Prop} {z z' : ML} {nx n q : Nat} (h : ∀ t, S t → z t = z' t) (h1 : S 1) (h2 : S 2) : ∀ t, S t → u2 (remL z nx n) 1 0 (lotHC (z 1 0) q) t = u2 (remL z' nx n) 1 0 (lotHC (z' 1 0) q) t := by
  rw [h 1 h1]; exact u2_S (remL_S h h1 h2) _ _ _
theorem lcI_S {S : Nat → Prop} {m m' : MI} {z z' : ML} {nx c n q : Nat} (hm : ∀ t, S t → m t = m' t) (hz : ∀ t, S t → z t = z' t) (h1 : S 1) (h2 : S 2) (h3 : S 3) : ∀ t, S t → lcI m z nx c n q t = lcI m' z' nx c n q t := by
  unfold lcI putI
  rw [putA_S (lcY_S (q := q) (nx := nx) (n := n) hz h1 h2) h1 h2]
  by_cases e : putA (u2 (remL z' nx n) 1 0 (lotHC (z' 1 0) q)) n = true
  · rw [if_pos e, if_pos e]; exact u2_S (u2_S (u2_S (remI_S hm h3) _ _ _) _ _ _) _ _ _
  · rw [if_neg e, if_neg e]; exact u2_S (remI_S hm h3) _ _ _
theorem lcL_S {S : Nat → Prop} {z z' : ML} {nx n q : Nat} (hz : ∀ t, S t → z t = z' t) (h1 : S 1) (h2 : S 2) : ∀ t, S t → lcL z nx n q t = lcL z' nx n q t := by
  have hy := lcY_S (q := q) (nx := nx) (n := n) hz h1 h2
  unfold lcL putL
  rw [putA_S hy h1 h2]
  by_cases e : putA (u2 (remL z' nx n) 1 0 (lotHC (z' 1 0) q)) n = true
  · rw [if_pos e, if_pos e, hy 1 h1]; exact u2_S hy _ _ _
  · rw [if_neg e, if_neg e]; exact hy
theorem nP_S {S : Nat → Prop} {z z' : ML} {nx n q : Nat} (hz : ∀ t, S t → z t = z' t) (h1 : S 1) (h2 : S 2) : nP z nx n q = nP z' nx n q := by
  unfold nP; rw [putA_S (lcY_S (q := q) (nx := nx) (n := n) hz h1 h2) h1 h2]
theorem lotA_S {S : Nat → Prop} {z z' : ML} {n q : Nat} (hz : ∀ t, S t → z t = z' t) (h96 : S 96) : lotA z n q = lotA z' n q := by
  unfold lotA oM; rw [hz 96 h96]
theorem lotI_S {S : Nat → Prop} {m m' : MI} {z z' : ML} {c n q : Nat} (hm : ∀ t, S t → m t = m' t) (hz : ∀ t, S t → z t = z' t) (h96 : S 96) (h97 : S 97) : ∀ t, S t → lotI m z c n q t = lotI m' z' c n q t := by
  unfold lotI
  rw [lotA_S hz h96]
  by_cases e : lotA z' n q = true
  · rw [if_pos e, if_pos e]; exact u2_S (u2_S (noteI_S hm h97) _ _ _) _ _ _
  · rw [if_neg e, if_neg e]; exact u2_S (noteI_S hm h97) _ _ _
theorem lotL_S {S : Nat → Prop} {z z' : ML} {c n q : Nat} (hz : ∀ t, S t → z t = z' t) (h96 : S 96) : ∀ t, S t → lotL z c n q t = lotL z' c n q t := by
  unfold lotL
  rw [lotA_S hz h96, hz 96 h96]
  by_cases e : lotA z' n q = true
  · rw [if_pos e, if_pos e]; exact u2_S (u2_S (u2_S (noteL_S hz h96) _ _ _) _ _ _) _ _ _
  · rw [if_neg e, if_neg e]; exact u2_S (noteL_S hz h96) _ _ _
theorem lcI_hi {m : MI} {z : ML} {nx c n q t : Nat} (hx : nx < 20) (ht : 95 ≤ t) : lcI m z nx c n q t = m t := by
  unfold lcI; rw [putI_n _ _ (by omega) (by omega), u2_n _ _ _ (by omega), remI_n _ (by omega) (by omega) (by omega)]
theorem lcL_hi {z : ML} {nx n q t : Nat} (hx : nx < 20) (ht : 95 ≤ t) : lcL z nx n q t = z t := by
  unfold lcL putL
  by_cases e : putA (u2 (remL z nx n) 1 0 (lotHC (z 1 0) q)) n = true
  · rw [if_pos e, u2_n _ _ _ (by omega), u2_n _ _ _ (by omega), remL_n _ (by omega) (by omega)]
  · rw [if_neg e, u2_n _ _ _ (by omega), remL_n _ (by omega) (by omega)]
theorem lotI_lo {m : MI} {z : ML} {c n q t : Nat} (ht : t < 95) : lotI m z c n q t = m t := by
  unfold lotI
  by_cases e : lotA z n q = true
  · rw [if_pos e, u2_n _ _ _ (by omega), u2_n _ _ _ (by omega), noteI_n _ _ (by omega) (by omega)]
  · rw [if_neg e, u2_n _ _ _ (by omega), noteI_n _ _ (by omega) (by omega)]
theorem lotL_lo {z : ML} {c n q t : Nat} (ht : t < 95) : lotL z c n q t = z t := by
  unfold lotL
  by_cases e : lotA z n q = true
  · rw [if_pos e, u2_n _ _ _ (by omega), u2_n _ _ _ (by omega), u2_n _ _ _ (by omega), noteL_n _ _ (by omega)]
  · rw [if_neg e, u2_n _ _ _ (by omega), noteL_n _ _ (by omega)]
theorem cP_if {c : Nat} (h : c ≤ 20) : (if c = 20 then 20 else c + 1) = cP c := by
  by_cases e : c = 20
  · rw [if_pos e, e]; rfl
  · rw [if_neg e, cP_s (by omega)]
section DRIFT
variable {n nx c q s E : Nat} {B1 B2 : Nat → Nat}
theorem RelP.lotB {mi : MI} {ml z : ML} (R : RelP mi ml n nx c q s E B1 B2) (h96 : z 96 = ml 96) : lotA z n q = putA (u2 (remL ml nx n) 1 0 (lotHC (ml 1 0) q)) n := by
  have hx := R.nx20
  have e2 : u2 (remL ml nx n) 1 0 (lotHC (ml 1 0) q) 2 = ml 2 := by rw [u2_n _ _ _ (by decide), remL_n _ (by omega) (by omega)]
  have e1 : u2 (remL ml nx n) 1 0 (lotHC (ml 1 0) q) 1 0 = lotHC (ml 1 0) q := by rw [u2_s, uf_s]
  have eh : lotH (z 96 0) q = lotHC (ml 1 0) q := by rw [h96, R.h0, lotH_eq]
  have eM : ∀ k, k < n → oM z k = ml 2 k := fun k hk => by unfold oM; rw [h96]; exact R.own k hk
  have e : fromB (fun k => decide (u2 (remL ml nx n) 1 0 (lotHC (ml 1 0) q) 2 k = u2 (remL ml nx n) 1 0 (lotHC (ml 1 0) q) 1 0)) n 0 = lastB (fun k => decide (oM z k = lotH (z 96 0) q)) n := by
    rw [e2, e1, eh]
    refine (first_last (fun j k hj hk h1 h2 => ?_)).trans (lastB_cong (fun k hk => ?_))
    · simp only [decide_eq_true_eq] at h1 h2
      exact R.inj j k hj hk (h1.trans h2.symm)
    · show decide (ml 2 k = lotHC (ml 1 0) q) = decide (oM z k = lotHC (ml 1 0) q)
      rw [eM k hk]
  unfold lotA putA
  rw [e, Bool.and_comm]
theorem RelP.dLot {mi : MI} {ml : ML} (R : RelP mi ml n nx c q s E B1 B2) : RelP (lotI (lcI mi ml nx c n q) (lcL ml nx n q) c n q) (lotL (lcL ml nx n q) c n q) (nP ml nx n q) (nxP nx) (cP c) (lotZ q) s E B1 B2 := by
  have hx := R.nx20
  have z96 : lcL ml nx n q 96 = ml 96 := lcL_hi hx (by decide)
  have hA := R.lotB z96
  have hh : lotH (lcL ml nx n q 96 0) q = lotHC (ml 1 0) q := by rw [z96, R.h0, lotH_eq]
  have hs : u2 (remL ml nx n) 1 0 (lotHC (ml 1 0) q) 1 0 = lotHC (ml 1 0) q := by rw [u2_s, uf_s]
  unfold lotI lotL nP
  rw [hA, hh]
  by_cases e : putA (u2 (remL ml nx n) 1 0 (lotHC (ml 1 0) q)) n = true
  · rw [if_pos e, if_pos e, if_pos e]
    have c1 : lcI mi ml nx c n q = u2 (u2 (u2 (remI mi nx c n) 94 0 (nI (lotZ q))) 3 n (nI 0)) 1 2 (nI (n + 1)) := by unfold lcI putI; rw [if_pos e]
    have c2 : lcL ml nx n q = u2 (u2 (remL ml nx n) 1 0 (lotHC (ml 1 0) q)) 2 n (lotHC (ml 1 0) q) := by unfold lcL putL; rw [if_pos e, hs]
    rw [c1, c2]
    have hn := putA_lt e
    refine R.lotYes hn _ (lotZ_lt q) (fun j hj => ?_)
    unfold putA at e
    simp only [Bool.and_eq_true, decide_eq_true_eq] at e
    have h2 := of_decide_eq_false (fromB_none (by omega) e.2 j hj)
    rw [hs, u2_n _ _ _ (by decide), remL_n _ (by omega) (by omega)] at h2
    exact h2
  · rw [if_neg e, if_neg e, if_neg e]
    have c1 : lcI mi ml nx c n q = u2 (remI mi nx c n) 94 0 (nI (lotZ q)) := by unfold lcI putI; rw [if_neg e]
    have c2 : lcL ml nx n q = u2 (remL ml nx n) 1 0 (lotHC (ml 1 0) q) := by unfold lcL putL; rw [if_neg e]
    rw [c1, c2]
    exact R.lotNo _ (lotZ_lt q)
theorem lot_step {a b : MI} {a' b' : ML} (ih : ∀ (M : MI) (Z : ML), (∀ t, t < 95 → M t = a t) → (∀ t, 95 ≤ t → M t = b t) → (∀ t, t < 95 → Z t = a' t) → (∀ t, 95 ≤ t → Z t = b' t) → RelP M Z n nx c q s E B1 B2) :
    (∀ (M : MI) (Z : ML), (∀ t, t < 95 → M t = lcI a a' nx c n q t) → (∀ t, 95 ≤ t → M t = lotI b b' c n q t) → (∀ t, t < 95 → Z t = lcL a' nx n q t) → (∀ t, 95 ≤ t → Z t = lotL b' c n q t) → RelP M Z (nP a' nx n q) (nxP nx) (cP c) (lotZ q) s E B1 B2) ∧ (if c = 20 then 20 else c + 1) = cP c ∧ (if lotA b' n q then n + 1 else n) = nP a' nx n q := by
  obtain ⟨M0, hM0⟩ : ∃ M0 : MI, M0 = fun t => if t < 95 then a t else b t := ⟨_, rfl⟩
  obtain ⟨Z0, hZ0⟩ : ∃ Z0 : ML, Z0 = fun t => if t < 95 then a' t else b' t := ⟨_, rfl⟩
  have m1 : ∀ t, t < 95 → M0 t = a t := fun t h => by rw [hM0]; exact if_pos h
  have m2 : ∀ t, 95 ≤ t → M0 t = b t := fun t h => by rw [hM0]; exact if_neg (by omega)
  have z1 : ∀ t, t < 95 → Z0 t = a' t := fun t h => by rw [hZ0]; exact if_pos h
  have z2 : ∀ t, 95 ≤ t → Z0 t = b' t := fun t h => by rw [hZ0]; exact if_neg (by omega)
  have R0 := ih M0 Z0 m1 m2 z1 z2
  have hx := R0.nx20
  have R1 := R0.dLot
  have eN : nP Z0 nx n q = nP a' nx n q := nP_S (S := fun t => t < 95) z1 (by decide) (by decide)
  refine ⟨fun M Z h1 h2 h3 h4 => ?_, cP_if R0.c20, ?_⟩
  · have eM : M = lotI (lcI M0 Z0 nx c n q) (lcL Z0 nx n q) c n q := by
      funext t
      rcases Nat.lt_or_ge t 95 with h | h
      · rw [h1 t h, lotI_lo h, lcI_S (S := fun t => t < 95) m1 z1 (by decide) (by decide) (by decide) t h]
      · rw [h2 t h]
        exact lotI_S (S := fun t => 95 ≤ t) (fun u hu => by rw [lcI_hi hx hu, m2 u hu]) (fun u hu => by rw [lcL_hi hx hu, z2 u hu]) (by decide) (by decide) t h
    have eZ : Z = lotL (lcL Z0 nx n q) c n q := by
      funext t
      rcases Nat.lt_or_ge t 95 with h | h
      · rw [h3 t h, lotL_lo h, lcL_S (S := fun t => t < 95) z1 (by decide) (by decide) t h]
      · rw [h4 t h]
        exact lotL_S (S := fun t => 95 ≤ t) (fun u hu => by rw [lcL_hi hx hu, z2 u hu]) (by decide) t h
    rw [eM, eZ, ← eN]; exact R1
  · rw [← eN, ← lotA_S (S := fun t => 95 ≤ t) z2 (by decide), R0.lotB rfl]; rfl
theorem RelP.drf {mi m2 : MI} {ml z2 : ML} (R : RelP mi ml n nx c q s E B1 B2) (hm : ∀ t, 95 ≤ t → m2 t = mi t) (hz : ∀ t, 95 ≤ t → z2 t = ml t) : ∀ i, (∀ (M : MI) (Z : ML), (∀ t, t < 95 → M t = (dcS mi ml nx c n q i).1 t) → (∀ t, 95 ≤ t → M t = (drS m2 z2 c n q i).1 t) → (∀ t, t < 95 → Z t = (dcS mi ml nx c n q i).2.1 t) → (∀ t, 95 ≤ t → Z t = (drS m2 z2 c n q i).2.1 t) → RelP M Z (dcS mi ml nx c n q i).2.2.2.2.1 (dcS mi ml nx c n q i).2.2.1 (dcS mi ml nx c n q i).2.2.2.1 (dcS mi ml nx c n q i).2.2.2.2.2 s E B1 B2) ∧ (drS m2 z2 c n q i).2.2.1 = (dcS mi ml nx c n q i).2.2.2.1 ∧ (drS m2 z2 c n q i).2.2.2.1 = (dcS mi ml nx c n q i).2.2.2.2.1 ∧ (drS m2 z2 c n q i).2.2.2.2 = (dcS mi ml nx c n q i).2.2.2.2.2
  | 0 => by
    refine ⟨fun M Z h1 h2 h3 h4 => ?_, rfl, rfl, rfl⟩
    have eM : M = mi := by
      funext t
      rcases Nat.lt_or_ge t 95 with h | h
      · exact h1 t h
      · exact (h2 t h).trans (hm t h)
    have eZ : Z = ml := by
      funext t
      rcases Nat.lt_or_ge t 95 with h | h
      · exact h3 t h
      · exact (h4 t h).trans (hz t h)
    rw [eM, eZ]; exact R
  | i + 1 => by
    obtain ⟨ih, hc, hn, hq⟩ := RelP.drf R hm hz i
    obtain ⟨g1, g2, g3⟩ := lot_step ih
    have d1 : (drS m2 z2 c n q (i + 1)).1 = lotI (drS m2 z2 c n q i).1 (drS m2 z2 c n q i).2.1 (dcS mi ml nx c n q i).2.2.2.1 (dcS mi ml nx c n q i).2.2.2.2.1 (dcS mi ml nx c n q i).2.2.2.2.2 := by rw [← hc, ← hn, ← hq]; rfl
    have d2 : (drS m2 z2 c n q (i + 1)).2.1 = lotL (drS m2 z2 c n q i).2.1 (dcS mi ml nx c n q i).2.2.2.1 (dcS mi ml nx c n q i).2.2.2.2.1 (dcS mi ml nx c n q i).2.2.2.2.2 := by rw [← hc, ← hn, ← hq]; rfl
    have d3 : (drS m2 z2 c n q (i + 1)).2.2.1 = (if (dcS mi ml nx c n q i).2.2.2.1 = 20 then 20 else (dcS mi ml nx c n q i).2.2.2.1 + 1) := by rw [← hc]; rfl
    have d4 : (drS m2 z2 c n q (i + 1)).2.2.2.1 = (if lotA (drS m2 z2 c n q i).2.1 (dcS mi ml nx c n q i).2.2.2.2.1 (dcS mi ml nx c n q i).2.2.2.2.2 then (dcS mi ml nx c n q i).2.2.2.2.1 + 1 else (dcS mi ml nx c n q i).2.2.2.2.1) := by rw [← hn, ← hq]; rfl
    have d5 : (drS m2 z2 c n q (i + 1)).2.2.2.2 = lotZ (dcS mi ml nx c n q i).2.2.2.2.2 := by rw [← hq]; rfl
    refine ⟨fun M Z h1 h2 h3 h4 => g1 M Z h1 (fun t ht => by rw [h2 t ht, d1]) h3 (fun t ht => by rw [h4 t ht, d2]), d3.trans g2, d4.trans g3, d5⟩
theorem drS_lo {m : MI} {z : ML} {t : Nat} (ht : t < 95) : ∀ i, (drS m z c n q i).1 t = m t ∧ (drS m z c n q i).2.1 t = z t
  | 0 => ⟨rfl, rfl⟩
  | i + 1 => by
    obtain ⟨h1, h2⟩ := drS_lo (m := m) (z := z) ht i
    exact ⟨(lotI_lo ht).trans h1, (lotL_lo ht).trans h2⟩
theorem dcS_hi {mi : MI} {ml : ML} (h : okC mi nx c n q) {t : Nat} (ht : 95 ≤ t) : ∀ i, (dcS mi ml nx c n q i).1 t = mi t ∧ (dcS mi ml nx c n q i).2.1 t = ml t
  | 0 => ⟨rfl, rfl⟩
  | i + 1 => by
    obtain ⟨h1, h2⟩ := dcS_hi (ml := ml) h ht i
    have hx := (dc_ok (ml := ml) h i).2.1
    exact ⟨(lcI_hi hx ht).trans h1, (lcL_hi hx ht).trans h2⟩
theorem RelP.okc {mi : MI} {ml : ML} (R : RelP mi ml n nx c q s E B1 B2) : okC mi nx c n q := ⟨R.hnx, R.nx20, R.hc, R.c20, R.hn, R.n40, R.2.2.2.2.1.2.1, R.2.2.2.2.1.1⟩
theorem RelP.dDrift {mi : MI} {ml : ML} (R : RelP mi ml n nx c q s E B1 B2) (k : Nat) : RelP (drS (dcS mi ml nx c n q k).1 (dcS mi ml nx c n q k).2.1 c n q k).1 (drS (dcS mi ml nx c n q k).1 (dcS mi ml nx c n q k).2.1 c n q k).2.1 (dcS mi ml nx c n q k).2.2.2.2.1 (dcS mi ml nx c n q k).2.2.1 (dcS mi ml nx c n q k).2.2.2.1 (dcS mi ml nx c n q k).2.2.2.2.2 s E B1 B2 ∧ (drS (dcS mi ml nx c n q k).1 (dcS mi ml nx c n q k).2.1 c n q k).2.2.2.1 = (dcS mi ml nx c n q k).2.2.2.2.1 := by
  obtain ⟨h1, h2, h3, h4⟩ := R.drf (m2 := (dcS mi ml nx c n q k).1) (z2 := (dcS mi ml nx c n q k).2.1) (fun t ht => (dcS_hi R.okc ht k).1) (fun t ht => (dcS_hi R.okc ht k).2) k
  exact ⟨h1 _ _ (fun t ht => (drS_lo ht k).1) (fun t _ => rfl) (fun t ht => (drS_lo ht k).2) (fun t _ => rfl), h3⟩
end DRIFT
