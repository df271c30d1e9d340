/-! class and reference: deeds keep the relation -/
theorem Sto.mk1 {m : MI} {z : ML} {n : Nat} (h40 : n ≤ 40) (hc : m 1 2 = nI n) (hl : z 96 2 = lN n) (h0 : z 96 0 = z 1 0) (h1 : z 96 1 = z 1 1) (hM : ∀ k, k < n → z 96 (3 + k) = z 2 k) (hK : ∀ k, k < n → m 97 k = m 3 k) (hx : bt (z 1 1) 0 = true ∧ pop (z 1 1) ≤ 8) (hu : ∀ j k, j < n → k < n → z 2 j = z 2 k → j = k) (hk : ∀ k, k < n → m 3 k = nI 0 ∨ m 3 k = nI 1 ∨ m 3 k = nI 2) : Sto m z 1 96 97 0 0 n :=
  ⟨h40, hc, hl, h0, h1, fun k hk => by rw [show 0 + 3 + k = 3 + k by omega]; exact hM k hk, fun k hk => by rw [Nat.zero_add]; exact hK k hk, hx, hu, hk⟩
theorem fromB_none {p : Nat → Bool} {n : Nat} (hn : n < 2 ^ 31) (h : fromB p n 0 = -1) : ∀ k, k < n → p k = false := by
  rcases fromB_spec (p := p) (d := n) (i := 0) with ⟨-, q⟩ | ⟨k, -, h2, -, -, e⟩
  · exact fun k hk => q k (Nat.zero_le _) (by omega)
  · rw [e] at h; exact absurd h (nI_ne_m1 (by omega))
section DEEDS
variable {mi : MI} {ml : ML} {n nx c q s E : Nat} {B1 B2 : Nat → Nat}
theorem RelP.nx20 (R : RelP mi ml n nx c q s E B1 B2) : nx < 20 := R.2.2.1.2.1
theorem RelP.hnx (R : RelP mi ml n nx c q s E B1 B2) : mi 4 1 = nI nx := R.2.2.1.1
theorem RelP.hc (R : RelP mi ml n nx c q s E B1 B2) : mi 4 2 = nI c := R.2.2.1.2.2.1
theorem RelP.c20 (R : RelP mi ml n nx c q s E B1 B2) : c ≤ 20 := R.2.2.1.2.2.2.1
theorem RelP.hcm (R : RelP mi ml n nx c q s E B1 B2) : mi 95 2 = nI c := R.2.2.1.2.2.2.2.1
theorem deed1 {m2 m4 : MI} {z2 z4 : ML} (R : RelP mi ml n nx c q s E B1 B2) (hm2 : ∀ t, t ≠ 1 → t ≠ 3 → m2 t = remI mi nx c n t) (hz2 : ∀ t, t ≠ 1 → t ≠ 2 → z2 t = remL ml nx n t) (hm4 : ∀ t, t ≠ 97 → m4 t = noteI m2 c t) (hz4 : ∀ t, t ≠ 96 → z4 t = noteL z2 c t) (h11 : z2 1 1 = ml 1 1) {n' : Nat} (hN : Sto m4 z4 1 96 97 0 0 n') : RelP m4 z4 n' (nxP nx) (cP c) q s E B1 B2 := by
  have hx := R.nx20
  have M : ∀ t, t = 75 ∨ t = 76 ∨ t = 94 → m4 t = mi t := fun t ht => by rw [hm4 t (by omega), noteI_n _ _ (by omega) (by omega), hm2 t (by omega) (by omega), remI_n _ (by omega) (by omega) (by omega)]
  have Z77 : z4 77 = ml 77 := by rw [hz4 77 (by decide), noteL_n _ _ (by decide), hz2 77 (by decide) (by decide), remL_n _ (by omega) (by omega)]
  have Z11 : z4 1 1 = ml 1 1 := by rw [hz4 1 (by decide), noteL_n _ _ (by decide), h11]
  refine deed R (fun t h1 h3 _ _ _ => hm2 t h1 h3) (fun t h1 h2 _ => hz2 t h1 h2) (fun t _ h => hm4 t h) (fun k _ => by rw [hm4 95 (by decide)]) (fun t h => hz4 t h) hN ?_ ?_
  · rw [Z11]; exact R.2.1.cg (M 75 (by decide)) (M 76 (by decide)) Z77
  · obtain ⟨s1, s2, s3⟩ := R.2.2.2.2.1
    refine ⟨s1, by rw [M 94 (by decide)]; exact s2, ?_⟩
    rw [hm4 95 (by decide), noteI_95 _ _ (by decide), hm2 95 (by decide) (by decide), remI_n _ (by omega) (by omega) (by decide)]; exact s3
theorem RelP.dHand (R : RelP mi ml n nx c q s E B1 B2) (X : Int64) : RelP (noteI (remI mi nx c n) c) (u2 (noteL (u2 (remL ml nx n) 1 0 X) c) 96 0 X) n (nxP nx) (cP c) q s E B1 B2 := by
  have hx := R.nx20
  have hE : ∀ t, t = 1 ∨ t = 3 ∨ t = 97 → noteI (remI mi nx c n) c t = mi t := fun t ht => by rw [noteI_n _ _ (by omega) (by omega), remI_n _ (by omega) (by omega) (by omega)]
  have f1 : u2 (noteL (u2 (remL ml nx n) 1 0 X) c) 96 0 X 1 = uf (ml 1) 0 X := by rw [u2_n _ _ _ (by decide), noteL_n _ _ (by decide), u2_s, remL_n _ (by omega) (by omega)]
  have f2 : u2 (noteL (u2 (remL ml nx n) 1 0 X) c) 96 0 X 2 = ml 2 := by rw [u2_n _ _ _ (by decide), noteL_n _ _ (by decide), u2_n _ _ _ (by decide), remL_n _ (by omega) (by omega)]
  have f6 : u2 (noteL (u2 (remL ml nx n) 1 0 X) c) 96 0 X 96 = uf (ml 96) 0 X := by rw [u2_s, noteL_n _ _ (by decide), u2_n _ _ _ (by decide), remL_n _ (by omega) (by omega)]
  refine deed1 R (m2 := remI mi nx c n) (z2 := u2 (remL ml nx n) 1 0 X) (fun t _ _ => rfl) (fun t h _ => u2_n _ _ _ h) (fun t _ => rfl) (fun t h => u2_n _ _ _ h) ?_ ?_
  · rw [u2_s, uf_n _ _ (by decide), remL_n _ (by omega) (by omega)]
  · refine Sto.mk1 R.n40 ?_ ?_ ?_ ?_ (fun k hk => ?_) (fun k hk => ?_) ?_ ?_ ?_
    · rw [hE 1 (by decide)]; exact R.hn
    · rw [f6, uf_n _ _ (by decide)]; exact R.hm
    · rw [f6, f1, uf_s, uf_s]
    · rw [f6, f1, uf_n _ _ (by decide), uf_n _ _ (by decide)]; exact R.h1
    · rw [f6, f2, uf_n _ _ (by omega)]; exact R.own k hk
    · rw [hE 97 (by decide), hE 3 (by decide)]; exact R.knd k hk
    · rw [f1, uf_n _ _ (by decide)]; exact R.cut
    · rw [f2]; exact R.inj
    · rw [hE 3 (by decide)]; exact R.kn3
/-- one mark more: what both sides hold then -/
theorem sto_add {m : MI} {z : ML} {k : Nat} {H : Int64} (R : RelP mi ml n nx c q s E B1 B2) (hn : n < 40) (hk : k < 3) (hl : ∀ j, j < n → ml 2 j ≠ H)
    (e1 : m 1 2 = nI (n + 1)) (e3 : m 3 = uf (mi 3) n (nI k)) (e97 : m 97 = uf (mi 97) n (nI k)) (f0 : z 1 0 = H) (f1 : z 1 1 = ml 1 1) (f2 : z 2 = uf (ml 2) n H) (g0 : z 96 0 = H) (g1 : z 96 1 = ml 96 1) (g2 : z 96 2 = lN (n + 1)) (g3 : ∀ j, j < n → z 96 (3 + j) = ml 96 (3 + j)) (g4 : z 96 (3 + n) = H) : Sto m z 1 96 97 0 0 (n + 1) := by
  refine Sto.mk1 (by omega) e1 g2 (g0.trans f0.symm) ?_ (fun j hj => ?_) (fun j hj => ?_) ?_ (fun i j hi hj e => ?_) (fun j hj => ?_)
  · rw [g1, f1]; exact R.h1
  · rcases Nat.lt_or_ge j n with h | h
    · rw [g3 j h, f2, uf_n _ _ (by omega)]; exact R.own j h
    · rw [show j = n by omega, g4, f2, uf_s]
  · rcases Nat.lt_or_ge j n with h | h
    · rw [e97, e3, uf_n _ _ (by omega), uf_n _ _ (by omega)]; exact R.knd j h
    · rw [show j = n by omega, e97, e3, uf_s, uf_s]
  · rw [f1]; exact R.cut
  · rw [f2] at e
    rcases Nat.lt_or_ge i n with h | h <;> rcases Nat.lt_or_ge j n with h2 | h2
    · rw [uf_n _ _ (by omega), uf_n _ _ (by omega)] at e; exact R.inj i j h h2 e
    · rw [uf_n _ _ (by omega), show j = n by omega, uf_s] at e; exact absurd e (hl i h)
    · rw [uf_n _ _ (show j ≠ n by omega), show i = n by omega, uf_s] at e; exact absurd e.symm (hl j h2)
    · omega
  · rw [e3]
    rcases Nat.lt_or_ge j n with h | h
    · rw [uf_n _ _ (by omega)]; exact R.kn3 j h
    · rw [show j = n by omega, uf_s]
      rcases (show k = 0 ∨ k = 1 ∨ k = 2 by omega) with rfl | rfl | rfl
      · exact Or.inl rfl
      · exact Or.inr (Or.inl rfl)
      · exact Or.inr (Or.inr rfl)
theorem RelP.dPut (R : RelP mi ml n nx c q s E B1 B2) (hn : n < 40) {k : Nat} (hk : k < 3) (hl : fromB (fun j => decide (ml 2 j = ml 1 0)) n 0 = -1) {H : Int64} (hH : H = ml 1 0) : RelP (u2 (noteI (u2 (u2 (remI mi nx c n) 3 n (nI k)) 1 2 (nI (n + 1))) c) 97 n (nI k)) (u2 (u2 (noteL (u2 (remL ml nx n) 2 n (ml 1 0)) c) 96 (3 + n) H) 96 2 (lN (n + 1))) (n + 1) (nxP nx) (cP c) q s E B1 B2 := by
  subst hH
  have hx := R.nx20
  have hl' : ∀ j, j < n → ml 2 j ≠ ml 1 0 := fun j hj => of_decide_eq_false (fromB_none (p := fun j => decide (ml 2 j = ml 1 0)) (by omega) hl j hj)
  refine deed1 R (m2 := u2 (u2 (remI mi nx c n) 3 n (nI k)) 1 2 (nI (n + 1))) (z2 := u2 (remL ml nx n) 2 n (ml 1 0)) (fun t h1 h3 => ?_) (fun t _ h => u2_n _ _ _ h) (fun t h => u2_n _ _ _ h) (fun t h => ?_) ?_ (sto_add R hn hk hl' ?_ ?_ ?_ ?_ ?_ ?_ ?_ ?_ ?_ (fun j hj => ?_) ?_)
  · rw [u2_n _ _ _ h1, u2_n _ _ _ h3]
  · rw [u2_n _ _ _ h, u2_n _ _ _ h]
  · rw [u2_n _ _ _ (by decide), remL_n _ (by omega) (by omega)]
  · rw [u2_n _ _ _ (by decide), noteI_n _ _ (by decide) (by decide), u2_s, uf_s]
  · rw [u2_n _ _ _ (by decide), noteI_n _ _ (by decide) (by decide), u2_n _ _ _ (by decide), u2_s, remI_n _ (by omega) (by omega) (by decide)]
  · rw [u2_s, noteI_n _ _ (by decide) (by decide), u2_n _ _ _ (by decide), u2_n _ _ _ (by decide), remI_n _ (by omega) (by omega) (by decide)]
  · rw [u2_n _ _ _ (by decide), u2_n _ _ _ (by decide), noteL_n _ _ (by decide), u2_n _ _ _ (by decide), remL_n _ (by omega) (by omega)]
  · rw [u2_n _ _ _ (by decide), u2_n _ _ _ (by decide), noteL_n _ _ (by decide), u2_n _ _ _ (by decide), remL_n _ (by omega) (by omega)]
  · rw [u2_n _ _ _ (by decide), u2_n _ _ _ (by decide), noteL_n _ _ (by decide), u2_s, remL_n _ (by omega) (by omega)]
  · rw [u2_s, uf_n _ _ (by decide), u2_s, uf_n _ _ (by omega), noteL_n _ _ (by decide), u2_n _ _ _ (by decide), remL_n _ (by omega) (by omega)]; exact R.h0
  · rw [u2_s, uf_n _ _ (by decide), u2_s, uf_n _ _ (by omega), noteL_n _ _ (by decide), u2_n _ _ _ (by decide), remL_n _ (by omega) (by omega)]
  · rw [u2_s, uf_s]
  · rw [u2_s, uf_n _ _ (by omega), u2_s, uf_n _ _ (by omega), noteL_n _ _ (by decide), u2_n _ _ _ (by decide), remL_n _ (by omega) (by omega)]
  · rw [u2_s, uf_n _ _ (by omega), u2_s, uf_s]
theorem RelP.dCut (R : RelP mi ml n nx c q s E B1 B2) {x : Int64} (hx0 : bt x 0 = true) (hx8 : pop x ≤ 8) {m2 : MI} {z2 : ML} (hP : PtOK m2 z2 75 x) (hm : ∀ t, t ≠ 75 → t ≠ 76 → m2 t = remI mi nx c n t) (hz : ∀ t, t ≠ 77 → z2 t = u2 (remL ml nx n) 1 1 x t) : RelP (noteI m2 c) (u2 (noteL z2 c) 96 1 x) n (nxP nx) (cP c) q s E B1 B2 := by
  have hx := R.nx20
  have hE : ∀ t, t = 1 ∨ t = 3 ∨ t = 94 ∨ t = 97 → noteI m2 c t = mi t := fun t ht => by rw [noteI_n _ _ (by omega) (by omega), hm t (by omega) (by omega), remI_n _ (by omega) (by omega) (by omega)]
  have f1 : u2 (noteL z2 c) 96 1 x 1 = uf (ml 1) 1 x := by rw [u2_n _ _ _ (by decide), noteL_n _ _ (by decide), hz 1 (by decide), u2_s, remL_n _ (by omega) (by omega)]
  have f2 : u2 (noteL z2 c) 96 1 x 2 = ml 2 := by rw [u2_n _ _ _ (by decide), noteL_n _ _ (by decide), hz 2 (by decide), u2_n _ _ _ (by decide), remL_n _ (by omega) (by omega)]
  have f6 : u2 (noteL z2 c) 96 1 x 96 = uf (ml 96) 1 x := by rw [u2_s, noteL_n _ _ (by decide), hz 96 (by decide), u2_n _ _ _ (by decide), remL_n _ (by omega) (by omega)]
  refine deed R (m2 := m2) (z2 := z2) (fun t _ _ h1 h2 _ => hm t h1 h2) (fun t h1 _ h2 => by rw [hz t h2, u2_n _ _ _ h1]) (fun t _ _ => rfl) (fun k _ => rfl) (fun t h => u2_n _ _ _ h) ?_ ?_ ?_
  · refine Sto.mk1 R.n40 ?_ ?_ ?_ ?_ (fun k hk => ?_) (fun k hk => ?_) ?_ ?_ ?_
    · rw [hE 1 (by decide)]; exact R.hn
    · rw [f6, uf_n _ _ (by decide)]; exact R.hm
    · rw [f6, f1, uf_n _ _ (by decide), uf_n _ _ (by decide)]; exact R.h0
    · rw [f6, f1, uf_s, uf_s]
    · rw [f6, f2, uf_n _ _ (by omega)]; exact R.own k hk
    · rw [hE 97 (by decide), hE 3 (by decide)]; exact R.knd k hk
    · rw [f1, uf_s]; exact ⟨hx0, hx8⟩
    · rw [f2]; exact R.inj
    · rw [hE 3 (by decide)]; exact R.kn3
  · rw [f1, uf_s]
    exact hP.cg (noteI_n _ _ (by decide) (by decide)) (noteI_n _ _ (by decide) (by decide)) (by rw [u2_n _ _ _ (by decide), noteL_n _ _ (by decide)])
  · obtain ⟨s1, s2, s3⟩ := R.2.2.2.2.1
    refine ⟨s1, by rw [hE 94 (by decide)]; exact s2, ?_⟩
    rw [noteI_95 _ _ (by decide), hm 95 (by decide) (by decide), remI_n _ (by omega) (by omega) (by decide)]; exact s3
theorem RelP.dTake (R : RelP mi ml n nx c q s E B1 B2) {k : Nat} (hk : k < n) : RelP (u2 (shL (noteI (u2 (shL (remI mi nx c n) 3 k 1 (n - (k + 1))) 1 2 (nI (n - 1))) c) 97 k 1 (n - 1 - k)) 97 (n - 1) (nI 0)) (u2 (u2 (shL (noteL (shL (remL ml nx n) 2 k 1 (n - (k + 1))) c) 96 (3 + k) 1 (n - 1 - k)) 96 (3 + (n - 1)) 0) 96 2 (lN (n - 1))) (n - 1) (nxP nx) (cP c) q s E B1 B2 := by
  have hx := R.nx20
  have h40 := R.n40
  generalize hm2 : u2 (shL (remI mi nx c n) 3 k 1 (n - (k + 1))) 1 2 (nI (n - 1)) = m2
  generalize hz2 : shL (remL ml nx n) 2 k 1 (n - (k + 1)) = z2
  generalize hm4 : u2 (shL (noteI m2 c) 97 k 1 (n - 1 - k)) 97 (n - 1) (nI 0) = m4
  generalize hz4 : u2 (u2 (shL (noteL z2 c) 96 (3 + k) 1 (n - 1 - k)) 96 (3 + (n - 1)) 0) 96 2 (lN (n - 1)) = z4
  have a2 : ∀ t, t ≠ 1 → t ≠ 3 → m2 t = remI mi nx c n t := fun t h1 h3 => by rw [← hm2, u2_n _ _ _ h1, shL_n _ h3]
  have b2 : ∀ t, t ≠ 2 → z2 t = remL ml nx n t := fun t h => by rw [← hz2, shL_n _ h]
  have a4 : ∀ t, t ≠ 97 → m4 t = noteI m2 c t := fun t h => by rw [← hm4, u2_n _ _ _ h, shL_n _ h]
  have b4 : ∀ t, t ≠ 96 → z4 t = noteL z2 c t := fun t h => by rw [← hz4, u2_n _ _ _ h, u2_n _ _ _ h, shL_n _ h]
  have d1 : m4 1 2 = nI (n - 1) := by rw [a4 1 (by decide), noteI_n _ _ (by decide) (by decide), ← hm2, u2_s, uf_s]
  have d3 : ∀ j, j < n - 1 → m4 3 j = mi 3 (if k ≤ j then j + 1 else j) := fun j hj => by
    rw [a4 3 (by decide), noteI_n _ _ (by decide) (by decide), ← hm2, u2_n _ _ _ (by decide)]
    by_cases h : k ≤ j
    · rw [if_pos h, shL_in _ h (by omega), remI_n _ (by omega) (by omega) (by decide)]
    · rw [if_neg h, shL_out _ (Or.inl (by omega)), remI_n _ (by omega) (by omega) (by decide)]
  have n97 : noteI m2 c 97 = mi 97 := by rw [noteI_n _ _ (by decide) (by decide), a2 97 (by decide) (by decide), remI_n _ (by omega) (by omega) (by decide)]
  have n96 : noteL z2 c 96 = ml 96 := by rw [noteL_n _ _ (by decide), b2 96 (by decide), remL_n _ (by omega) (by omega)]
  have d97 : ∀ j, j < n - 1 → m4 97 j = mi 97 (if k ≤ j then j + 1 else j) := fun j hj => by
    rw [← hm4, u2_s, uf_n _ _ (by omega)]
    by_cases h : k ≤ j
    · rw [if_pos h, shL_in _ h (by omega), n97]
    · rw [if_neg h, shL_out _ (Or.inl (by omega)), n97]
  have e1 : z4 1 = ml 1 := by rw [b4 1 (by decide), noteL_n _ _ (by decide), b2 1 (by decide), remL_n _ (by omega) (by omega)]
  have e2 : ∀ j, j < n - 1 → z4 2 j = ml 2 (if k ≤ j then j + 1 else j) := fun j hj => by
    rw [b4 2 (by decide), noteL_n _ _ (by decide), ← hz2]
    by_cases h : k ≤ j
    · rw [if_pos h, shL_in _ h (by omega), remL_n _ (by omega) (by omega)]
    · rw [if_neg h, shL_out _ (Or.inl (by omega)), remL_n _ (by omega) (by omega)]
  have e96 : ∀ j, j < n - 1 → z4 96 (3 + j) = ml 96 (3 + (if k ≤ j then j + 1 else j)) := fun j hj => by
    rw [← hz4, u2_s, uf_n _ _ (by omega), u2_s, uf_n _ _ (by omega)]
    by_cases h : k ≤ j
    · rw [if_pos h, shL_in _ (by omega) (by omega), n96, Nat.add_assoc]
    · rw [if_neg h, shL_out _ (Or.inl (by omega)), n96]
  have e0 : ∀ j, j < 2 → z4 96 j = ml 96 j := fun j hj => by
    rw [← hz4, u2_s, uf_n _ _ (by omega), u2_s, uf_n _ _ (by omega), shL_out _ (Or.inl (by omega)), n96]
  have sf : ∀ j, j < n - 1 → (if k ≤ j then j + 1 else j) < n := fun j hj => by split <;> omega
  refine deed1 R a2 (fun t _ h => b2 t h) a4 b4 (by rw [b2 1 (by decide), remL_n _ (by omega) (by omega)]) (Sto.mk1 (by omega) d1 ?_ ?_ ?_ (fun j hj => ?_) (fun j hj => ?_) ?_ (fun i j hi hj e => ?_) (fun j hj => ?_))
  · rw [← hz4, u2_s, uf_s]
  · rw [e0 0 (by decide), e1]; exact R.h0
  · rw [e0 1 (by decide), e1]; exact R.h1
  · rw [e96 j hj, e2 j hj]; exact R.own _ (sf j hj)
  · rw [d97 j hj, d3 j hj]; exact R.knd _ (sf j hj)
  · rw [e1]; exact R.cut
  · rw [e2 i hi, e2 j hj] at e
    have e' := R.inj _ _ (sf i hi) (sf j hj) e
    by_cases h : k ≤ i <;> by_cases h2 : k ≤ j <;> simp only [h, h2, if_true, if_false] at e' <;> omega
  · rw [d3 j hj]; exact R.kn3 _ (sf j hj)
theorem RelP.dKind (R : RelP mi ml n nx c q s E B1 B2) {k v : Nat} (hk : k < n) (hv : v < 3) : RelP (u2 (noteI (u2 (remI mi nx c n) 3 k (nI v)) c) 97 k (nI v)) (noteL (remL ml nx n) c) n (nxP nx) (cP c) q s E B1 B2 := by
  have hx := R.nx20
  have d1 : u2 (noteI (u2 (remI mi nx c n) 3 k (nI v)) c) 97 k (nI v) 1 = mi 1 := by rw [u2_n _ _ _ (by decide), noteI_n _ _ (by decide) (by decide), u2_n _ _ _ (by decide), remI_n _ (by omega) (by omega) (by decide)]
  have d3 : u2 (noteI (u2 (remI mi nx c n) 3 k (nI v)) c) 97 k (nI v) 3 = uf (mi 3) k (nI v) := by rw [u2_n _ _ _ (by decide), noteI_n _ _ (by decide) (by decide), u2_s, remI_n _ (by omega) (by omega) (by decide)]
  have d97 : u2 (noteI (u2 (remI mi nx c n) 3 k (nI v)) c) 97 k (nI v) 97 = uf (mi 97) k (nI v) := by rw [u2_s, noteI_n _ _ (by decide) (by decide), u2_n _ _ _ (by decide), remI_n _ (by omega) (by omega) (by decide)]
  have hE : ∀ t, t = 1 ∨ t = 2 ∨ t = 96 → noteL (remL ml nx n) c t = ml t := fun t ht => by rw [noteL_n _ _ (by omega), remL_n _ (by omega) (by omega)]
  refine deed1 R (m2 := u2 (remI mi nx c n) 3 k (nI v)) (z2 := remL ml nx n) (fun t _ h => u2_n _ _ _ h) (fun t _ _ => rfl) (fun t h => u2_n _ _ _ h) (fun t _ => rfl) (by rw [remL_n _ (by omega) (by omega)]) (Sto.mk1 R.n40 ?_ ?_ ?_ ?_ (fun j hj => ?_) (fun j hj => ?_) ?_ ?_ (fun j hj => ?_))
  · rw [d1]; exact R.hn
  · rw [hE 96 (by decide)]; exact R.hm
  · rw [hE 96 (by decide), hE 1 (by decide)]; exact R.h0
  · rw [hE 96 (by decide), hE 1 (by decide)]; exact R.h1
  · rw [hE 96 (by decide), hE 2 (by decide)]; exact R.own j hj
  · rw [d97, d3]
    by_cases h : j = k
    · rw [h, uf_s, uf_s]
    · rw [uf_n _ _ h, uf_n _ _ h]; exact R.knd j hj
  · rw [hE 1 (by decide)]; exact R.cut
  · rw [hE 2 (by decide)]; exact R.inj
  · rw [d3]
    by_cases h : j = k
    · rw [h, uf_s]
      rcases (show v = 0 ∨ v = 1 ∨ v = 2 by omega) with rfl | rfl | rfl
      · exact Or.inl rfl
      · exact Or.inr (Or.inl rfl)
      · exact Or.inr (Or.inr rfl)
    · rw [uf_n _ _ h]; exact R.kn3 j hj
/-- cells that no deed changes stand; what is seen, the book, the seed anew -/
theorem RelP.core {m : MI} {z : ML} (R : RelP mi ml n nx c q s E B1 B2) (hm : ∀ t, t < 78 ∨ (96 ≤ t ∧ t < 104) → m t = mi t) (h2 : m 95 2 = mi 95 2) (hz : ∀ t, t < 78 ∨ (96 ≤ t ∧ t < 104) → z t = ml t) {q' s' E' : Nat} {C1 C2 : Nat → Nat} (hS : SeedR m q') (hN : SeenR m z s') (hB : BookR m E' C1 C2) : RelP m z n nx c q' s' E' C1 C2 := by
  obtain ⟨r1, r2, r3, ⟨r4, r5⟩, r6, r7, r8⟩ := R
  refine ⟨r1.cg (hm _ (by decide)) (hm _ (by decide)) (hm _ (by decide)) (hz _ (by decide)) (hz _ (by decide)) (hz _ (by decide)), ?_, r3.cg (hm _ (by decide)) h2 (hm _ (by decide)) (hz _ (by decide)) (fun t _ h2 => ⟨hm _ (by omega), hz _ (by omega)⟩), ⟨r4.cg (hm _ (by decide)) (hm _ (by decide)) (hm _ (by decide)) (hm _ (by decide)) (hm _ (by decide)) (hm _ (by decide)) (hz _ (by decide)) (hz _ (by decide)) (hz _ (by decide)), r5.cg (hm _ (by decide)) (hm _ (by decide)) (hm _ (by decide)) (hm _ (by decide)) (hm _ (by decide)) (hm _ (by decide)) (hz _ (by decide)) (hz _ (by decide)) (hz _ (by decide))⟩, hS, hN, hB⟩
  rw [hz 1 (by decide)]; exact r2.cg (hm _ (by decide)) (hm _ (by decide)) (hz _ (by decide))
theorem RelP.dSee (R : RelP mi ml n nx c q s E B1 B2) (hs : s < 6) (v : Nat) {H : Int64} (hH : H = ml 1 0) : RelP (u2 (u2 (u2 (u2 mi 88 s (nI v)) 86 3 (nI (s + 1))) 105 s (nI v)) 95 10 (nI (s + 1))) (u2 (u2 ml 87 s (ml 1 0)) 104 s H) n nx c q (s + 1) E B1 B2 := by
  subst hH
  have M : ∀ t, t ≠ 86 → t ≠ 88 → t ≠ 95 → t ≠ 105 → u2 (u2 (u2 (u2 mi 88 s (nI v)) 86 3 (nI (s + 1))) 105 s (nI v)) 95 10 (nI (s + 1)) t = mi t := fun t h1 h2 h3 h4 => by rw [u2_n _ _ _ h3, u2_n _ _ _ h4, u2_n _ _ _ h1, u2_n _ _ _ h2]
  have M95 : ∀ k, k ≠ 10 → u2 (u2 (u2 (u2 mi 88 s (nI v)) 86 3 (nI (s + 1))) 105 s (nI v)) 95 10 (nI (s + 1)) 95 k = mi 95 k := fun k h => by rw [u2_s, uf_n _ _ h, u2_n _ _ _ (by decide), u2_n _ _ _ (by decide), u2_n _ _ _ (by decide)]
  have Z : ∀ t, t ≠ 87 → t ≠ 104 → u2 (u2 ml 87 s (ml 1 0)) 104 s (ml 1 0) t = ml t := fun t h1 h2 => by rw [u2_n _ _ _ h2, u2_n _ _ _ h1]
  refine R.core (fun t h => M t (by omega) (by omega) (by omega) (by omega)) (M95 2 (by decide)) (fun t h => Z t (by omega) (by omega)) ?_ ?_ ?_
  · obtain ⟨s1, s2, s3⟩ := R.2.2.2.2.1
    exact ⟨s1, by rw [M 94 (by decide) (by decide) (by decide) (by decide)]; exact s2, by rw [M95 9 (by decide)]; exact s3⟩
  · obtain ⟨s1, s2, s3, s4⟩ := R.2.2.2.2.2.1
    refine ⟨by omega, ?_, ?_, fun i hi => ?_⟩
    · rw [u2_n _ _ _ (by decide), u2_n _ _ _ (by decide), u2_s, uf_s]
    · rw [u2_s, uf_s]
    · have a1 : u2 (u2 ml 87 s (ml 1 0)) 104 s (ml 1 0) 104 = uf (ml 104) s (ml 1 0) := by rw [u2_s, u2_n _ _ _ (by decide)]
      have a2 : u2 (u2 ml 87 s (ml 1 0)) 104 s (ml 1 0) 87 = uf (ml 87) s (ml 1 0) := by rw [u2_n _ _ _ (by decide), u2_s]
      have a3 : u2 (u2 (u2 (u2 mi 88 s (nI v)) 86 3 (nI (s + 1))) 105 s (nI v)) 95 10 (nI (s + 1)) 105 = uf (mi 105) s (nI v) := by rw [u2_n _ _ _ (by decide), u2_s, u2_n _ _ _ (by decide), u2_n _ _ _ (by decide)]
      have a4 : u2 (u2 (u2 (u2 mi 88 s (nI v)) 86 3 (nI (s + 1))) 105 s (nI v)) 95 10 (nI (s + 1)) 88 = uf (mi 88) s (nI v) := by rw [u2_n _ _ _ (by decide), u2_n _ _ _ (by decide), u2_n _ _ _ (by decide), u2_s]
      rw [a1, a2, a3, a4]
      by_cases h : i = s
      · rw [h, uf_s, uf_s, uf_s, uf_s]; exact ⟨rfl, rfl⟩
      · rw [uf_n _ _ h, uf_n _ _ h, uf_n _ _ h, uf_n _ _ h]; exact s4 i (by omega)
  · exact R.2.2.2.2.2.2.cg (M _ (by decide) (by decide) (by decide) (by decide)) (M95 _ (by decide)) (M _ (by decide) (by decide) (by decide) (by decide)) (M _ (by decide) (by decide) (by decide) (by decide)) (M _ (by decide) (by decide) (by decide) (by decide)) (M _ (by decide) (by decide) (by decide) (by decide)) (M _ (by decide) (by decide) (by decide) (by decide)) (M _ (by decide) (by decide) (by decide) (by decide))
theorem RelP.dWrite (R : RelP mi ml n nx c q s E B1 B2) (hE : E < 20) {j k v : Nat} (hj : j < n) (hk : k < n) (hjk : j ≠ k) : RelP (u2 (u2 (u2 (u2 (u2 (u2 (u2 (u2 mi 91 E (nI j)) 92 E (nI k)) 93 E (nI v)) 90 3 (nI (E + 1))) 106 E (nI j)) 107 E (nI k)) 108 E (nI v)) 95 13 (nI (E + 1))) ml n nx c q s (E + 1) (uf B1 E j) (uf B2 E k) := by
  have h40 := R.n40
  generalize hm : u2 (u2 (u2 (u2 (u2 (u2 (u2 (u2 mi 91 E (nI j)) 92 E (nI k)) 93 E (nI v)) 90 3 (nI (E + 1))) 106 E (nI j)) 107 E (nI k)) 108 E (nI v)) 95 13 (nI (E + 1)) = m
  have M : ∀ t, t < 90 ∨ t = 94 ∨ (96 ≤ t ∧ t < 106) → m t = mi t := fun t h => by rw [← hm, u2_n _ _ _ (by omega), u2_n _ _ _ (by omega), u2_n _ _ _ (by omega), u2_n _ _ _ (by omega), u2_n _ _ _ (by omega), u2_n _ _ _ (by omega), u2_n _ _ _ (by omega), u2_n _ _ _ (by omega)]
  have M95 : ∀ k, k ≠ 13 → m 95 k = mi 95 k := fun k h => by rw [← hm, u2_s, uf_n _ _ h, u2_n _ _ _ (by decide), u2_n _ _ _ (by decide), u2_n _ _ _ (by decide), u2_n _ _ _ (by decide), u2_n _ _ _ (by decide), u2_n _ _ _ (by decide), u2_n _ _ _ (by decide)]
  refine R.core (fun t h => M t (by omega)) (M95 2 (by decide)) (fun t h => rfl) ?_ ?_ ?_
  · obtain ⟨s1, s2, s3⟩ := R.2.2.2.2.1
    exact ⟨s1, by rw [M 94 (by decide)]; exact s2, by rw [M95 9 (by decide)]; exact s3⟩
  · exact R.2.2.2.2.2.1.cg (M _ (by decide)) (M95 _ (by decide)) rfl rfl (M _ (by decide)) (M _ (by decide))
  · obtain ⟨b1, b2, b3, b4⟩ := R.2.2.2.2.2.2
    have c91 : m 91 = uf (mi 91) E (nI j) := by rw [← hm, u2_n _ _ _ (by decide), u2_n _ _ _ (by decide), u2_n _ _ _ (by decide), u2_n _ _ _ (by decide), u2_n _ _ _ (by decide), u2_n _ _ _ (by decide), u2_n _ _ _ (by decide), u2_s]
    have c92 : m 92 = uf (mi 92) E (nI k) := by rw [← hm, u2_n _ _ _ (by decide), u2_n _ _ _ (by decide), u2_n _ _ _ (by decide), u2_n _ _ _ (by decide), u2_n _ _ _ (by decide), u2_n _ _ _ (by decide), u2_s, u2_n _ _ _ (by decide)]
    have c93 : m 93 = uf (mi 93) E (nI v) := by rw [← hm, u2_n _ _ _ (by decide), u2_n _ _ _ (by decide), u2_n _ _ _ (by decide), u2_n _ _ _ (by decide), u2_n _ _ _ (by decide), u2_s, u2_n _ _ _ (by decide), u2_n _ _ _ (by decide)]
    have c106 : m 106 = uf (mi 106) E (nI j) := by rw [← hm, u2_n _ _ _ (by decide), u2_n _ _ _ (by decide), u2_n _ _ _ (by decide), u2_s, u2_n _ _ _ (by decide), u2_n _ _ _ (by decide), u2_n _ _ _ (by decide), u2_n _ _ _ (by decide)]
    have c107 : m 107 = uf (mi 107) E (nI k) := by rw [← hm, u2_n _ _ _ (by decide), u2_n _ _ _ (by decide), u2_s, u2_n _ _ _ (by decide), u2_n _ _ _ (by decide), u2_n _ _ _ (by decide), u2_n _ _ _ (by decide), u2_n _ _ _ (by decide)]
    have c108 : m 108 = uf (mi 108) E (nI v) := by rw [← hm, u2_n _ _ _ (by decide), u2_s, u2_n _ _ _ (by decide), u2_n _ _ _ (by decide), u2_n _ _ _ (by decide), u2_n _ _ _ (by decide), u2_n _ _ _ (by decide), u2_n _ _ _ (by decide)]
    refine ⟨by omega, ?_, ?_, fun e he => ?_⟩
    · rw [← hm, u2_n _ _ _ (by decide), u2_n _ _ _ (by decide), u2_n _ _ _ (by decide), u2_n _ _ _ (by decide), u2_s, uf_s]
    · rw [← hm, u2_s, uf_s]
    · rw [c91, c92, c93, c106, c107, c108]
      by_cases h : e = E
      · rw [h, uf_s, uf_s, uf_s, uf_s, uf_s, uf_s, uf_s, uf_s]
        exact ⟨⟨rfl, rfl, by omega⟩, ⟨rfl, rfl, by omega⟩, hjk, rfl⟩
      · rw [uf_n _ _ h, uf_n _ _ h, uf_n _ _ h, uf_n _ _ h, uf_n _ _ h, uf_n _ _ h, uf_n _ _ h, uf_n _ _ h]
        exact b4 e (by omega)
theorem RelP.dTear (R : RelP mi ml n nx c q s E B1 B2) : RelP (u2 (u2 (u2 (u2 mi 86 3 (nI 0)) 90 3 (nI 0)) 95 10 (nI 0)) 95 13 (nI 0)) ml n nx c q 0 0 B1 B2 := by
  generalize hm : u2 (u2 (u2 (u2 mi 86 3 (nI 0)) 90 3 (nI 0)) 95 10 (nI 0)) 95 13 (nI 0) = m
  have M : ∀ t, t ≠ 86 → t ≠ 90 → t ≠ 95 → m t = mi t := fun t h1 h2 h3 => by rw [← hm, u2_n _ _ _ h3, u2_n _ _ _ h3, u2_n _ _ _ h2, u2_n _ _ _ h1]
  have M95 : ∀ k, k ≠ 10 → k ≠ 13 → m 95 k = mi 95 k := fun k h1 h2 => by rw [← hm, u2_s, uf_n _ _ h2, u2_s, uf_n _ _ h1, u2_n _ _ _ (by decide), u2_n _ _ _ (by decide)]
  refine R.core (fun t h => M t (by omega) (by omega) (by omega)) (M95 2 (by decide) (by decide)) (fun t h => rfl) ?_ ⟨by decide, ?_, ?_, fun i hi => by omega⟩ ⟨by decide, ?_, ?_, fun i hi => by omega⟩
  · obtain ⟨s1, s2, s3⟩ := R.2.2.2.2.1
    exact ⟨s1, by rw [M 94 (by decide) (by decide) (by decide)]; exact s2, by rw [M95 9 (by decide) (by decide)]; exact s3⟩
  · rw [← hm, u2_n _ _ _ (by decide), u2_n _ _ _ (by decide), u2_n _ _ _ (by decide), u2_s, uf_s]
  · rw [← hm, u2_s, uf_n _ _ (by decide), u2_s, uf_s]
  · rw [← hm, u2_n _ _ _ (by decide), u2_n _ _ _ (by decide), u2_s, uf_s]
  · rw [← hm, u2_s, uf_s]
theorem RelP.dSeed (R : RelP mi ml n nx c q s E B1 B2) {v : Nat} (hv : v < 2147483648) : RelP (u2 (u2 mi 94 0 (nI v)) 95 9 (nI v)) ml n nx c v s E B1 B2 := by
  have M : ∀ t, t ≠ 94 → t ≠ 95 → u2 (u2 mi 94 0 (nI v)) 95 9 (nI v) t = mi t := fun t h1 h2 => by rw [u2_n _ _ _ h2, u2_n _ _ _ h1]
  have M95 : ∀ k, k ≠ 9 → u2 (u2 mi 94 0 (nI v)) 95 9 (nI v) 95 k = mi 95 k := fun k h => by rw [u2_s, uf_n _ _ h, u2_n _ _ _ (by decide)]
  refine R.core (fun t h => M t (by omega) (by omega)) (M95 2 (by decide)) (fun t h => rfl) ⟨hv, ?_, ?_⟩ ?_ ?_
  · rw [u2_n _ _ _ (by decide), u2_s, uf_s]
  · rw [u2_s, uf_s]
  · exact R.2.2.2.2.2.1.cg (M _ (by decide) (by decide)) (M95 _ (by decide)) rfl rfl (M _ (by decide) (by decide)) (M _ (by decide) (by decide))
  · exact R.2.2.2.2.2.2.cg (M _ (by decide) (by decide)) (M95 _ (by decide)) (M _ (by decide) (by decide)) (M _ (by decide) (by decide)) (M _ (by decide) (by decide)) (M _ (by decide) (by decide)) (M _ (by decide) (by decide)) (M _ (by decide) (by decide))
end DEEDS
