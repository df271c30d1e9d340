/-! class and reference: undo, images, drifts keep the relation -/
theorem bk_eq {nx c d : Nat} (hx : nx < 20) (hd : 1 ≤ d) (hdc : d ≤ c) (hc : c ≤ 20) : bkN nx d = (nx + 20 - c + (c - d)) % 20 := by
  unfold bkN
  by_cases h : nx < d
  · rw [if_pos (by simpa using h)]; omega
  · rw [if_neg (by simpa using h)]; omega
theorem ImR.tr {mi m : MI} {ml z : ML} {im q : Nat} (h : ImR mi ml im q) (h1 : m im = mi im) (h2 : m 103 q = mi 103 q) (h3 : m 102 q = mi 102 q) (h4 : m (im + 1) = mi (im + 1)) (h5 : m (im + 1 + 2) = mi (im + 1 + 2)) (h7 : z (im + 1) = ml (im + 1)) (h8 : z (im + 1 + 1) = ml (im + 1 + 1)) (hL : ∀ i, i < 43 → z 100 (43 * q + i) = ml 100 (43 * q + i)) (hK : ∀ i, i < 40 → m 101 (40 * q + i) = mi 101 (40 * q + i)) : ImR m z im q := by
  rcases h with h | ⟨g1, g2, ⟨zz, g3, g4, g5⟩, nb, g6⟩
  · left; rw [h1, h2]; exact h
  · right; exact ⟨by rw [h1]; exact g1, by rw [h2]; exact g2, ⟨zz, g3, by rw [h1]; exact g4, by rw [h3]; exact g5⟩, nb, g6.tr (by rw [h4]) (by rw [h7]) (by rw [h7]) (fun k _ => by rw [h8]) (fun k _ => by rw [h5]) hL hK⟩
section DEEDS2
variable {mi : MI} {ml : ML} {n nx c q s E : Nat} {B1 B2 : Nat → Nat}
theorem RelP.back (R : RelP mi ml n nx c q s E B1 B2) {d : Nat} (hd : 1 ≤ d) (hdc : d ≤ c) : ∃ nb, Sto mi ml (6 + 3 * bkN nx d) 98 99 (43 * (c - d)) (40 * (c - d)) nb := by
  rw [bk_eq R.nx20 hd hdc R.c20]
  exact R.2.2.1.2.2.2.2.2 (c - d) (by omega)
theorem RelP.dUndo (R : RelP mi ml n nx c q s E B1 B2) {d nb : Nat} (hd : 1 ≤ d) (hdc : d ≤ c) (hb : Sto mi ml (6 + 3 * bkN nx d) 98 99 (43 * (c - d)) (40 * (c - d)) nb) {m2 : MI} {z2 : ML} (hP : PtOK m2 z2 75 (ml (6 + 3 * bkN nx d) 1)) (hm : ∀ t, t ≠ 75 → t ≠ 76 → m2 t = bcI (u2 (u2 mi 4 1 (nI (bkN nx d))) 4 2 (nI (c - d))) 1 (6 + 3 * bkN nx d) nb t) (hz : ∀ t, t ≠ 77 → z2 t = bcL ml 1 (6 + 3 * bkN nx d) nb t) : RelP (cpL (u2 m2 95 2 (nI (c - d))) 97 0 99 (40 * (c - d)) 40) (cpL z2 96 0 98 (43 * (c - d)) 43) nb (bkN nx d) (c - d) q s E B1 B2 := by
  have hx := R.nx20
  have hc20 := R.c20
  have hbk := bkN_lt hx (show d ≤ 20 by omega) hd
  have hbe := bk_eq hx hd hdc hc20
  generalize bkN nx d = b at hb hP hm hz hbk hbe ⊢
  generalize hm4 : cpL (u2 m2 95 2 (nI (c - d))) 97 0 99 (40 * (c - d)) 40 = m4
  generalize hz4 : cpL z2 96 0 98 (43 * (c - d)) 43 = z4
  have a2 : ∀ t, t ≠ 1 → t ≠ 3 → t ≠ 4 → t ≠ 75 → t ≠ 76 → m2 t = mi t := fun t h1 h3 h4 h5 h6 => by rw [hm t h5 h6, bcI_n _ h1 (by omega), u2_n _ _ _ h4, u2_n _ _ _ h4]
  have b2 : ∀ t, t ≠ 1 → t ≠ 2 → t ≠ 77 → z2 t = ml t := fun t h1 h2 h3 => by rw [hz t h3, bcL_n _ h1 (by omega)]
  have a4 : ∀ t, t ≠ 95 → t ≠ 97 → m4 t = m2 t := fun t h1 h2 => by rw [← hm4, cpL_n _ h2, u2_n _ _ _ h1]
  have b4 : ∀ t, t ≠ 96 → z4 t = z2 t := fun t h => by rw [← hz4, cpL_n _ h]
  have M : ∀ t, 4 < t → t ≠ 75 → t ≠ 76 → t ≠ 95 → t ≠ 97 → m4 t = mi t := fun t h1 h2 h3 h4 h5 => by rw [a4 t h4 h5, a2 t (by omega) (by omega) (by omega) h2 h3]
  have Z : ∀ t, 2 < t → t ≠ 77 → t ≠ 96 → z4 t = ml t := fun t h1 h2 h3 => by rw [b4 t h3, b2 t (by omega) (by omega) h2]
  have M95 : ∀ k, k ≠ 2 → m4 95 k = mi 95 k := fun k h => by rw [← hm4, cpL_n _ (by decide), u2_s, uf_n _ _ h, a2 95 (by decide) (by decide) (by decide) (by decide) (by decide)]
  have z11 : z4 1 1 = ml (6 + 3 * b) 1 := by rw [b4 1 (by decide), hz 1 (by decide), bcL_1]
  obtain ⟨r1, r2, ⟨p1, p2, p3, p4, p5, p6⟩, ⟨r4, r5⟩, r6, r7, r8⟩ := R
  refine ⟨?_, ?_, ⟨?_, hbk, ?_, by omega, ?_, fun j hj => ?_⟩, ⟨r4.cg (M _ (by decide) (by decide) (by decide) (by decide) (by decide)) (M _ (by decide) (by decide) (by decide) (by decide) (by decide)) (M _ (by decide) (by decide) (by decide) (by decide) (by decide)) (M _ (by decide) (by decide) (by decide) (by decide) (by decide)) (M _ (by decide) (by decide) (by decide) (by decide) (by decide)) (M _ (by decide) (by decide) (by decide) (by decide) (by decide)) (Z _ (by decide) (by decide) (by decide)) (Z _ (by decide) (by decide) (by decide)) (Z _ (by decide) (by decide) (by decide)), r5.cg (M _ (by decide) (by decide) (by decide) (by decide) (by decide)) (M _ (by decide) (by decide) (by decide) (by decide) (by decide)) (M _ (by decide) (by decide) (by decide) (by decide) (by decide)) (M _ (by decide) (by decide) (by decide) (by decide) (by decide)) (M _ (by decide) (by decide) (by decide) (by decide) (by decide)) (M _ (by decide) (by decide) (by decide) (by decide) (by decide)) (Z _ (by decide) (by decide) (by decide)) (Z _ (by decide) (by decide) (by decide)) (Z _ (by decide) (by decide) (by decide))⟩, ?_, ?_, ?_⟩
  · refine hb.tr ?_ ?_ z11 (fun k hk => ?_) (fun k hk => ?_) (fun i hi => ?_) (fun i hi => ?_)
    · rw [a4 1 (by decide) (by decide), hm 1 (by decide) (by decide), bcI_c]; exact hb.2.1.symm
    · rw [b4 1 (by decide), hz 1 (by decide), bcL_0]
    · rw [b4 (1 + 1) (by decide), hz (1 + 1) (by decide), bcL_k hk (by omega)]
    · rw [a4 (1 + 2) (by decide) (by decide), hm (1 + 2) (by decide) (by decide), bcI_k hk (by omega), u2_n _ _ _ (by omega), u2_n _ _ _ (by omega)]
    · rw [← hz4, cpL_in _ hi, b2 98 (by decide) (by decide) (by decide)]
    · rw [← hm4, cpL_in _ hi, u2_n _ _ _ (by decide), a2 99 (by decide) (by decide) (by decide) (by decide) (by decide)]
  · rw [z11]
    exact hP.cg (a4 75 (by decide) (by decide)) (a4 76 (by decide) (by decide)) (b4 77 (by decide))
  · rw [a4 4 (by decide) (by decide), hm 4 (by decide) (by decide), bcI_n _ (by decide) (by decide), u2_s, uf_n _ _ (by decide), u2_s, uf_s]
  · rw [a4 4 (by decide) (by decide), hm 4 (by decide) (by decide), bcI_n _ (by decide) (by decide), u2_s, uf_s]
  · rw [← hm4, cpL_n _ (by decide), u2_s, uf_s]
  · obtain ⟨nb', hb'⟩ := p6 j (by omega)
    have er : (b + 20 - (c - d) + j) % 20 = (nx + 20 - c + j) % 20 := by omega
    rw [er]
    have hmm := Nat.mod_lt (nx + 20 - c + j) (show 0 < 20 by decide)
    exact ⟨nb', hb'.cg (M _ (by omega) (by omega) (by omega) (by omega) (by omega)) (M _ (by omega) (by omega) (by omega) (by omega) (by omega)) (M _ (by decide) (by decide) (by decide) (by decide) (by decide)) (Z _ (by omega) (by omega) (by omega)) (Z _ (by omega) (by omega) (by omega)) (Z _ (by decide) (by decide) (by decide))⟩
  · obtain ⟨s1, s2, s3⟩ := r6
    exact ⟨s1, by rw [M 94 (by decide) (by decide) (by decide) (by decide) (by decide)]; exact s2, by rw [M95 9 (by decide)]; exact s3⟩
  · exact r7.cg (M _ (by decide) (by decide) (by decide) (by decide) (by decide)) (M95 _ (by decide)) (Z _ (by decide) (by decide) (by decide)) (Z _ (by decide) (by decide) (by decide)) (M _ (by decide) (by decide) (by decide) (by decide) (by decide)) (M _ (by decide) (by decide) (by decide) (by decide) (by decide))
  · exact r8.cg (M _ (by decide) (by decide) (by decide) (by decide) (by decide)) (M95 _ (by decide)) (M _ (by decide) (by decide) (by decide) (by decide) (by decide)) (M _ (by decide) (by decide) (by decide) (by decide) (by decide)) (M _ (by decide) (by decide) (by decide) (by decide) (by decide)) (M _ (by decide) (by decide) (by decide) (by decide) (by decide)) (M _ (by decide) (by decide) (by decide) (by decide) (by decide)) (M _ (by decide) (by decide) (by decide) (by decide) (by decide))
theorem RelP.dKeep (R : RelP mi ml n nx c q s E B1 B2) {im w : Nat} (hi : (im = 67 ∧ w = 0) ∨ (im = 71 ∧ w = 1)) {m2 : MI} {z2 : ML} (hm2 : m2 = u2 (u2 (u2 (bcI mi (im + 1) 1 n) im 1 (mi 94 0)) im 2 (nI 1)) 4 2 (nI 0)) (hz2 : z2 = bcL ml (im + 1) 1 n) : RelP (u2 (u2 (u2 (cpL m2 101 (40 * w) 97 0 40) 102 w ((cpL m2 101 (40 * w) 97 0 40) 95 9)) 103 w (nI 1)) 95 2 (nI 0)) (cpL z2 100 (43 * w) 96 0 43) n nx 0 q s E B1 B2 := by
  generalize hm4 : u2 (u2 (u2 (cpL m2 101 (40 * w) 97 0 40) 102 w ((cpL m2 101 (40 * w) 97 0 40) 95 9)) 103 w (nI 1)) 95 2 (nI 0) = m4
  generalize hz4 : cpL z2 100 (43 * w) 96 0 43 = z4
  have a2 : ∀ t, t ≠ im → t ≠ im + 1 → t ≠ im + 3 → t ≠ 4 → m2 t = mi t := fun t h1 h2 h3 h4 => by rw [hm2, u2_n _ _ _ h4, u2_n _ _ _ h1, u2_n _ _ _ h1, bcI_n _ h2 (by omega)]
  have b2 : ∀ t, t ≠ im + 1 → t ≠ im + 2 → z2 t = ml t := fun t h1 h2 => by rw [hz2, bcL_n _ h1 (by omega)]
  have a4 : ∀ t, t ≠ 95 → t ≠ 101 → t ≠ 102 → t ≠ 103 → m4 t = m2 t := fun t h1 h2 h3 h4 => by rw [← hm4, u2_n _ _ _ h1, u2_n _ _ _ h4, u2_n _ _ _ h3, cpL_n _ h2]
  have b4 : ∀ t, t ≠ 100 → z4 t = z2 t := fun t h => by rw [← hz4, cpL_n _ h]
  have M : ∀ t, t ≠ im → t ≠ im + 1 → t ≠ im + 3 → t ≠ 4 → t ≠ 95 → t ≠ 101 → t ≠ 102 → t ≠ 103 → m4 t = mi t := fun t h1 h2 h3 h4 h5 h6 h7 h8 => by rw [a4 t h5 h6 h7 h8, a2 t h1 h2 h3 h4]
  have Z : ∀ t, t ≠ im + 1 → t ≠ im + 2 → t ≠ 100 → z4 t = ml t := fun t h1 h2 h3 => by rw [b4 t h3, b2 t h1 h2]
  have M95 : ∀ k, k ≠ 2 → m4 95 k = mi 95 k := fun k h => by rw [← hm4, u2_s, uf_n _ _ h, u2_n _ _ _ (by decide), u2_n _ _ _ (by decide), cpL_n _ (by decide), a2 95 (by omega) (by omega) (by omega) (by decide)]
  have M103 : ∀ k, k ≠ w → m4 103 k = mi 103 k := fun k h => by rw [← hm4, u2_n _ _ _ (by decide), u2_s, uf_n _ _ h, u2_n _ _ _ (by decide), cpL_n _ (by decide), a2 103 (by omega) (by omega) (by omega) (by decide)]
  have M102 : ∀ k, k ≠ w → m4 102 k = mi 102 k := fun k h => by rw [← hm4, u2_n _ _ _ (by decide), u2_n _ _ _ (by decide), u2_s, uf_n _ _ h, cpL_n _ (by decide), a2 102 (by omega) (by omega) (by omega) (by decide)]
  have m101 : m4 101 = cpL m2 101 (40 * w) 97 0 40 101 := by rw [← hm4, u2_n _ _ _ (by decide), u2_n _ _ _ (by decide), u2_n _ _ _ (by decide)]
  obtain ⟨r1, r2, ⟨p1, p2, p3, p4, p5, p6⟩, ⟨r4, r5⟩, ⟨s1, s2, s3⟩, r7, r8⟩ := R
  have hnew : ImR m4 z4 im w := by
    right
    refine ⟨?_, ?_, ⟨q, s1, ?_, ?_⟩, n, r1.tr ?_ ?_ ?_ (fun k hk => ?_) (fun k hk => ?_) (fun i hi => ?_) (fun i hi => ?_)⟩
    · rw [a4 im (by omega) (by omega) (by omega) (by omega), hm2, u2_n _ _ _ (by omega), u2_s, uf_s]
    · rw [← hm4, u2_n _ _ _ (by decide), u2_s, uf_s]
    · rw [a4 im (by omega) (by omega) (by omega) (by omega), hm2, u2_n _ _ _ (by omega), u2_s, uf_n _ _ (by decide), u2_s, uf_s]; exact s2
    · rw [← hm4, u2_n _ _ _ (by decide), u2_n _ _ _ (by decide), u2_s, uf_s, cpL_n _ (by decide), a2 95 (by omega) (by omega) (by omega) (by decide)]; exact s3
    · rw [a4 (im + 1) (by omega) (by omega) (by omega) (by omega), hm2, u2_n _ _ _ (by omega), u2_n _ _ _ (by omega), u2_n _ _ _ (by omega), bcI_c]; exact r1.2.1.symm
    · rw [b4 (im + 1) (by omega), hz2, bcL_0]
    · rw [b4 (im + 1) (by omega), hz2, bcL_1]
    · rw [b4 (im + 1 + 1) (by omega), hz2, bcL_k hk (by omega)]
    · rw [a4 (im + 1 + 2) (by omega) (by omega) (by omega) (by omega), hm2, u2_n _ _ _ (by omega), u2_n _ _ _ (by omega), u2_n _ _ _ (by omega), bcI_k hk (by omega)]
    · rw [← hz4, cpL_in _ hi, b2 96 (by omega) (by omega)]
    · rw [m101, cpL_in _ hi, a2 97 (by omega) (by omega) (by omega) (by decide)]
  have hold : ∀ {jm v : Nat}, (jm = 67 ∧ v = 0) ∨ (jm = 71 ∧ v = 1) → jm ≠ im → ImR mi ml jm v → ImR m4 z4 jm v := by
    intro jm v hj hne h
    refine h.tr (M _ (by omega) (by omega) (by omega) (by omega) (by omega) (by omega) (by omega) (by omega)) (M103 v (by omega)) (M102 v (by omega)) (M _ (by omega) (by omega) (by omega) (by omega) (by omega) (by omega) (by omega) (by omega)) (M _ (by omega) (by omega) (by omega) (by omega) (by omega) (by omega) (by omega) (by omega)) (Z _ (by omega) (by omega) (by omega)) (Z _ (by omega) (by omega) (by omega)) (fun i hi2 => ?_) (fun i hi2 => ?_)
    · rw [← hz4, cpL_out _ (by omega), b2 100 (by omega) (by omega)]
    · rw [m101, cpL_out _ (by omega), a2 101 (by omega) (by omega) (by omega) (by decide)]
  refine ⟨r1.cg (M _ (by omega) (by omega) (by omega) (by omega) (by omega) (by omega) (by omega) (by omega)) (M _ (by omega) (by omega) (by omega) (by omega) (by omega) (by omega) (by omega) (by omega)) (M _ (by omega) (by omega) (by omega) (by omega) (by omega) (by omega) (by omega) (by omega)) (Z _ (by omega) (by omega) (by omega)) (Z _ (by omega) (by omega) (by omega)) (Z _ (by omega) (by omega) (by omega)), ?_, ⟨?_, p2, ?_, by decide, ?_, fun j hj => by omega⟩, ?_, ?_, ?_, ?_⟩
  · rw [Z 1 (by omega) (by omega) (by omega)]
    exact r2.cg (M _ (by omega) (by omega) (by omega) (by omega) (by omega) (by omega) (by omega) (by omega)) (M _ (by omega) (by omega) (by omega) (by omega) (by omega) (by omega) (by omega) (by omega)) (Z _ (by omega) (by omega) (by omega))
  · rw [a4 4 (by decide) (by decide) (by decide) (by decide), hm2, u2_s, uf_n _ _ (by decide), u2_n _ _ _ (by omega), u2_n _ _ _ (by omega), bcI_n _ (by omega) (by omega)]; exact p1
  · rw [a4 4 (by decide) (by decide) (by decide) (by decide), hm2, u2_s, uf_s]
  · rw [← hm4, u2_s, uf_s]
  · rcases hi with ⟨e1, e2⟩ | ⟨e1, e2⟩
    · exact ⟨by rw [e1, e2] at hnew; exact hnew, hold (Or.inr ⟨rfl, rfl⟩) (by omega) r5⟩
    · exact ⟨hold (Or.inl ⟨rfl, rfl⟩) (by omega) r4, by rw [e1, e2] at hnew; exact hnew⟩
  · exact ⟨s1, by rw [M 94 (by omega) (by omega) (by omega) (by omega) (by omega) (by omega) (by omega) (by omega)]; exact s2, by rw [M95 9 (by decide)]; exact s3⟩
  · exact r7.cg (M _ (by omega) (by omega) (by omega) (by omega) (by omega) (by omega) (by omega) (by omega)) (M95 _ (by decide)) (Z _ (by omega) (by omega) (by omega)) (Z _ (by omega) (by omega) (by omega)) (M _ (by omega) (by omega) (by omega) (by omega) (by omega) (by omega) (by omega) (by omega)) (M _ (by omega) (by omega) (by omega) (by omega) (by omega) (by omega) (by omega) (by omega))
  · exact r8.cg (M _ (by omega) (by omega) (by omega) (by omega) (by omega) (by omega) (by omega) (by omega)) (M95 _ (by decide)) (M _ (by omega) (by omega) (by omega) (by omega) (by omega) (by omega) (by omega) (by omega)) (M _ (by omega) (by omega) (by omega) (by omega) (by omega) (by omega) (by omega) (by omega)) (M _ (by omega) (by omega) (by omega) (by omega) (by omega) (by omega) (by omega) (by omega)) (M _ (by omega) (by omega) (by omega) (by omega) (by omega) (by omega) (by omega) (by omega)) (M _ (by omega) (by omega) (by omega) (by omega) (by omega) (by omega) (by omega) (by omega)) (M _ (by omega) (by omega) (by omega) (by omega) (by omega) (by omega) (by omega) (by omega))
theorem RelP.dGo (R : RelP mi ml n nx c q s E B1 B2) {im w nb zz : Nat} (hi : (im = 67 ∧ w = 0) ∨ (im = 71 ∧ w = 1)) (hz1 : zz < 2147483648) (hz2 : mi im 1 = nI zz) (hz3 : mi 102 w = nI zz) (hb : Sto mi ml (im + 1) 100 101 (43 * w) (40 * w) nb) {m2 : MI} {z2 : ML} (hP : PtOK m2 z2 75 (ml (im + 1) 1)) (hm : ∀ t, t ≠ 75 → t ≠ 76 → m2 t = u2 (u2 (bcI mi 1 (im + 1) nb) 94 0 (mi im 1)) 4 2 (nI 0) t) (hz : ∀ t, t ≠ 77 → z2 t = bcL ml 1 (im + 1) nb t) : RelP (u2 (u2 (cpL m2 97 0 101 (40 * w) 40) 95 9 ((cpL m2 97 0 101 (40 * w) 40) 102 w)) 95 2 (nI 0)) (cpL z2 96 0 100 (43 * w) 43) nb nx 0 zz s E B1 B2 := by
  generalize hm4 : u2 (u2 (cpL m2 97 0 101 (40 * w) 40) 95 9 ((cpL m2 97 0 101 (40 * w) 40) 102 w)) 95 2 (nI 0) = m4
  generalize hz4 : cpL z2 96 0 100 (43 * w) 43 = z4
  have a2 : ∀ t, t ≠ 1 → t ≠ 3 → t ≠ 4 → t ≠ 75 → t ≠ 76 → t ≠ 94 → m2 t = mi t := fun t h1 h3 h4 h5 h6 h7 => by rw [hm t h5 h6, u2_n _ _ _ h4, u2_n _ _ _ h7, bcI_n _ h1 (by omega)]
  have b2 : ∀ t, t ≠ 1 → t ≠ 2 → t ≠ 77 → z2 t = ml t := fun t h1 h2 h3 => by rw [hz t h3, bcL_n _ h1 (by omega)]
  have a4 : ∀ t, t ≠ 95 → t ≠ 97 → m4 t = m2 t := fun t h1 h2 => by rw [← hm4, u2_n _ _ _ h1, u2_n _ _ _ h1, cpL_n _ h2]
  have b4 : ∀ t, t ≠ 96 → z4 t = z2 t := fun t h => by rw [← hz4, cpL_n _ h]
  have M : ∀ t, 4 < t → t ≠ 75 → t ≠ 76 → t ≠ 94 → t ≠ 95 → t ≠ 97 → m4 t = mi t := fun t h1 h2 h3 h6 h4 h5 => by rw [a4 t h4 h5, a2 t (by omega) (by omega) (by omega) h2 h3 h6]
  have Z : ∀ t, 2 < t → t ≠ 77 → t ≠ 96 → z4 t = ml t := fun t h1 h2 h3 => by rw [b4 t h3, b2 t (by omega) (by omega) h2]
  have M95 : ∀ k, k ≠ 2 → k ≠ 9 → m4 95 k = mi 95 k := fun k h h9 => by rw [← hm4, u2_s, uf_n _ _ h, u2_s, uf_n _ _ h9, cpL_n _ (by decide), a2 95 (by decide) (by decide) (by decide) (by decide) (by decide) (by decide)]
  have z11 : z4 1 1 = ml (im + 1) 1 := by rw [b4 1 (by decide), hz 1 (by decide), bcL_1]
  obtain ⟨r1, r2, ⟨p1, p2, p3, p4, p5, p6⟩, ⟨r4, r5⟩, r6, r7, r8⟩ := R
  refine ⟨?_, ?_, ⟨?_, p2, ?_, by decide, ?_, fun j hj => by omega⟩, ⟨r4.cg (M _ (by decide) (by decide) (by decide) (by decide) (by decide) (by decide)) (M _ (by decide) (by decide) (by decide) (by decide) (by decide) (by decide)) (M _ (by decide) (by decide) (by decide) (by decide) (by decide) (by decide)) (M _ (by decide) (by decide) (by decide) (by decide) (by decide) (by decide)) (M _ (by decide) (by decide) (by decide) (by decide) (by decide) (by decide)) (M _ (by decide) (by decide) (by decide) (by decide) (by decide) (by decide)) (Z _ (by decide) (by decide) (by decide)) (Z _ (by decide) (by decide) (by decide)) (Z _ (by decide) (by decide) (by decide)), r5.cg (M _ (by decide) (by decide) (by decide) (by decide) (by decide) (by decide)) (M _ (by decide) (by decide) (by decide) (by decide) (by decide) (by decide)) (M _ (by decide) (by decide) (by decide) (by decide) (by decide) (by decide)) (M _ (by decide) (by decide) (by decide) (by decide) (by decide) (by decide)) (M _ (by decide) (by decide) (by decide) (by decide) (by decide) (by decide)) (M _ (by decide) (by decide) (by decide) (by decide) (by decide) (by decide)) (Z _ (by decide) (by decide) (by decide)) (Z _ (by decide) (by decide) (by decide)) (Z _ (by decide) (by decide) (by decide))⟩, ⟨hz1, ?_, ?_⟩, ?_, ?_⟩
  · refine hb.tr ?_ ?_ z11 (fun k hk => ?_) (fun k hk => ?_) (fun i hi2 => ?_) (fun i hi2 => ?_)
    · rw [a4 1 (by decide) (by decide), hm 1 (by decide) (by decide), u2_n _ _ _ (by decide), u2_n _ _ _ (by decide), bcI_c]; exact hb.2.1.symm
    · rw [b4 1 (by decide), hz 1 (by decide), bcL_0]
    · rw [b4 (1 + 1) (by decide), hz (1 + 1) (by decide), bcL_k hk (by omega)]
    · rw [a4 (1 + 2) (by decide) (by decide), hm (1 + 2) (by decide) (by decide), u2_n _ _ _ (by decide), u2_n _ _ _ (by decide), bcI_k hk (by omega)]
    · rw [← hz4, cpL_in _ hi2, b2 100 (by decide) (by decide) (by decide)]
    · rw [← hm4, u2_n _ _ _ (by decide), u2_n _ _ _ (by decide), cpL_in _ hi2, a2 101 (by decide) (by decide) (by decide) (by decide) (by decide) (by decide)]
  · rw [z11]
    exact hP.cg (a4 75 (by decide) (by decide)) (a4 76 (by decide) (by decide)) (b4 77 (by decide))
  · rw [a4 4 (by decide) (by decide), hm 4 (by decide) (by decide), u2_s, uf_n _ _ (by decide), u2_n _ _ _ (by decide), bcI_n _ (by decide) (by decide)]; exact p1
  · rw [a4 4 (by decide) (by decide), hm 4 (by decide) (by decide), u2_s, uf_s]
  · rw [← hm4, u2_s, uf_s]
  · rw [a4 94 (by decide) (by decide), hm 94 (by decide) (by decide), u2_n _ _ _ (by decide), u2_s, uf_s]; exact hz2
  · rw [← hm4, u2_s, uf_n _ _ (by decide), u2_s, uf_s, cpL_n _ (by decide), a2 102 (by decide) (by decide) (by decide) (by decide) (by decide) (by decide)]; exact hz3
  · exact r7.cg (M _ (by decide) (by decide) (by decide) (by decide) (by decide) (by decide)) (M95 _ (by decide) (by decide)) (Z _ (by decide) (by decide) (by decide)) (Z _ (by decide) (by decide) (by decide)) (M _ (by decide) (by decide) (by decide) (by decide) (by decide) (by decide)) (M _ (by decide) (by decide) (by decide) (by decide) (by decide) (by decide))
  · exact r8.cg (M _ (by decide) (by decide) (by decide) (by decide) (by decide) (by decide)) (M95 _ (by decide) (by decide)) (M _ (by decide) (by decide) (by decide) (by decide) (by decide) (by decide)) (M _ (by decide) (by decide) (by decide) (by decide) (by decide) (by decide)) (M _ (by decide) (by decide) (by decide) (by decide) (by decide) (by decide)) (M _ (by decide) (by decide) (by decide) (by decide) (by decide) (by decide)) (M _ (by decide) (by decide) (by decide) (by decide) (by decide) (by decide)) (M _ (by decide) (by decide) (by decide) (by decide) (by decide) (by decide))
/-- times by draws -/
theorem RelP.lotNo (R : RelP mi ml n nx c q s E B1 B2) (H : Int64) {Z : Nat} (hZ : Z < 2147483648) : RelP (u2 (noteI (u2 (remI mi nx c n) 94 0 (nI Z)) c) 95 9 (nI Z)) (u2 (noteL (u2 (remL ml nx n) 1 0 H) c) 96 0 H) n (nxP nx) (cP c) Z s E B1 B2 := by
  have hx := R.nx20
  generalize hm2 : u2 (remI mi nx c n) 94 0 (nI Z) = m2
  generalize hz2 : u2 (remL ml nx n) 1 0 H = z2
  generalize hm4 : u2 (noteI m2 c) 95 9 (nI Z) = m4
  generalize hz4 : u2 (noteL z2 c) 96 0 H = z4
  have a2 : ∀ t, t ≠ 94 → m2 t = remI mi nx c n t := fun t h => by rw [← hm2, u2_n _ _ _ h]
  have b2 : ∀ t, t ≠ 1 → z2 t = remL ml nx n t := fun t h => by rw [← hz2, u2_n _ _ _ h]
  have a4 : ∀ t, t ≠ 95 → m4 t = noteI m2 c t := fun t h => by rw [← hm4, u2_n _ _ _ h]
  have b4 : ∀ t, t ≠ 96 → z4 t = noteL z2 c t := fun t h => by rw [← hz4, u2_n _ _ _ h]
  have hE : ∀ t, t = 1 ∨ t = 3 ∨ t = 75 ∨ t = 76 ∨ t = 97 → m4 t = mi t := fun t ht => by rw [a4 t (by omega), noteI_n _ _ (by omega) (by omega), a2 t (by omega), remI_n _ (by omega) (by omega) (by omega)]
  have f1 : z4 1 = uf (ml 1) 0 H := by rw [b4 1 (by decide), noteL_n _ _ (by decide), ← hz2, u2_s, remL_n _ (by omega) (by omega)]
  have hF : ∀ t, t = 2 ∨ t = 77 → z4 t = ml t := fun t ht => by rw [b4 t (by omega), noteL_n _ _ (by omega), b2 t (by omega), remL_n _ (by omega) (by omega)]
  have f6 : z4 96 = uf (ml 96) 0 H := by rw [← hz4, u2_s, noteL_n _ _ (by decide), b2 96 (by decide), remL_n _ (by omega) (by omega)]
  refine deed R (m2 := m2) (z2 := z2) (fun t _ _ _ _ h => a2 t h) (fun t h _ _ => b2 t h) (fun t h _ => a4 t h) (fun k h => by rw [← hm4, u2_s, uf_n _ _ h]) (fun t h => b4 t h) (Sto.mk1 R.n40 ?_ ?_ ?_ ?_ (fun k hk => ?_) (fun k hk => ?_) ?_ ?_ ?_) ?_ ⟨hZ, ?_, ?_⟩
  · rw [hE 1 (by decide)]; exact R.hn
  · rw [f6, uf_n _ _ (by decide)]; exact R.hm
  · rw [f6, f1, uf_s, uf_s]
  · rw [f6, f1, uf_n _ _ (by decide), uf_n _ _ (by decide)]; exact R.h1
  · rw [f6, hF 2 (by decide), uf_n _ _ (by omega)]; exact R.own k hk
  · rw [hE 97 (by decide), hE 3 (by decide)]; exact R.knd k hk
  · rw [f1, uf_n _ _ (by decide)]; exact R.cut
  · rw [hF 2 (by decide)]; exact R.inj
  · rw [hE 3 (by decide)]; exact R.kn3
  · rw [f1, uf_n _ _ (by decide)]; exact R.2.1.cg (hE 75 (by decide)) (hE 76 (by decide)) (hF 77 (by decide))
  · rw [a4 94 (by decide), noteI_n _ _ (by decide) (by decide), ← hm2, u2_s, uf_s]
  · rw [← hm4, u2_s, uf_s]
theorem RelP.lotYes (R : RelP mi ml n nx c q s E B1 B2) (hn : n < 40) (H : Int64) {Z : Nat} (hZ : Z < 2147483648) (hl : ∀ j, j < n → ml 2 j ≠ H) : RelP (u2 (u2 (noteI (u2 (u2 (u2 (remI mi nx c n) 94 0 (nI Z)) 3 n (nI 0)) 1 2 (nI (n + 1))) c) 95 9 (nI Z)) 97 n (nI 0)) (u2 (u2 (u2 (noteL (u2 (u2 (remL ml nx n) 1 0 H) 2 n H) c) 96 0 H) 96 (3 + n) H) 96 2 (lN (n + 1))) (n + 1) (nxP nx) (cP c) Z s E B1 B2 := by
  have hx := R.nx20
  generalize hm2 : u2 (u2 (u2 (remI mi nx c n) 94 0 (nI Z)) 3 n (nI 0)) 1 2 (nI (n + 1)) = m2
  generalize hz2 : u2 (u2 (remL ml nx n) 1 0 H) 2 n H = z2
  generalize hm4 : u2 (u2 (noteI m2 c) 95 9 (nI Z)) 97 n (nI 0) = m4
  generalize hz4 : u2 (u2 (u2 (noteL z2 c) 96 0 H) 96 (3 + n) H) 96 2 (lN (n + 1)) = z4
  have a2 : ∀ t, t ≠ 1 → t ≠ 3 → t ≠ 94 → m2 t = remI mi nx c n t := fun t h1 h3 h => by rw [← hm2, u2_n _ _ _ h1, u2_n _ _ _ h3, u2_n _ _ _ h]
  have b2 : ∀ t, t ≠ 1 → t ≠ 2 → z2 t = remL ml nx n t := fun t h h2 => by rw [← hz2, u2_n _ _ _ h2, u2_n _ _ _ h]
  have a4 : ∀ t, t ≠ 95 → t ≠ 97 → m4 t = noteI m2 c t := fun t h h2 => by rw [← hm4, u2_n _ _ _ h2, u2_n _ _ _ h]
  have b4 : ∀ t, t ≠ 96 → z4 t = noteL z2 c t := fun t h => by rw [← hz4, u2_n _ _ _ h, u2_n _ _ _ h, u2_n _ _ _ h]
  have z96 : noteL z2 c 96 = ml 96 := by rw [noteL_n _ _ (by decide), b2 96 (by decide) (by decide), remL_n _ (by omega) (by omega)]
  have hE : ∀ t, t = 75 ∨ t = 76 → m4 t = mi t := fun t ht => by rw [a4 t (by omega) (by omega), noteI_n _ _ (by omega) (by omega), a2 t (by omega) (by omega) (by omega), remI_n _ (by omega) (by omega) (by omega)]
  have z11 : z4 1 1 = ml 1 1 := by rw [b4 1 (by decide), noteL_n _ _ (by decide), ← hz2, u2_n _ _ _ (by decide), u2_s, uf_n _ _ (by decide), remL_n _ (by omega) (by omega)]
  refine deed R (m2 := m2) (z2 := z2) (fun t h1 h3 _ _ h => a2 t h1 h3 h) (fun t h h2 _ => b2 t h h2) (fun t h h2 => a4 t h h2) (fun k h => by rw [← hm4, u2_n _ _ _ (by decide), u2_s, uf_n _ _ h]) (fun t h => b4 t h) (sto_add (k := 0) R hn (by decide) hl ?_ ?_ ?_ ?_ z11 ?_ ?_ ?_ ?_ (fun j hj => ?_) ?_) ?_ ⟨hZ, ?_, ?_⟩
  · rw [a4 1 (by decide) (by decide), noteI_n _ _ (by decide) (by decide), ← hm2, u2_s, uf_s]
  · rw [a4 3 (by decide) (by decide), noteI_n _ _ (by decide) (by decide), ← hm2, u2_n _ _ _ (by decide), u2_s, u2_n _ _ _ (by decide), remI_n _ (by omega) (by omega) (by decide)]
  · rw [← hm4, u2_s, u2_n _ _ _ (by decide), noteI_n _ _ (by decide) (by decide), a2 97 (by decide) (by decide) (by decide), remI_n _ (by omega) (by omega) (by decide)]
  · rw [b4 1 (by decide), noteL_n _ _ (by decide), ← hz2, u2_n _ _ _ (by decide), u2_s, uf_s]
  · rw [b4 2 (by decide), noteL_n _ _ (by decide), ← hz2, u2_s, u2_n _ _ _ (by decide), remL_n _ (by omega) (by omega)]
  · rw [← hz4, u2_s, uf_n _ _ (by decide), u2_s, uf_n _ _ (by omega), u2_s, uf_s]
  · rw [← hz4, u2_s, uf_n _ _ (by decide), u2_s, uf_n _ _ (by omega), u2_s, uf_n _ _ (by decide), z96]
  · rw [← hz4, u2_s, uf_s]
  · rw [← hz4, u2_s, uf_n _ _ (by omega), u2_s, uf_n _ _ (by omega), u2_s, uf_n _ _ (by omega), z96]
  · rw [← hz4, u2_s, uf_n _ _ (by omega), u2_s, uf_s]
  · rw [z11]; exact R.2.1.cg (hE 75 (by decide)) (hE 76 (by decide)) (by rw [b4 77 (by decide), noteL_n _ _ (by decide), b2 77 (by decide) (by decide), remL_n _ (by omega) (by omega)])
  · rw [a4 94 (by decide) (by decide), noteI_n _ _ (by decide) (by decide), ← hm2, u2_n _ _ _ (by decide), u2_n _ _ _ (by decide), u2_s, uf_s]
  · rw [← hm4, u2_n _ _ _ (by decide), u2_s, uf_s]
end DEEDS2
