/-! class and reference: what holds between their cells -/
def Sto (mi : MI) (ml : ML) (a A K p q n : Nat) : Prop :=
  n ≤ 40 ∧ mi a 2 = nI n ∧ ml A (p + 2) = lN n ∧ ml A p = ml a 0 ∧ ml A (p + 1) = ml a 1 ∧ (∀ k, k < n → ml A (p + 3 + k) = ml (a + 1) k) ∧ (∀ k, k < n → mi K (q + k) = mi (a + 2) k) ∧ (bt (ml a 1) 0 = true ∧ pop (ml a 1) ≤ 8) ∧ (∀ j k, j < n → k < n → ml (a + 1) j = ml (a + 1) k → j = k) ∧ ∀ k, k < n → mi (a + 2) k = nI 0 ∨ mi (a + 2) k = nI 1 ∨ mi (a + 2) k = nI 2
theorem Sto.tr {mi m : MI} {ml z : ML} {a A K p q n a' A' K' p' q' : Nat} (h : Sto mi ml a A K p q n) (hc : m a' 2 = mi a 2) (h0 : z a' 0 = ml a 0) (h1 : z a' 1 = ml a 1) (hM : ∀ k, k < n → z (a' + 1) k = ml (a + 1) k) (hKi : ∀ k, k < n → m (a' + 2) k = mi (a + 2) k) (hL : ∀ i, i < 43 → z A' (p' + i) = ml A (p + i)) (hK : ∀ i, i < 40 → m K' (q' + i) = mi K (q + i)) : Sto m z a' A' K' p' q' n := by
  obtain ⟨a1, a2, a3, a4, a5, a6, a7, a8, a9, a10⟩ := h
  refine ⟨a1, hc.trans a2, (hL 2 (by decide)).trans a3, ((hL 0 (by decide)).trans a4).trans h0.symm, ((hL 1 (by decide)).trans a5).trans h1.symm, fun k hk => ?_, fun k hk => ?_, ?_, fun j k hj hk e => ?_, fun k hk => ?_⟩
  · have := hL (3 + k) (by omega)
    rw [← Nat.add_assoc, ← Nat.add_assoc] at this
    rw [this, a6 k hk, hM k hk]
  · rw [hK k (by omega), a7 k hk, hKi k hk]
  · rw [h1]; exact a8
  · rw [hM j hj, hM k hk] at e; exact a9 j k hj hk e
  · rw [hKi k hk]; exact a10 k hk
theorem Sto.cg {mi m : MI} {ml z : ML} {a A K p q n : Nat} (h : Sto mi ml a A K p q n) (h1 : m a = mi a) (h2 : m (a + 2) = mi (a + 2)) (h3 : m K = mi K) (h4 : z a = ml a) (h5 : z (a + 1) = ml (a + 1)) (h6 : z A = ml A) : Sto m z a A K p q n :=
  h.tr (by rw [h1]) (by rw [h4]) (by rw [h4]) (fun k _ => by rw [h5]) (fun k _ => by rw [h2]) (fun i _ => by rw [h6]) (fun i _ => by rw [h3])
def PastR (mi : MI) (ml : ML) (nx c : Nat) : Prop := mi 4 1 = nI nx ∧ nx < 20 ∧ mi 4 2 = nI c ∧ c ≤ 20 ∧ mi 95 2 = nI c ∧ ∀ j, j < c → ∃ nb, Sto mi ml (6 + 3 * ((nx + 20 - c + j) % 20)) 98 99 (43 * j) (40 * j) nb
def ImR (mi : MI) (ml : ML) (im q : Nat) : Prop := (mi im 2 = nI 0 ∧ mi 103 q = nI 0) ∨ (mi im 2 = nI 1 ∧ mi 103 q = nI 1 ∧ (∃ z, z < 2147483648 ∧ mi im 1 = nI z ∧ mi 102 q = nI z) ∧ ∃ nb, Sto mi ml (im + 1) 100 101 (43 * q) (40 * q) nb)
def SeedR (mi : MI) (z : Nat) : Prop := z < 2147483648 ∧ mi 94 0 = nI z ∧ mi 95 9 = nI z
def SeenR (mi : MI) (ml : ML) (s : Nat) : Prop := s ≤ 6 ∧ mi 86 3 = nI s ∧ mi 95 10 = nI s ∧ ∀ i, i < s → ml 104 i = ml 87 i ∧ mi 105 i = mi 88 i
def BookR (mi : MI) (E : Nat) (B1 B2 : Nat → Nat) : Prop := E ≤ 20 ∧ mi 90 3 = nI E ∧ mi 95 13 = nI E ∧ ∀ e, e < E → (mi 91 e = nI (B1 e) ∧ mi 106 e = nI (B1 e) ∧ B1 e < 40) ∧ (mi 92 e = nI (B2 e) ∧ mi 107 e = nI (B2 e) ∧ B2 e < 40) ∧ B1 e ≠ B2 e ∧ mi 108 e = mi 93 e
def RelP (mi : MI) (ml : ML) (n nx c z s E : Nat) (B1 B2 : Nat → Nat) : Prop := Sto mi ml 1 96 97 0 0 n ∧ PtOK mi ml 75 (ml 1 1) ∧ PastR mi ml nx c ∧ (ImR mi ml 67 0 ∧ ImR mi ml 71 1) ∧ SeedR mi z ∧ SeenR mi ml s ∧ BookR mi E B1 B2
def Rel (mi : MI) (ml : ML) : Prop := ∃ n nx c z s E B1 B2, RelP mi ml n nx c z s E B1 B2
theorem PtOK.cg {mi m : MI} {ml z : ML} {x : Int64} (h : PtOK mi ml 75 x) (h1 : m 75 = mi 75) (h2 : m 76 = mi 76) (h3 : z 77 = ml 77) : PtOK m z 75 x := by
  obtain ⟨a1, a2, a3⟩ := h
  exact ⟨by rw [h1]; exact a1, fun p hp => by rw [h2]; exact a2 p hp, fun p hp => by rw [h3]; exact a3 p hp⟩
theorem PastR.cg {mi m : MI} {ml z : ML} {nx c : Nat} (h : PastR mi ml nx c) (h4 : m 4 = mi 4) (h95 : m 95 2 = mi 95 2) (h99 : m 99 = mi 99) (h98 : z 98 = ml 98) (hr : ∀ t, 6 ≤ t → t < 66 → m t = mi t ∧ z t = ml t) : PastR m z nx c := by
  obtain ⟨a1, a2, a3, a4, a5, a6⟩ := h
  refine ⟨by rw [h4]; exact a1, a2, by rw [h4]; exact a3, a4, by rw [h95]; exact a5, fun j hj => ?_⟩
  obtain ⟨nb, hb⟩ := a6 j hj
  have hm := Nat.mod_lt (nx + 20 - c + j) (show 0 < 20 by decide)
  exact ⟨nb, hb.cg (hr _ (by omega) (by omega)).1 (hr _ (by omega) (by omega)).1 h99 (hr _ (by omega) (by omega)).2 (hr _ (by omega) (by omega)).2 h98⟩
theorem ImR.cg {mi m : MI} {ml z : ML} {im q : Nat} (h : ImR mi ml im q) (h1 : m im = mi im) (h2 : m 103 = mi 103) (h3 : m 102 = mi 102) (h4 : m (im + 1) = mi (im + 1)) (h5 : m (im + 1 + 2) = mi (im + 1 + 2)) (h6 : m 101 = mi 101) (h7 : z (im + 1) = ml (im + 1)) (h8 : z (im + 1 + 1) = ml (im + 1 + 1)) (h9 : z 100 = ml 100) : ImR m z im q := by
  rcases h with h | ⟨g1, g2, ⟨zz, g3, g4, g5⟩, nb, g6⟩
  · left; rw [h1, h2]; exact h
  · right; exact ⟨by rw [h1]; exact g1, by rw [h2]; exact g2, ⟨zz, g3, by rw [h1]; exact g4, by rw [h3]; exact g5⟩, nb, g6.cg h4 h5 h6 h7 h8 h9⟩
theorem SeenR.cg {mi m : MI} {ml z : ML} {s : Nat} (h : SeenR mi ml s) (h1 : m 86 = mi 86) (h2 : m 95 10 = mi 95 10) (h3 : z 104 = ml 104) (h4 : z 87 = ml 87) (h5 : m 105 = mi 105) (h6 : m 88 = mi 88) : SeenR m z s := by
  unfold SeenR; rw [h1, h2, h3, h4, h5, h6]; exact h
theorem BookR.cg {mi m : MI} {E : Nat} {B1 B2 : Nat → Nat} (h : BookR mi E B1 B2) (h0 : m 90 = mi 90) (h1 : m 95 13 = mi 95 13) (h2 : m 91 = mi 91) (h3 : m 92 = mi 92) (h4 : m 93 = mi 93) (h5 : m 106 = mi 106) (h6 : m 107 = mi 107) (h7 : m 108 = mi 108) : BookR m E B1 B2 := by
  unfold BookR; rw [h0, h1, h2, h3, h4, h5, h6, h7]; exact h
/-- cells that nothing rests on -/
theorem RelP.fr {mi m : MI} {ml z : ML} {n nx c q s E : Nat} {B1 B2 : Nat → Nat} (R : RelP mi ml n nx c q s E B1 B2) (hm : ∀ t, t ≠ 78 → t ≠ 79 → t ≠ 81 → t ≠ 89 → t ≠ 109 → t ≠ 110 → m t = mi t) (hz : ∀ t, t ≠ 80 → t ≠ 82 → t ≠ 83 → t ≠ 84 → t ≠ 85 → z t = ml t) : RelP m z n nx c q s E B1 B2 := by
  obtain ⟨r1, r2, r3, ⟨r4, r5⟩, r6, r7, r8⟩ := R
  have M : ∀ t, t < 78 ∨ (89 < t ∧ t < 109) ∨ (81 < t ∧ t < 89) → m t = mi t := fun t ht => hm t (by omega) (by omega) (by omega) (by omega) (by omega) (by omega)
  have Z : ∀ t, t < 80 ∨ 85 < t → z t = ml t := fun t ht => hz t (by omega) (by omega) (by omega) (by omega) (by omega)
  refine ⟨r1.cg (M _ (by decide)) (M _ (by decide)) (M _ (by decide)) (Z _ (by decide)) (Z _ (by decide)) (Z _ (by decide)), ?_, r3.cg (M _ (by decide)) (by rw [M 95 (by decide)]) (M _ (by decide)) (Z _ (by decide)) (fun t h1 h2 => ⟨M _ (by omega), Z _ (by omega)⟩), ⟨r4.cg (M _ (by decide)) (M _ (by decide)) (M _ (by decide)) (M _ (by decide)) (M _ (by decide)) (M _ (by decide)) (Z _ (by decide)) (Z _ (by decide)) (Z _ (by decide)), r5.cg (M _ (by decide)) (M _ (by decide)) (M _ (by decide)) (M _ (by decide)) (M _ (by decide)) (M _ (by decide)) (Z _ (by decide)) (Z _ (by decide)) (Z _ (by decide))⟩, ?_, r7.cg (M _ (by decide)) (by rw [M 95 (by decide)]) (Z _ (by decide)) (Z _ (by decide)) (M _ (by decide)) (M _ (by decide)), r8.cg (M _ (by decide)) (by rw [M 95 (by decide)]) (M _ (by decide)) (M _ (by decide)) (M _ (by decide)) (M _ (by decide)) (M _ (by decide)) (M _ (by decide))⟩
  · rw [Z 1 (by decide)]; exact r2.cg (M _ (by decide)) (M _ (by decide)) (Z _ (by decide))
  · unfold SeedR; rw [M 94 (by decide), M 95 (by decide)]; exact r6
/-- a deed: what was is remembered on both sides -/
theorem bcI_c {mi : MI} {a b n : Nat} : bcI mi a b n a 2 = nI n := by unfold bcI; rw [cpL_n _ (by omega), u2_s, uf_s]
theorem bcI_k {mi : MI} {a b n k : Nat} (hk : k < n) (hb : b + 2 ≠ a) : bcI mi a b n (a + 2) k = mi (b + 2) k := by
  unfold bcI
  have := cpL_in (u2 mi a 2 (nI n)) (dst := a + 2) (dp := 0) (src := b + 2) (sp := 0) (len := n) hk
  rw [Nat.zero_add] at this
  rw [this, u2_n _ _ _ hb]
theorem bcL_0 {ml : ML} {a b n : Nat} : bcL ml a b n a 0 = ml b 0 := by unfold bcL; rw [cpL_n _ (by omega), u2_s, uf_n _ _ (by decide), u2_s, uf_s]
theorem bcL_1 {ml : ML} {a b n : Nat} : bcL ml a b n a 1 = ml b 1 := by unfold bcL; rw [cpL_n _ (by omega), u2_s, uf_s]
theorem bcL_k {ml : ML} {a b n k : Nat} (hk : k < n) (hb : b + 1 ≠ a) : bcL ml a b n (a + 1) k = ml (b + 1) k := by
  unfold bcL
  have := cpL_in (u2 (u2 ml a 0 (ml b 0)) a 1 (ml b 1)) (dst := a + 1) (dp := 0) (src := b + 1) (sp := 0) (len := n) hk
  rw [Nat.zero_add] at this
  rw [this, u2_n _ _ _ hb, u2_n _ _ _ hb]
theorem remI_r {mi : MI} {nx c n t : Nat} (h : t ≠ 4) : remI mi nx c n t = bcI mi (6 + 3 * nx) 1 n t := by unfold remI; rw [u2_n _ _ _ h, u2_n _ _ _ h]
theorem remI_41 {mi : MI} {nx c n : Nat} : remI mi nx c n 4 1 = nI (nxP nx) := by unfold remI; rw [u2_s, uf_n _ _ (by decide), u2_s, uf_s]; rfl
theorem remI_42 {mi : MI} {nx c n : Nat} : remI mi nx c n 4 2 = nI (cP c) := by unfold remI; rw [u2_s, uf_s]; rfl
theorem cP_s {c : Nat} (h : c < 20) : cP c = c + 1 := by unfold cP; rw [if_neg (by simp; omega)]
theorem cP_f : cP 20 = 20 := rfl
theorem nxP_mod {nx : Nat} (h : nx < 20) : nxP nx = (nx + 1) % 20 := by
  unfold nxP; by_cases h2 : 20 ≤ nx + 1
  · rw [if_pos (by simpa using h2)]; omega
  · rw [if_neg (by simpa using h2)]; omega
theorem past_step {mi m2 m4 : MI} {ml z2 z4 : ML} {n nx c : Nat} (hN : Sto mi ml 1 96 97 0 0 n) (hP : PastR mi ml nx c)
    (hm2 : ∀ t, t ≠ 1 → t ≠ 3 → t ≠ 75 → t ≠ 76 → t ≠ 94 → m2 t = remI mi nx c n t) (hz2 : ∀ t, t ≠ 1 → t ≠ 2 → t ≠ 77 → z2 t = remL ml nx n t)
    (hm4 : ∀ t, t ≠ 95 → t ≠ 97 → m4 t = noteI m2 c t) (hm5 : m4 95 2 = noteI m2 c 95 2) (hz4 : ∀ t, t ≠ 96 → z4 t = noteL z2 c t) : PastR m4 z4 (nxP nx) (cP c) := by
  obtain ⟨a1, a2, a3, a4, a5, a6⟩ := hP
  have e4 : m4 4 = remI mi nx c n 4 := by rw [hm4 4 (by decide) (by decide), noteI_n _ _ (by decide) (by decide), hm2 4 (by decide) (by decide) (by decide) (by decide) (by decide)]
  have hrI : ∀ t, 6 ≤ t → t < 66 → m4 t = bcI mi (6 + 3 * nx) 1 n t := fun t h1 h2 => by
    rw [hm4 t (by omega) (by omega), noteI_n _ _ (by omega) (by omega), hm2 t (by omega) (by omega) (by omega) (by omega) (by omega), remI_r (by omega)]
  have hrL : ∀ t, 6 ≤ t → t < 66 → z4 t = bcL ml (6 + 3 * nx) 1 n t := fun t h1 h2 => by
    rw [hz4 t (by omega), noteL_n _ _ (by omega), hz2 t (by omega) (by omega) (by omega)]; rfl
  have h97 : m2 97 = mi 97 := by rw [hm2 97 (by decide) (by decide) (by decide) (by decide) (by decide), remI_n _ (by omega) (by omega) (by decide)]
  have h99 : m2 99 = mi 99 := by rw [hm2 99 (by decide) (by decide) (by decide) (by decide) (by decide), remI_n _ (by omega) (by omega) (by decide)]
  have h96 : z2 96 = ml 96 := by rw [hz2 96 (by decide) (by decide) (by decide), remL_n _ (by omega) (by omega)]
  have h98 : z2 98 = ml 98 := by rw [hz2 98 (by decide) (by decide) (by decide), remL_n _ (by omega) (by omega)]
  have hold : ∀ {r j j' nb : Nat}, r < 20 → r ≠ nx → Sto mi ml (6 + 3 * r) 98 99 (43 * j') (40 * j') nb → (∀ i, i < 43 → z4 98 (43 * j + i) = ml 98 (43 * j' + i)) → (∀ i, i < 40 → m4 99 (40 * j + i) = mi 99 (40 * j' + i)) → Sto m4 z4 (6 + 3 * r) 98 99 (43 * j) (40 * j) nb := by
    intro r j j' nb hr hne h hL hK
    exact h.tr (by rw [hrI _ (by omega) (by omega), bcI_n _ (by omega) (by omega)]) (by rw [hrL _ (by omega) (by omega), bcL_n _ (by omega) (by omega)]) (by rw [hrL _ (by omega) (by omega), bcL_n _ (by omega) (by omega)]) (fun k _ => by rw [hrL _ (by omega) (by omega), bcL_n _ (by omega) (by omega)]) (fun k _ => by rw [hrI _ (by omega) (by omega), bcI_n _ (by omega) (by omega)]) hL hK
  have hnew : ∀ {j : Nat}, (∀ i, i < 43 → z4 98 (43 * j + i) = ml 96 (0 + i)) → (∀ i, i < 40 → m4 99 (40 * j + i) = mi 97 (0 + i)) → Sto m4 z4 (6 + 3 * nx) 98 99 (43 * j) (40 * j) n := by
    intro j hL hK
    exact hN.tr (by rw [hrI _ (by omega) (by omega), bcI_c]; exact hN.2.1.symm) (by rw [hrL _ (by omega) (by omega), bcL_0]) (by rw [hrL _ (by omega) (by omega), bcL_1]) (fun k hk => by rw [hrL _ (by omega) (by omega), bcL_k hk (by omega)]) (fun k hk => by rw [hrI _ (by omega) (by omega), bcI_k hk (by omega)]) hL hK
  have hnx := nxP_lt a2
  have hcp := cP_le a4
  refine ⟨by rw [e4, remI_41], hnx, by rw [e4, remI_42], hcp, ?_, fun j hj => ?_⟩
  · rw [hm5, noteI_c]
    by_cases h : c = 20
    · rw [if_pos h, h]; rfl
    · rw [if_neg h, cP_s (by omega)]
  · rw [nxP_mod a2] at hnx ⊢
    by_cases h : c = 20
    · subst h
      rw [cP_f] at hj
      have zL : ∀ x, z4 98 x = cpL (shL z2 98 0 43 817) 98 (43 * 19) 96 0 43 98 x := fun x => by rw [hz4 98 (by decide)]; unfold noteL; rw [if_pos rfl]
      have zI : ∀ x, m4 99 x = cpL (u2 (shL m2 99 0 40 760) 95 2 (nI 19)) 99 (40 * 19) 97 0 40 99 x := fun x => by rw [hm4 99 (by decide) (by decide)]; unfold noteI; rw [if_pos rfl, u2_n _ _ _ (by decide)]
      rcases Nat.lt_or_ge j 19 with h1 | h1
      · obtain ⟨nb, hb⟩ := a6 (j + 1) (by omega)
        have er : (((nx + 1) % 20) + 20 - 20 + j) % 20 = (nx + 20 - 20 + (j + 1)) % 20 := by omega
        rw [cP_f, er]
        refine ⟨nb, hold (Nat.mod_lt _ (by decide)) (by omega) hb (fun i hi => ?_) (fun i hi => ?_)⟩
        · rw [zL, cpL_out _ (Or.inl (by omega)), shL_in _ (by omega) (by omega), h98, show 43 * j + i + 43 = 43 * (j + 1) + i by omega]
        · rw [zI, cpL_out _ (Or.inl (by omega)), u2_n _ _ _ (by decide), shL_in _ (by omega) (by omega), h99, show 40 * j + i + 40 = 40 * (j + 1) + i by omega]
      · have ej : j = 19 := by omega
        subst ej
        have er : (((nx + 1) % 20) + 20 - 20 + 19) % 20 = nx := by omega
        rw [cP_f, er]
        refine ⟨n, hnew (fun i hi => ?_) (fun i hi => ?_)⟩
        · rw [zL, cpL_in _ hi, shL_n _ (by decide), h96]
        · rw [zI, cpL_in _ hi, u2_n _ _ _ (by decide), shL_n _ (by decide), h97]
    · have hcl : c < 20 := by omega
      rw [cP_s hcl] at hj ⊢
      have zL : ∀ x, z4 98 x = cpL z2 98 (43 * c) 96 0 43 98 x := fun x => by rw [hz4 98 (by decide)]; unfold noteL; rw [if_neg h]
      have zI : ∀ x, m4 99 x = cpL m2 99 (40 * c) 97 0 40 99 x := fun x => by rw [hm4 99 (by decide) (by decide)]; unfold noteI; rw [if_neg h, u2_n _ _ _ (by decide)]
      rcases Nat.lt_or_ge j c with h1 | h1
      · obtain ⟨nb, hb⟩ := a6 j h1
        have er : (((nx + 1) % 20) + 20 - (c + 1) + j) % 20 = (nx + 20 - c + j) % 20 := by omega
        rw [er]
        refine ⟨nb, hold (Nat.mod_lt _ (by decide)) (by omega) hb (fun i hi => ?_) (fun i hi => ?_)⟩
        · rw [zL, cpL_out _ (Or.inl (by omega)), h98]
        · rw [zI, cpL_out _ (Or.inl (by omega)), h99]
      · have ej : j = c := by omega
        subst ej
        have er : (((nx + 1) % 20) + 20 - (j + 1) + j) % 20 = nx := by omega
        rw [er]
        refine ⟨n, hnew (fun i hi => ?_) (fun i hi => ?_)⟩
        · rw [zL, cpL_in _ hi, h96]
        · rw [zI, cpL_in _ hi, h97]
theorem deed {mi m2 m4 : MI} {ml z2 z4 : ML} {n nx c q s E : Nat} {B1 B2 : Nat → Nat} (R : RelP mi ml n nx c q s E B1 B2)
    (hm2 : ∀ t, t ≠ 1 → t ≠ 3 → t ≠ 75 → t ≠ 76 → t ≠ 94 → m2 t = remI mi nx c n t) (hz2 : ∀ t, t ≠ 1 → t ≠ 2 → t ≠ 77 → z2 t = remL ml nx n t)
    (hm4 : ∀ t, t ≠ 95 → t ≠ 97 → m4 t = noteI m2 c t) (hm5 : ∀ k, k ≠ 9 → m4 95 k = noteI m2 c 95 k) (hz4 : ∀ t, t ≠ 96 → z4 t = noteL z2 c t)
    {n' q' : Nat} (hN : Sto m4 z4 1 96 97 0 0 n') (hT : PtOK m4 z4 75 (z4 1 1)) (hS : SeedR m4 q') : RelP m4 z4 n' (nxP nx) (cP c) q' s E B1 B2 := by
  obtain ⟨r1, r2, r3, ⟨r4, r5⟩, r6, r7, r8⟩ := R
  have hx := r3.2.1
  have M : ∀ t, t = 2 ∨ (66 ≤ t ∧ t < 75) ∨ (77 ≤ t ∧ t < 94) ∨ 99 < t → m4 t = mi t := fun t ht => by
    rw [hm4 t (by omega) (by omega), noteI_n _ _ (by omega) (by omega), hm2 t (by omega) (by omega) (by omega) (by omega) (by omega), remI_n _ (by omega) (by omega) (by omega)]
  have Z : ∀ t, (66 ≤ t ∧ t < 77) ∨ (78 ≤ t ∧ t < 96) ∨ 98 < t → z4 t = ml t := fun t ht => by
    rw [hz4 t (by omega), noteL_n _ _ (by omega), hz2 t (by omega) (by omega) (by omega), remL_n _ (by omega) (by omega)]
  have M95 : ∀ k, k ≠ 9 → k ≠ 2 → m4 95 k = mi 95 k := fun k h1 h2 => by
    rw [hm5 k h1, noteI_95 _ _ h2, hm2 95 (by decide) (by decide) (by decide) (by decide) (by decide), remI_n _ (by omega) (by omega) (by decide)]
  exact ⟨hN, hT, past_step r1 r3 hm2 hz2 hm4 (hm5 2 (by decide)) hz4, ⟨r4.cg (M _ (by decide)) (M _ (by decide)) (M _ (by decide)) (M _ (by decide)) (M _ (by decide)) (M _ (by decide)) (Z _ (by decide)) (Z _ (by decide)) (Z _ (by decide)), r5.cg (M _ (by decide)) (M _ (by decide)) (M _ (by decide)) (M _ (by decide)) (M _ (by decide)) (M _ (by decide)) (Z _ (by decide)) (Z _ (by decide)) (Z _ (by decide))⟩, hS, r7.cg (M _ (by decide)) (M95 _ (by decide) (by decide)) (Z _ (by decide)) (Z _ (by decide)) (M _ (by decide)) (M _ (by decide)), r8.cg (M _ (by decide)) (M95 _ (by decide) (by decide)) (M _ (by decide)) (M _ (by decide)) (M _ (by decide)) (M _ (by decide)) (M _ (by decide)) (M _ (by decide))⟩
