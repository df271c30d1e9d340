/-! class and reference, call by call: both answer alike, and stand alike then -/
def BothI (l : Launch) (o : OM) (y : MethodName) (cc : ByteArray) (n : Nat) (y' : MethodName) (cc' : ByteArray) (n' : Nat) (A : List Value) (mi : MI) (ml : ML) : Prop :=
  ∃ P, Con l y cc n (some .int) 8 270 o (.ref (ads o 0) :: A) mi ml P ∧ ∀ v m z, P v m z → ∃ x : Int32, v = some (.int x) ∧ ∃ P', Con l y' cc' n' (some .int) 8 270 o (.ref (ads o 95) :: A) m z P' ∧ ∀ v' m' z', P' v' m' z' → v' = some (.int x) ∧ Rel m' z'
def BothJ (l : Launch) (o : OM) (y : MethodName) (cc : ByteArray) (n : Nat) (y' : MethodName) (cc' : ByteArray) (n' : Nat) (A : List Value) (mi : MI) (ml : ML) : Prop :=
  ∃ P, Con l y cc n (some .long) 8 270 o (.ref (ads o 0) :: A) mi ml P ∧ ∀ v m z, P v m z → ∃ x : Int64, v = some (.long x) ∧ ∃ P', Con l y' cc' n' (some .long) 8 270 o (.ref (ads o 95) :: A) m z P' ∧ ∀ v' m' z', P' v' m' z' → v' = some (.long x) ∧ Rel m' z'
section BOTHD
variable {l : Launch} {o : OM} {y y' : MethodName} {cc cc' : ByteArray} {k k' : Nat} {A : List Value} {mi m m' : MI} {ml z z' : ML}
theorem BothI.dd {a b : Int32} (h1 : ConD l y cc k (some .int) 8 270 o (.ref (ads o 0) :: A) mi ml (some (.int a)) m z) (h2 : ConD l y' cc' k' (some .int) 8 270 o (.ref (ads o 95) :: A) m z (some (.int b)) m' z') (e : b = a) (R : Rel m' z') : BothI l o y cc k y' cc' k' A mi ml := by
  refine ⟨_, h1, fun v m0 z0 h => ?_⟩
  obtain ⟨e1, e2, e3⟩ := h
  subst e2; subst e3
  refine ⟨a, e1, _, h2, fun v' m1 z1 h' => ?_⟩
  obtain ⟨e4, e5, e6⟩ := h'
  subst e5; subst e6
  exact ⟨by rw [e4, e], R⟩
theorem BothJ.dd {a b : Int64} (h1 : ConD l y cc k (some .long) 8 270 o (.ref (ads o 0) :: A) mi ml (some (.long a)) m z) (h2 : ConD l y' cc' k' (some .long) 8 270 o (.ref (ads o 95) :: A) m z (some (.long b)) m' z') (e : b = a) (R : Rel m' z') : BothJ l o y cc k y' cc' k' A mi ml := by
  refine ⟨_, h1, fun v m0 z0 h => ?_⟩
  obtain ⟨e1, e2, e3⟩ := h
  subst e2; subst e3
  refine ⟨a, e1, _, h2, fun v' m1 z1 h' => ?_⟩
  obtain ⟨e4, e5, e6⟩ := h'
  subst e5; subst e6
  exact ⟨by rw [e4, e], R⟩
end BOTHD
theorem rng_cases (x : Int32) (a b : Nat) (hab : a ≤ b) (hb : b < 1000) : (x < nI a ∨ nI b < x) ∨ ∃ k, a ≤ k ∧ k ≤ b ∧ x = nI k := by
  by_cases h1 : x < nI a
  · exact Or.inl (Or.inl h1)
  · by_cases h2 : nI b < x
    · exact Or.inl (Or.inr h2)
    · right
      have hx : ¬ x < 0 := by
        rw [Int32.lt_iff_toInt_lt, nI_toInt (by omega)] at h1
        rw [Int32.lt_iff_toInt_lt, show (0 : Int32).toInt = 0 from rfl]; omega
      obtain ⟨j, hj, rfl⟩ := nI_of hx
      rw [nI_ltI hj (by omega)] at h1
      rw [nI_ltI (by omega) hj] at h2
      exact ⟨j, by omega, by omega, rfl⟩
section BOTHR
variable {mi : MI} {ml : ML} {n nx c q s E : Nat} {B1 B2 : Nat → Nat}
theorem RelP.rel (R : RelP mi ml n nx c q s E B1 B2) : Rel mi ml := ⟨n, nx, c, q, s, E, B1, B2, R⟩
theorem RelP.hs (R : RelP mi ml n nx c q s E B1 B2) : mi 86 3 = nI s := R.2.2.2.2.2.1.2.1
theorem RelP.s6 (R : RelP mi ml n nx c q s E B1 B2) : s ≤ 6 := R.2.2.2.2.2.1.1
theorem RelP.hsm (R : RelP mi ml n nx c q s E B1 B2) : mi 95 10 = nI s := R.2.2.2.2.2.1.2.2.1
theorem RelP.hE (R : RelP mi ml n nx c q s E B1 B2) : mi 90 3 = nI E := R.2.2.2.2.2.2.2.1
theorem RelP.E20 (R : RelP mi ml n nx c q s E B1 B2) : E ≤ 20 := R.2.2.2.2.2.2.1
theorem RelP.hEm (R : RelP mi ml n nx c q s E B1 B2) : mi 95 13 = nI E := R.2.2.2.2.2.2.2.2.1
theorem RelP.hq (R : RelP mi ml n nx c q s E B1 B2) : mi 94 0 = nI q := R.2.2.2.2.1.2.1
theorem RelP.q31 (R : RelP mi ml n nx c q s E B1 B2) : q < 2147483648 := R.2.2.2.2.1.1
theorem RelP.hqm (R : RelP mi ml n nx c q s E B1 B2) : mi 95 9 = nI q := R.2.2.2.2.1.2.2
theorem RelP.bk (R : RelP mi ml n nx c q s E B1 B2) : ∀ e, e < E → (mi 91 e = nI (B1 e) ∧ mi 106 e = nI (B1 e) ∧ B1 e < 40) ∧ (mi 92 e = nI (B2 e) ∧ mi 107 e = nI (B2 e) ∧ B2 e < 40) ∧ B1 e ≠ B2 e ∧ mi 108 e = mi 93 e := R.2.2.2.2.2.2.2.2.2
theorem RelP.rc (R : RelP mi ml n nx c q s E B1 B2) : remI mi nx c n 95 2 = nI c := by
  have hx := R.nx20
  rw [remI_n _ (by omega) (by omega) (by decide)]; exact R.hcm
theorem RelP.r96 (R : RelP mi ml n nx c q s E B1 B2) : remL ml nx n 96 = ml 96 := by
  have hx := R.nx20
  rw [remL_n _ (by omega) (by omega)]
theorem RelP.r2 (R : RelP mi ml n nx c q s E B1 B2) : remL ml nx n 2 = ml 2 := by
  have hx := R.nx20
  rw [remL_n _ (by omega) (by omega)]
theorem RelP.r97 (R : RelP mi ml n nx c q s E B1 B2) : remI mi nx c n 97 = mi 97 := by
  have hx := R.nx20
  rw [remI_n _ (by omega) (by omega) (by decide)]
end BOTHR
theorem toldC_cg {mi m : MI} {ml z : ML} {n P s E : Nat} {B1 B2 : Nat → Nat} (h1 : m 88 = mi 88) (h2 : m 93 = mi 93) (h3 : m 4 = mi 4) (h4 : z 1 = ml 1) (h5 : z 2 = ml 2) (h6 : z 77 = ml 77) (h7 : z 87 = ml 87) : toldC m z n P s E B1 B2 = toldC mi ml n P s E B1 B2 := by
  funext q
  unfold toldC lookC nrsC cbC rgC
  simp only [h1, h2, h3, h4, h5, h6, h7]
section BOTHM
variable (l : Launch) (o : OM) {mi : MI} {ml : ML}
theorem b_told (h : Rel mi ml) (w : Int32) : BothI l o y_Nm_told c_Nm_told 2 y_Mo_told c_Mo_told 2 [.int w] mi ml := by
  obtain ⟨n, nx, c, q, s, E, B1, B2, R⟩ := h
  have h40 := R.n40
  refine ⟨_, m_Nm_told l o mi ml w n (pop (ml 1 1)) s E B1 B2 c R.hn R.n40 R.hP R.cut.2 R.P1 R.hs R.s6 R.hE R.E20 (fun e he => ⟨(R.bk e he).1.1, (R.bk e he).1.2.2⟩) (fun e he => ⟨(R.bk e he).2.1.1, (R.bk e he).2.1.2.2⟩) R.hc R.c20, fun v m z hp => ?_⟩
  obtain ⟨e0, hm, hz⟩ := hp
  have R1 : RelP m z n nx c q s E B1 B2 := R.fr (fun t _ _ _ h _ _ => hm t h) (fun t _ _ _ h4 h5 => hz t h4 h5)
  refine ⟨_, e0, _, m_Mo_told l o m z w n s E B1 B2 c R1.hm R1.n40 R1.hsm R1.s6 R1.hEm R1.E20 R1.hcm R1.c20 (fun e he => ⟨(R1.bk e he).1.2.1, (R1.bk e he).1.2.2⟩) (fun e he => ⟨(R1.bk e he).2.1.2.1, (R1.bk e he).2.1.2.2⟩), fun v' m' z' hp' => ?_⟩
  obtain ⟨e1, hm', hz'⟩ := hp'
  subst hz'
  have R2 : RelP m' z' n nx c q s E B1 B2 := R1.fr (fun t _ _ _ _ _ h => hm' t h) (fun t _ _ _ _ _ => rfl)
  refine ⟨?_, R2.rel⟩
  rw [e1, ← R1.told, toldC_cg (hm 88 (by decide)) (hm 93 (by decide)) (hm 4 (by decide)) (hz 1 (by decide) (by decide)) (hz 2 (by decide) (by decide)) (hz 77 (by decide) (by decide)) (hz 87 (by decide) (by decide)), hz 1 (by decide) (by decide)]
theorem b_hand (h : Rel mi ml) : BothJ l o y_Nm_hand c_Nm_hand 1 y_Mo_hand c_Mo_hand 1 [] mi ml := by
  obtain ⟨n, nx, c, q, s, E, B1, B2, R⟩ := h
  have h40 := R.n40
  exact BothJ.dd (m_Nm_hand l o mi ml) (m_Mo_hand l o mi ml) R.h0 R.rel
theorem b_markAt (h : Rel mi ml) (x : Int32) : BothJ l o y_Nm_markAt c_Nm_markAt 2 y_Mo_markAt c_Mo_markAt 2 [.int x] mi ml := by
  obtain ⟨n, nx, c, q, s, E, B1, B2, R⟩ := h
  have h40 := R.n40
  rcases hb : isMk n x with _ | _
  · exact BothJ.dd (m_Nm_markAt_u l o mi ml x n R.hn R.n40 hb) (m_Mo_markAt_u l o mi ml x n R.hm R.n40 hb) rfl R.rel
  · obtain ⟨k, hk, rfl⟩ := isMk_ex (by omega) hb
    exact BothJ.dd (m_Nm_markAt_i l o mi ml k n R.hn R.n40 hk) (m_Mo_markAt_i l o mi ml k n R.hm R.n40 hk) (R.own k hk) R.rel
theorem b_mark (h : Rel mi ml) (x w : Int32) : BothI l o y_Nm_mark c_Nm_mark 3 y_Mo_mark c_Mo_mark 5 [.int x, .int w] mi ml := by
  obtain ⟨n, nx, c, q, s, E, B1, B2, R⟩ := h
  have h40 := R.n40
  rcases hb : isMk n x with _ | _
  · exact BothI.dd (m_Nm_mark_u l o mi ml x w n R.hn R.n40 hb) (m_Mo_mark_u l o mi ml x w n R.hm R.n40 hb) rfl R.rel
  · obtain ⟨k, hk, rfl⟩ := isMk_ex (by omega) hb
    exact BothI.dd (m_Nm_mark_i l o mi ml k w n (pop (ml 1 1)) R.hn R.n40 R.hP R.cut.2 R.P1 hk) (m_Mo_mark_i l o mi ml k w n R.hm R.n40 hk) (by rw [show markC mi ml n (pop (ml 1 1)) k = markM mi ml n k from funext (R.mk hk)]) R.rel
theorem b_part (h : Rel mi ml) (x w : Int32) : BothI l o y_Nm_part c_Nm_part 3 y_Mo_part c_Mo_part 3 [.int x, .int w] mi ml := by
  obtain ⟨n, nx, c, q, s, E, B1, B2, R⟩ := h
  have h40 := R.n40
  have hp8 := R.cut.2
  rcases hb : isMk (pop (ml 1 1)) x with _ | _
  · exact BothI.dd (m_Nm_part_u l o mi ml x w (pop (ml 1 1)) R.hP R.cut.2 hb) (m_Mo_part_u l o mi ml x w (by rw [R.h1]; exact hb)) rfl R.rel
  · obtain ⟨k, hk, rfl⟩ := isMk_ex (by omega) hb
    exact BothI.dd (m_Nm_part_i l o mi ml k w n (pop (ml 1 1)) R.hn R.n40 R.hP R.cut.2 hk) (m_Mo_part_i l o mi ml k w n R.hm R.n40 (by rw [R.h1]; exact hk)) (by rw [show partC mi ml n k = partM ml n k from funext (R.prt hk)]) R.rel
theorem b_type (h : Rel mi ml) (x w : Int32) : BothI l o y_Nm_type c_Nm_type 3 y_Mo_type c_Mo_type 3 [.int x, .int w] mi ml := by
  obtain ⟨n, nx, c, q, s, E, B1, B2, R⟩ := h
  have h40 := R.n40
  rcases rng_cases x 0 7 (by decide) (by decide) with hr | ⟨r, -, hr, rfl⟩
  · exact BothI.dd (m_Nm_type_o1 l o mi ml x w hr) (m_Mo_type_o1 l o mi ml x w hr) rfl R.rel
  · rcases rng_cases w 0 255 (by decide) (by decide) with hd | ⟨d, -, hd, rfl⟩
    · exact BothI.dd (m_Nm_type_o2 l o mi ml r w (by omega) hd) (m_Mo_type_o2 l o mi ml r w (by omega) hd) rfl R.rel
    · have e : u2 (remL ml nx n) 1 0 (typed (ml 1 0) r d) 96 0 = ml 1 0 := by rw [u2_n _ _ _ (by decide), R.r96, R.h0]
      exact BothI.dd (m_Nm_type_i l o mi ml r d nx c n R.hnx R.nx20 R.hc R.c20 R.hn R.n40 (by omega) (by omega)) (m_Mo_type_i l o _ _ r d c R.rc R.c20 (by omega) (by omega)) (by rw [e]) (by rw [e]; exact (R.dHand _).rel)
theorem b_flip (h : Rel mi ml) (x : Int32) : BothI l o y_Nm_flip c_Nm_flip 2 y_Mo_flip c_Mo_flip 2 [.int x] mi ml := by
  obtain ⟨n, nx, c, q, s, E, B1, B2, R⟩ := h
  have h40 := R.n40
  rcases rng_cases x 0 63 (by decide) (by decide) with hb | ⟨b, -, hb, rfl⟩
  · exact BothI.dd (m_Nm_flip_o l o mi ml x hb) (m_Mo_flip_o l o mi ml x hb) rfl R.rel
  · have e : u2 (remL ml nx n) 1 0 ((ml 1 0) ^^^ (shl (1) (b))) 96 0 = ml 1 0 := by rw [u2_n _ _ _ (by decide), R.r96, R.h0]
    exact BothI.dd (m_Nm_flip_i l o mi ml b nx c n R.hnx R.nx20 R.hc R.c20 R.hn R.n40 (by omega)) (m_Mo_flip_i l o _ _ b c R.rc R.c20 (by omega)) (by rw [e]) (by rw [e]; exact (R.dHand _).rel)
theorem b_turn (h : Rel mi ml) : BothI l o y_Nm_turn c_Nm_turn 1 y_Mo_turn c_Mo_turn 4 [] mi ml := by
  obtain ⟨n, nx, c, q, s, E, B1, B2, R⟩ := h
  have h40 := R.n40
  have e : u2 (remL ml nx n) 1 0 (turnS (ml 1 0) 64) 96 0 = ml 1 0 := by rw [u2_n _ _ _ (by decide), R.r96, R.h0]
  exact BothI.dd (m_Nm_turn l o mi ml nx c n R.hnx R.nx20 R.hc R.c20 R.hn R.n40) (m_Mo_turn l o _ _ c R.rc R.c20) (by rw [e]) (by rw [e]; exact (R.dHand _).rel)
theorem b_mirror (h : Rel mi ml) : BothI l o y_Nm_mirror c_Nm_mirror 1 y_Mo_mirror c_Mo_mirror 4 [] mi ml := by
  obtain ⟨n, nx, c, q, s, E, B1, B2, R⟩ := h
  have h40 := R.n40
  have e : u2 (remL ml nx n) 1 0 (mirS (ml 1 0) 64) 96 0 = ml 1 0 := by rw [u2_n _ _ _ (by decide), R.r96, R.h0]
  exact BothI.dd (m_Nm_mirror l o mi ml nx c n R.hnx R.nx20 R.hc R.c20 R.hn R.n40) (m_Mo_mirror l o _ _ c R.rc R.c20) (by rw [e]) (by rw [e]; exact (R.dHand _).rel)
theorem b_hold (h : Rel mi ml) (x : Int32) : BothI l o y_Nm_hold c_Nm_hold 3 y_Mo_hold c_Mo_hold 3 [.int x] mi ml := by
  obtain ⟨n, nx, c, q, s, E, B1, B2, R⟩ := h
  have h40 := R.n40
  rcases hb : isMk n x with _ | _
  · exact BothI.dd (m_Nm_hold_u l o mi ml x n R.hn R.n40 hb) (m_Mo_hold_u l o mi ml x n R.hm R.n40 hb) rfl R.rel
  · obtain ⟨k, hk, rfl⟩ := isMk_ex (by omega) hb
    have z96 : u2 (remL ml nx n) 1 0 (remL ml nx n 2 k) 96 = ml 96 := by rw [u2_n _ _ _ (by decide), R.r96]
    have e0 : u2 (remL ml nx n) 1 0 (remL ml nx n 2 k) 96 0 = ml 1 0 := by rw [z96, R.h0]
    have e1 : oM (u2 (remL ml nx n) 1 0 (remL ml nx n 2 k)) k = ml 2 k := by unfold oM; rw [z96]; exact R.own k hk
    have e2 : oM (noteL (u2 (remL ml nx n) 1 0 (remL ml nx n 2 k)) c) k = remL ml nx n 2 k := by rw [oM_note, e1, R.r2]
    exact BothI.dd (m_Nm_hold_i l o mi ml k nx c n R.hnx R.nx20 R.hc R.c20 R.hn R.n40 hk) (m_Mo_hold_i l o _ _ k n c (by rw [z96]; exact R.hm) R.n40 R.rc R.c20 hk) (by rw [e0, e1]) (by rw [e2]; exact (R.dHand _).rel)
theorem b_put (h : Rel mi ml) (x : Int32) : BothI l o y_Nm_put c_Nm_put 2 y_Mo_put c_Mo_put 2 [.int x] mi ml := by
  obtain ⟨n, nx, c, q, s, E, B1, B2, R⟩ := h
  have h40 := R.n40
  rcases rng_cases x 0 2 (by decide) (by decide) with hb | ⟨k, -, hk, rfl⟩
  · exact BothI.dd (m_Nm_put_o l o mi ml x hb) (m_Mo_put_o l o mi ml x hb) rfl R.rel
  · by_cases hl : fromB (fun j => decide (ml 2 j = ml 1 0)) n 0 = -1
    · have hl2 : lastB (fun j => decide (oM ml j = ml 96 0)) n = -1 := by rw [← R.like]; exact hl
      by_cases hn : n = 40
      · exact BothI.dd (m_Nm_put_f l o mi ml k n R.hn R.n40 (by omega) hl hn) (m_Mo_put_f l o mi ml k n R.hm R.n40 (by omega) hl2 hn) rfl R.rel
      · have z96 : u2 (remL ml nx n) 2 n (ml 1 0) 96 = ml 96 := by rw [u2_n _ _ _ (by decide), R.r96]
        have hc2 : u2 (u2 (remI mi nx c n) 3 n (nI k)) 1 2 (nI (n + 1)) 95 2 = nI c := by rw [u2_n _ _ _ (by decide), u2_n _ _ _ (by decide)]; exact R.rc
        have hl3 : lastB (fun j => decide (oM (u2 (remL ml nx n) 2 n (ml 1 0)) j = u2 (remL ml nx n) 2 n (ml 1 0) 96 0)) n = -1 := by unfold oM; rw [z96]; exact hl2
        exact BothI.dd (m_Nm_put_i l o mi ml k nx c n R.hnx R.nx20 R.hc R.c20 R.hn (by omega) (by omega) hl) (m_Mo_put_i l o _ _ k n c (by rw [z96]; exact R.hm) (by omega) hc2 R.c20 (by omega) hl3) rfl (R.dPut (by omega) (by omega) hl (by rw [z96, R.h0])).rel
    · have hl2 : ¬ lastB (fun j => decide (oM ml j = ml 96 0)) n = -1 := by rw [← R.like]; exact hl
      exact BothI.dd (m_Nm_put_n l o mi ml k n R.hn R.n40 (by omega) hl) (m_Mo_put_n l o mi ml k n R.hm R.n40 (by omega) hl2) rfl R.rel
theorem b_cut (h : Rel mi ml) (x : Int64) : BothI l o y_Nm_cut c_Nm_cut 3 y_Mo_cut c_Mo_cut 3 [.long x] mi ml := by
  obtain ⟨n, nx, c, q, s, E, B1, B2, R⟩ := h
  have h40 := R.n40
  rcases hx0 : bt x 0 with _ | _
  · exact BothI.dd (m_Nm_cut_o1 l o mi ml x hx0) (m_Mo_cut_o1 l o mi ml x hx0) rfl R.rel
  · by_cases hx8 : pop x ≤ 8
    · refine ⟨_, m_Nm_cut_i l o mi ml x nx c n R.hnx R.nx20 R.hc R.c20 R.hn R.n40 hx0 hx8, fun v m z hp => ?_⟩
      obtain ⟨e0, hP, hm, hz⟩ := hp
      refine ⟨_, e0, _, m_Mo_cut_i l o m z x c (by rw [hm 95 (by decide) (by decide)]; exact R.rc) R.c20 hx0 hx8, fun v' m' z' hp' => ?_⟩
      obtain ⟨e1, e2, e3⟩ := hp'
      subst e2; subst e3
      exact ⟨e1, (R.dCut hx0 hx8 hP hm hz).rel⟩
    · exact BothI.dd (m_Nm_cut_o2 l o mi ml x hx0 (by omega)) (m_Mo_cut_o2 l o mi ml x hx0 (by omega)) rfl R.rel
theorem b_take (h : Rel mi ml) (x : Int32) : BothI l o y_Nm_take c_Nm_take 2 y_Mo_take c_Mo_take 4 [.int x] mi ml := by
  obtain ⟨n, nx, c, q, s, E, B1, B2, R⟩ := h
  have h40 := R.n40
  rcases hb : isMk n x with _ | _
  · exact BothI.dd (m_Nm_take_u l o mi ml x n R.hn R.n40 hb) (m_Mo_take_u l o mi ml x n R.hm R.n40 hb) rfl R.rel
  · obtain ⟨k, hk, rfl⟩ := isMk_ex (by omega) hb
    have z96 : shL (remL ml nx n) 2 k 1 (n - (k + 1)) 96 = ml 96 := by rw [shL_n _ (by decide), R.r96]
    have hc2 : u2 (shL (remI mi nx c n) 3 k 1 (n - (k + 1))) 1 2 (nI (n - 1)) 95 2 = nI c := by rw [u2_n _ _ _ (by decide), shL_n _ (by decide)]; exact R.rc
    exact BothI.dd (m_Nm_take_i l o mi ml k nx c n R.hnx R.nx20 R.hc R.c20 R.hn R.n40 hk) (m_Mo_take_i l o _ _ k n c (by rw [z96]; exact R.hm) R.n40 hc2 R.c20 hk) rfl (R.dTake hk).rel
theorem b_kind (h : Rel mi ml) (x w : Int32) : BothI l o y_Nm_kind c_Nm_kind 4 y_Mo_kind c_Mo_kind 4 [.int x, .int w] mi ml := by
  obtain ⟨n, nx, c, q, s, E, B1, B2, R⟩ := h
  have h40 := R.n40
  rcases hb : isMk n x with _ | _
  · exact BothI.dd (m_Nm_kind_u l o mi ml x w n R.hn R.n40 hb) (m_Mo_kind_u l o mi ml x w n R.hm R.n40 hb) rfl R.rel
  · obtain ⟨k, hk, rfl⟩ := isMk_ex (by omega) hb
    rcases rng_cases w 0 2 (by decide) (by decide) with hw | ⟨v, -, hv, rfl⟩
    · exact BothI.dd (m_Nm_kind_o l o mi ml k w n R.hn R.n40 hk hw) (m_Mo_kind_o l o mi ml k w n R.hm R.n40 hk hw) rfl R.rel
    · have hc2 : u2 (remI mi nx c n) 3 k (nI v) 95 2 = nI c := by rw [u2_n _ _ _ (by decide)]; exact R.rc
      exact BothI.dd (m_Nm_kind_i l o mi ml k v nx c n R.hnx R.nx20 R.hc R.c20 R.hn R.n40 hk (by omega)) (m_Mo_kind_i l o _ _ k v n c (by rw [R.r96]; exact R.hm) R.n40 hc2 R.c20 hk (by omega)) (by rw [noteI_n _ _ (by decide) (by decide), u2_n _ _ _ (by decide), R.r97]; exact R.knd k hk) (R.dKind hk (by omega)).rel
theorem b_drift (h : Rel mi ml) (x : Int32) : BothI l o y_Nm_drift c_Nm_drift 3 y_Mo_drift c_Mo_drift 3 [.int x] mi ml := by
  obtain ⟨n, nx, c, q, s, E, B1, B2, R⟩ := h
  have h40 := R.n40
  rcases rng_cases x 1 20 (by decide) (by decide) with hb | ⟨k, hk1, hk, rfl⟩
  · exact BothI.dd (m_Nm_drift_o l o mi ml x hb) (m_Mo_drift_o l o mi ml x hb) rfl R.rel
  · obtain ⟨R1, e⟩ := R.dDrift k
    exact BothI.dd (m_Nm_drift_i l o mi ml k nx c n q R.hnx R.nx20 R.hc R.c20 R.hn R.n40 R.hq R.q31 hk1 hk) (m_Mo_drift_i l o _ _ k n c q (by rw [(dcS_hi R.okc (t := 96) (by decide) k).2]; exact R.hm) R.n40 (by rw [(dcS_hi (ml := ml) R.okc (t := 95) (by decide) k).1]; exact R.hcm) R.c20 (by rw [(dcS_hi (ml := ml) R.okc (t := 95) (by decide) k).1]; exact R.hqm) R.q31 hk1 hk) (by rw [e]) R1.rel
theorem b_undo (h : Rel mi ml) (x : Int32) : BothI l o y_Nm_undo c_Nm_undo 2 y_Mo_undo c_Mo_undo 2 [.int x] mi ml := by
  obtain ⟨n, nx, c, q, s, E, B1, B2, R⟩ := h
  have h40 := R.n40
  rcases rng_cases x 1 20 (by decide) (by decide) with hb | ⟨d, hd1, hd, rfl⟩
  · exact BothI.dd (m_Nm_undo_o l o mi ml x hb) (m_Mo_undo_o l o mi ml x hb) rfl R.rel
  · rcases Nat.lt_or_ge c d with hcd | hcd
    · exact BothI.dd (m_Nm_undo_n l o mi ml d c R.hc R.c20 hd1 hd hcd) (m_Mo_undo_n l o mi ml d c R.hcm R.c20 hd1 hd hcd) rfl R.rel
    · obtain ⟨nb, hb⟩ := R.back hd1 hcd
      have hx := R.nx20
      have hbk := bkN_lt hx hd hd1
      obtain ⟨a1, a2, a3, a4, a5, a6, a7, a8, a9, a10⟩ := id hb
      refine ⟨_, m_Nm_undo_i l o mi ml d nx c nb R.hnx R.nx20 R.hc R.c20 hd1 hcd a2 a1 a8.1 a8.2, fun v m z hp => ?_⟩
      obtain ⟨e0, hP, hm, hz⟩ := hp
      refine ⟨_, e0, _, m_Mo_undo_i l o m z d nb c (by rw [hm 95 (by decide) (by decide), bcI_n _ (by decide) (by decide), u2_n _ _ _ (by decide), u2_n _ _ _ (by decide)]; exact R.hcm) R.c20 hd1 hcd (by rw [hz 98 (by decide), bcL_n _ (by decide) (by decide)]; exact a3) a1, fun v' m' z' hp' => ?_⟩
      obtain ⟨e1, e2, e3⟩ := hp'
      subst e2; subst e3
      exact ⟨e1, (R.dUndo hd1 hcd hb hP hm hz).rel⟩
theorem b_near (h : Rel mi ml) (x : Int32) : BothJ l o y_Nm_near c_Nm_near 5 y_Mo_near c_Mo_near 7 [.int x] mi ml := by
  obtain ⟨n, nx, c, q, s, E, B1, B2, R⟩ := h
  have h40 := R.n40
  rcases rng_cases x 0 64 (by decide) (by decide) with hb | ⟨b, -, hb, rfl⟩
  · exact BothJ.dd (m_Nm_near_o l o mi ml x hb) (m_Mo_near_o l o mi ml x n R.hm R.n40 hb) rfl R.rel
  · exact BothJ.dd (m_Nm_near_i l o mi ml b n (pop (ml 1 1)) R.hn R.n40 R.hP R.cut.2 R.P1 hb) (m_Mo_near_i l o mi ml b n R.hm R.n40 (by rw [R.h1]; exact R.P1) hb) (R.nearE b).symm R.rel
theorem b_nearest (h : Rel mi ml) (x : Int32) : BothI l o y_Nm_nearest c_Nm_nearest 2 y_Mo_nearest c_Mo_nearest 2 [.int x] mi ml := by
  obtain ⟨n, nx, c, q, s, E, B1, B2, R⟩ := h
  have h40 := R.n40
  exact BothI.dd (m_Nm_nearest l o mi ml x n R.hn R.n40) (m_Mo_nearest l o mi ml x n R.hm R.n40) (R.nrsE x).symm R.rel
theorem b_apart (h : Rel mi ml) (x w : Int32) : BothI l o y_Nm_apart c_Nm_apart 3 y_Mo_apart c_Mo_apart 3 [.int x, .int w] mi ml := by
  obtain ⟨n, nx, c, q, s, E, B1, B2, R⟩ := h
  have h40 := R.n40
  rcases hb : (isMk n x && (isMk n w && !decide (x = w))) with _ | _
  · exact BothI.dd (m_Nm_apart_u l o mi ml x w n R.hn R.n40 hb) (m_Mo_apart_u l o mi ml x w n R.hm R.n40 hb) rfl R.rel
  · simp only [Bool.and_eq_true, Bool.not_eq_true', decide_eq_false_iff_not] at hb
    obtain ⟨h1, h2, h3⟩ := hb
    obtain ⟨j, hj, rfl⟩ := isMk_ex (by omega) h1
    obtain ⟨k, hk, rfl⟩ := isMk_ex (by omega) h2
    have hjk : j ≠ k := fun e => h3 (by rw [e])
    exact BothI.dd (m_Nm_apart_i l o mi ml j k n R.hn R.n40 hj hk hjk) (m_Mo_apart_i l o mi ml j k n R.hm R.n40 hj hk hjk) (by rw [R.own j hj, R.own k hk]) R.rel
theorem b_groups (h : Rel mi ml) (x : Int32) : BothI l o y_Nm_groups c_Nm_groups 2 y_Mo_groups c_Mo_groups 2 [.int x] mi ml := by
  obtain ⟨n, nx, c, q, s, E, B1, B2, R⟩ := h
  have h40 := R.n40
  rcases rng_cases x 0 64 (by decide) (by decide) with hb | ⟨b, -, hb, rfl⟩
  · exact BothI.dd (m_Nm_groups_o l o mi ml x hb) (m_Mo_groups_o l o mi ml x n R.hm R.n40 hb) rfl R.rel
  · refine ⟨_, m_Nm_groups_i l o mi ml b n R.hn R.n40 hb, fun v m z hp => ?_⟩
    obtain ⟨e0, hm, hz⟩ := hp
    have R1 : RelP m z n nx c q s E B1 B2 := R.fr (fun t _ _ h _ _ _ => hm t h) (fun t _ h2 h3 _ _ => hz t h2 h3)
    refine ⟨_, e0, _, m_Mo_groups_i l o m z b n R1.hm R1.n40 hb, fun v' m' z' hp' => ?_⟩
    obtain ⟨G, L, e1, hm', hz'⟩ := hp'
    subst hz'
    have R2 : RelP m' z' n nx c q s E B1 B2 := R1.fr (fun t _ _ _ _ h _ => hm' t h) (fun t _ _ _ _ _ => rfl)
    refine ⟨?_, R2.rel⟩
    rw [e1, ← R1.grs L, hz 2 (by decide) (by decide)]
theorem b_group (h : Rel mi ml) (x g w : Int32) : BothI l o y_Nm_group c_Nm_group 4 y_Mo_group c_Mo_group 5 [.int x, .int g, .int w] mi ml := by
  obtain ⟨n, nx, c, q, s, E, B1, B2, R⟩ := h
  have h40 := R.n40
  rcases rng_cases x 0 64 (by decide) (by decide) with hb | ⟨b, -, hb, rfl⟩
  · exact BothI.dd (m_Nm_group_o l o mi ml x g w hb) (m_Mo_group_o l o mi ml x g w n R.hm R.n40 hb) rfl R.rel
  · have hj := jnS_le (clS (ml 2) n b) n n
    rcases hg : isMk (jnS (clS (ml 2) n b) n n).2 g with _ | _
    · refine ⟨_, m_Nm_group_u l o mi ml b g w n R.hn R.n40 hb hg, fun v m z hp => ?_⟩
      obtain ⟨e0, hm, hz⟩ := hp
      have R1 : RelP m z n nx c q s E B1 B2 := R.fr (fun t _ _ h _ _ _ => hm t h) (fun t _ h2 h3 _ _ => hz t h2 h3)
      refine ⟨_, e0, _, m_Mo_group_i l o m z b g w n R1.hm R1.n40 hb, fun v' m' z' hp' => ?_⟩
      obtain ⟨G, L, e1, hm', hz'⟩ := hp'
      subst hz'
      have R2 : RelP m' z' n nx c q s E B1 B2 := R1.fr (fun t _ _ _ _ h _ => hm' t h) (fun t _ _ _ _ _ => rfl)
      refine ⟨?_, R2.rel⟩
      rw [e1, ← R1.grs L, hz 2 (by decide) (by decide), isMk_none hg]; rfl
    · obtain ⟨k, hk, rfl⟩ := isMk_ex (by omega) hg
      refine ⟨_, m_Nm_group_i l o mi ml b k w n R.hn R.n40 hb hk, fun v m z hp => ?_⟩
      obtain ⟨e0, hm, hz⟩ := hp
      have R1 : RelP m z n nx c q s E B1 B2 := R.fr (fun t _ _ h _ _ _ => hm t h) (fun t _ h2 h3 _ _ => hz t h2 h3)
      refine ⟨_, e0, _, m_Mo_group_i l o m z b (nI k) w n R1.hm R1.n40 hb, fun v' m' z' hp' => ?_⟩
      obtain ⟨G, L, e1, hm', hz'⟩ := hp'
      subst hz'
      have R2 : RelP m' z' n nx c q s E B1 B2 := R1.fr (fun t _ _ _ _ h _ => hm' t h) (fun t _ _ _ _ _ => rfl)
      refine ⟨?_, R2.rel⟩
      have er := R1.grs L
      rw [hz 2 (by decide) (by decide)] at er
      have hk2 : k < rootsN G n := by rw [← er]; exact hk
      rw [e1, ix_in hk2 (by omega)]
      show some (Value.int (oI (ix w 3) (-1000000002 : Int32) (grpM (oM z') n G k))) = _
      rw [← show grpC z' (clS (z' 2) n b) n k = grpM (oM z') n G k from funext (R1.grp L hk2)]
      unfold grpC
      rw [hz 2 (by decide) (by decide)]
theorem b_middle (h : Rel mi ml) (x g : Int32) : BothJ l o y_Nm_middle c_Nm_middle 3 y_Mo_middle c_Mo_middle 9 [.int x, .int g] mi ml := by
  obtain ⟨n, nx, c, q, s, E, B1, B2, R⟩ := h
  have h40 := R.n40
  rcases rng_cases x 0 64 (by decide) (by decide) with hb | ⟨b, -, hb, rfl⟩
  · exact BothJ.dd (m_Nm_middle_o l o mi ml x g hb) (m_Mo_middle_o l o mi ml x g n R.hm R.n40 hb) rfl R.rel
  · have hj := jnS_le (clS (ml 2) n b) n n
    rcases hg : isMk (jnS (clS (ml 2) n b) n n).2 g with _ | _
    · refine ⟨_, m_Nm_middle_u l o mi ml b g n R.hn R.n40 hb hg, fun v m z hp => ?_⟩
      obtain ⟨e0, hm, hz⟩ := hp
      have R1 : RelP m z n nx c q s E B1 B2 := R.fr (fun t _ _ h _ _ _ => hm t h) (fun t _ h2 h3 h4 h5 => hz t h2 h3 h4 h5)
      refine ⟨_, e0, _, m_Mo_middle_i l o m z b g n R1.hm R1.n40 hb, fun v' m' z' hp' => ?_⟩
      obtain ⟨G, L, e1, hm', hz'⟩ := hp'
      subst hz'
      have R2 : RelP m' z' n nx c q s E B1 B2 := R1.fr (fun t _ _ _ _ h _ => hm' t h) (fun t _ _ _ _ _ => rfl)
      refine ⟨?_, R2.rel⟩
      rw [e1, ← R1.grs L, hz 2 (by decide) (by decide) (by decide) (by decide), isMk_none hg]; rfl
    · obtain ⟨k, hk, rfl⟩ := isMk_ex (by omega) hg
      refine ⟨_, m_Nm_middle_i l o mi ml b k n R.hn R.n40 hb hk, fun v m z hp => ?_⟩
      obtain ⟨e0, hm, hz⟩ := hp
      have R1 : RelP m z n nx c q s E B1 B2 := R.fr (fun t _ _ h _ _ _ => hm t h) (fun t _ h2 h3 h4 h5 => hz t h2 h3 h4 h5)
      refine ⟨_, e0, _, m_Mo_middle_i l o m z b (nI k) n R1.hm R1.n40 hb, fun v' m' z' hp' => ?_⟩
      obtain ⟨G, L, e1, hm', hz'⟩ := hp'
      subst hz'
      have R2 : RelP m' z' n nx c q s E B1 B2 := R1.fr (fun t _ _ _ _ h _ => hm' t h) (fun t _ _ _ _ _ => rfl)
      refine ⟨?_, R2.rel⟩
      have er := R1.grs L
      have em := hz 2 (by decide) (by decide) (by decide) (by decide)
      rw [em] at er
      have hk2 : k < rootsN G n := by rw [← er]; exact hk
      rw [e1, ix_in hk2 (by omega)]
      show some (Value.long (stN (midP (oM z') n G (rootAt G n k)) 64)) = _
      rw [← R1.midE L hk2, em]
theorem b_fewest (h : Rel mi ml) (x w : Int32) : BothI l o y_Nm_fewest c_Nm_fewest 7 y_Mo_fewest c_Mo_fewest 9 [.int x, .int w] mi ml := by
  obtain ⟨n, nx, c, q, s, E, B1, B2, R⟩ := h
  have h40 := R.n40
  rcases rng_cases x 1 8 (by decide) (by decide) with hb | ⟨p, hp1, hp8, rfl⟩
  · exact BothI.dd (m_Nm_fewest_o1 l o mi ml x w hb) (m_Mo_fewest_o1 l o mi ml x w hb) rfl R.rel
  · rcases rng_cases w 0 1 (by decide) (by decide) with hb | ⟨k, -, hk, rfl⟩
    · exact BothI.dd (m_Nm_fewest_o2 l o mi ml p w hp1 hp8 hb) (m_Mo_fewest_o2 l o mi ml p w hp1 hp8 hb) rfl R.rel
    · refine ⟨_, m_Nm_fewest_i l o mi ml p k n R.hn R.n40 hp1 hp8 (by omega), fun v m z hp => ?_⟩
      obtain ⟨e0, hm, hz⟩ := hp
      have R1 : RelP m z n nx c q s E B1 B2 := R.fr (fun t h1 h2 _ _ _ _ => hm t h1 h2) (fun t h _ _ _ _ => hz t h)
      refine ⟨_, e0, _, m_Mo_fewest_i l o m z p k n R1.hm R1.n40 hp1 hp8 (by omega), fun v' m' z' hp' => ?_⟩
      obtain ⟨e1, e2, e3⟩ := hp'
      subst e2; subst e3
      refine ⟨?_, R1.rel⟩
      rw [e1, ← R1.fewE hp1 hp8, hz 2 (by decide)]
theorem b_see (h : Rel mi ml) (x : Int32) : BothI l o y_Nm_see c_Nm_see 2 y_Mo_see c_Mo_see 2 [.int x] mi ml := by
  obtain ⟨n, nx, c, q, s, E, B1, B2, R⟩ := h
  have h40 := R.n40
  rcases rng_cases x 0 64 (by decide) (by decide) with hb | ⟨k, -, hk, rfl⟩
  · exact BothI.dd (m_Nm_see_o l o mi ml x hb) (m_Mo_see_o l o mi ml x hb) rfl R.rel
  · have h6 := R.s6
    by_cases hs : s = 6
    · exact BothI.dd (m_Nm_see_f l o mi ml k s R.hs R.s6 hk hs) (m_Mo_see_f l o mi ml k s R.hsm R.s6 hk hs) rfl R.rel
    · exact BothI.dd (m_Nm_see_i l o mi ml k s R.hs (by omega) hk) (m_Mo_see_i l o _ _ k s (by rw [u2_n _ _ _ (by decide), u2_n _ _ _ (by decide)]; exact R.hsm) (by omega) hk) rfl (R.dSee (by omega) k (by rw [u2_n _ _ _ (by decide), R.h0])).rel
theorem b_write (h : Rel mi ml) (x w v : Int32) : BothI l o y_Nm_write c_Nm_write 4 y_Mo_write c_Mo_write 4 [.int x, .int w, .int v] mi ml := by
  obtain ⟨n, nx, c, q, s, E, B1, B2, R⟩ := h
  have h40 := R.n40
  rcases hb : (isMk n x && (isMk n w && !decide (x = w))) with _ | _
  · exact BothI.dd (m_Nm_write_u l o mi ml x w v n R.hn R.n40 hb) (m_Mo_write_u l o mi ml x w v n R.hm R.n40 hb) rfl R.rel
  · simp only [Bool.and_eq_true, Bool.not_eq_true', decide_eq_false_iff_not] at hb
    obtain ⟨h1, h2, h3⟩ := hb
    obtain ⟨j, hj, rfl⟩ := isMk_ex (by omega) h1
    obtain ⟨k, hk, rfl⟩ := isMk_ex (by omega) h2
    have hjk : j ≠ k := fun e => h3 (by rw [e])
    rcases rng_cases v 0 64 (by decide) (by decide) with hv | ⟨a, -, ha, rfl⟩
    · exact BothI.dd (m_Nm_write_o l o mi ml j k v n R.hn R.n40 hj hk hjk hv) (m_Mo_write_o l o mi ml j k v n R.hm R.n40 hj hk hjk hv) rfl R.rel
    · have h20 := R.E20
      by_cases hE : E = 20
      · exact BothI.dd (m_Nm_write_f l o mi ml j k a n E R.hn R.n40 hj hk hjk R.hE R.E20 ha hE) (m_Mo_write_f l o mi ml j k a n E R.hm R.n40 hj hk hjk R.hEm R.E20 ha hE) rfl R.rel
      · exact BothI.dd (m_Nm_write_i l o mi ml j k a n E R.hn R.n40 hj hk hjk R.hE (by omega) ha) (m_Mo_write_i l o _ _ j k a n E R.hm R.n40 hj hk hjk (by rw [u2_n _ _ _ (by decide), u2_n _ _ _ (by decide), u2_n _ _ _ (by decide), u2_n _ _ _ (by decide)]; exact R.hEm) (by omega) ha) rfl (R.dWrite (by omega) hj hk hjk).rel
theorem b_tear (h : Rel mi ml) : BothI l o y_Nm_tear c_Nm_tear 2 y_Mo_tear c_Mo_tear 2 [] mi ml := by
  obtain ⟨n, nx, c, q, s, E, B1, B2, R⟩ := h
  have h40 := R.n40
  exact BothI.dd (m_Nm_tear l o mi ml s E R.hs R.s6 R.hE R.E20) (m_Mo_tear l o _ _ s E (by rw [u2_n _ _ _ (by decide), u2_n _ _ _ (by decide)]; exact R.hsm) R.s6 (by rw [u2_n _ _ _ (by decide), u2_n _ _ _ (by decide)]; exact R.hEm) R.E20) rfl R.dTear.rel
theorem b_seed (h : Rel mi ml) (x : Int32) : BothI l o y_Nm_seed c_Nm_seed 3 y_Mo_seed c_Mo_seed 3 [.int x] mi ml := by
  obtain ⟨n, nx, c, q, s, E, B1, B2, R⟩ := h
  have h40 := R.n40
  by_cases hv : 0 ≤ x
  · obtain ⟨k, hk, rfl⟩ := nI_of (x := x) (by rw [Int32.lt_iff_toInt_lt]; have := hv; rw [Int32.le_iff_toInt_le] at this; omega)
    exact BothI.dd (m_Nm_seed_i l o mi ml (nI k) hv) (m_Mo_seed_i l o _ _ (nI k) hv) (by rw [u2_n _ _ _ (by decide), R.hq, R.hqm]) (R.dSeed hk).rel
  · exact BothI.dd (m_Nm_seed_o l o mi ml x hv) (m_Mo_seed_o l o mi ml x hv) rfl R.rel
theorem b_keep (h : Rel mi ml) (x : Int32) : BothI l o y_Nm_keep c_Nm_keep 2 y_Mo_keep c_Mo_keep 2 [.int x] mi ml := by
  obtain ⟨n, nx, c, q, s, E, B1, B2, R⟩ := h
  have h40 := R.n40
  rcases rng_cases x 0 1 (by decide) (by decide) with hb | ⟨k, -, hk, rfl⟩
  · exact BothI.dd (m_Nm_keep_u l o mi ml x hb) (m_Mo_keep_u l o mi ml x hb) rfl R.rel
  · rcases (show k = 0 ∨ k = 1 by omega) with rfl | rfl
    · exact BothI.dd (m_Nm_keep_0 l o mi ml n R.hn R.n40) (m_Mo_keep_i l o _ _ 0 (by decide)) rfl (R.dKeep (Or.inl ⟨rfl, rfl⟩) rfl rfl).rel
    · exact BothI.dd (m_Nm_keep_1 l o mi ml n R.hn R.n40) (m_Mo_keep_i l o _ _ 1 (by decide)) rfl (R.dKeep (Or.inr ⟨rfl, rfl⟩) rfl rfl).rel
theorem b_goBack (h : Rel mi ml) (x : Int32) : BothI l o y_Nm_goBack c_Nm_goBack 2 y_Mo_goBack c_Mo_goBack 2 [.int x] mi ml := by
  obtain ⟨n, nx, c, q, s, E, B1, B2, R⟩ := h
  have h40 := R.n40
  rcases rng_cases x 0 1 (by decide) (by decide) with hb | ⟨k, -, hk, rfl⟩
  · exact BothI.dd (m_Nm_goBack_u l o mi ml x hb) (m_Mo_goBack_u l o mi ml x hb) rfl R.rel
  · rcases (show k = 0 ∨ k = 1 by omega) with rfl | rfl
    · rcases R.2.2.2.1.1 with ⟨g1, g2⟩ | ⟨g1, g2, ⟨zz, g3, g4, g5⟩, nb, hb⟩
      · exact BothI.dd (m_Nm_goBack_n0 l o mi ml g1) (m_Mo_goBack_n l o mi ml 0 (by decide) g2) rfl R.rel
      · obtain ⟨a1, a2, a3, a4, a5, a6, a7, a8, a9, a10⟩ := id hb
        refine ⟨_, m_Nm_goBack_i0 l o mi ml nb g1 a2 a1 a8.1 a8.2, fun v m z hp => ?_⟩
        obtain ⟨e0, hP, hm, hz⟩ := hp
        refine ⟨_, e0, _, m_Mo_goBack_i l o m z 0 (by decide) (by rw [hm 103 (by decide) (by decide), u2_n _ _ _ (by decide), u2_n _ _ _ (by decide), bcI_n _ (by decide) (by decide)]; exact g2), fun v' m' z' hp' => ?_⟩
        obtain ⟨e1, e2, e3⟩ := hp'
        subst e2; subst e3
        exact ⟨e1, (R.dGo (Or.inl ⟨rfl, rfl⟩) g3 g4 g5 hb hP hm hz).rel⟩
    · rcases R.2.2.2.1.2 with ⟨g1, g2⟩ | ⟨g1, g2, ⟨zz, g3, g4, g5⟩, nb, hb⟩
      · exact BothI.dd (m_Nm_goBack_n1 l o mi ml g1) (m_Mo_goBack_n l o mi ml 1 (by decide) g2) rfl R.rel
      · obtain ⟨a1, a2, a3, a4, a5, a6, a7, a8, a9, a10⟩ := id hb
        refine ⟨_, m_Nm_goBack_i1 l o mi ml nb g1 a2 a1 a8.1 a8.2, fun v m z hp => ?_⟩
        obtain ⟨e0, hP, hm, hz⟩ := hp
        refine ⟨_, e0, _, m_Mo_goBack_i l o m z 1 (by decide) (by rw [hm 103 (by decide) (by decide), u2_n _ _ _ (by decide), u2_n _ _ _ (by decide), bcI_n _ (by decide) (by decide)]; exact g2), fun v' m' z' hp' => ?_⟩
        obtain ⟨e1, e2, e3⟩ := hp'
        subst e2; subst e3
        exact ⟨e1, (R.dGo (Or.inr ⟨rfl, rfl⟩) g3 g4 g5 hb hP hm hz).rel⟩
end BOTHM
