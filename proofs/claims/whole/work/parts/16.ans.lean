/-! class and reference: answers, out of the relation -/
theorem nle_m1 {a : Nat} (h : a < 2 ^ 31) : ¬ nI a ≤ -1 := by
  rw [Int32.le_iff_toInt_le, nI_toInt h, show (-1 : Int32).toInt = -1 from by decide]; omega
theorem nIle_iff {a b : Nat} (ha : a < 2 ^ 31) (hb : b < 2 ^ 31) : nI a ≤ nI b ↔ a ≤ b := by
  rw [Int32.le_iff_toInt_le, nI_toInt ha, nI_toInt hb]; omega
theorem ahd_cong {f g : Nat → Nat} {n k : Nat} (h : ∀ j, j < n → f j = g j) (hk : k < n) : ahd f n k = ahd g n k := by
  unfold ahd; exact ct_cong (fun j hj => by rw [h j hj, h k hk])
theorem deadM_cong {M N : Nat → Int64} {n b : Nat} (h : ∀ k, k < n → M k = N k) : deadM M n b = deadM N n b := by
  unfold deadM; exact alB_cong (fun k hk => by rw [h k hk, h 0 (by omega)])
theorem togM_cong {M N : Nat → Int64} {n a b : Nat} (h : ∀ k, k < n → M k = N k) : togM M n a b = togM N n a b := by
  unfold togM
  rw [alB_cong (p := fun k => decide (bt (M k) a = bt (M k) b)) (q := fun k => decide (bt (N k) a = bt (N k) b)) (fun k hk => by show decide (bt (M k) a = bt (M k) b) = decide (bt (N k) a = bt (N k) b); rw [h k hk]),
    alB_cong (p := fun k => !decide (bt (M k) a = bt (M k) b)) (q := fun k => !decide (bt (N k) a = bt (N k) b)) (fun k hk => by show (!decide (bt (M k) a = bt (M k) b)) = (!decide (bt (N k) a = bt (N k) b)); rw [h k hk])]
theorem pairM_cong {M N : Nat → Int64} {n a b : Nat} (h : ∀ k, k < n → M k = N k) : pairM M n a b = pairM N n a b := by
  unfold pairM; rw [deadM_cong h, deadM_cong (b := b) h, togM_cong h]
theorem askS_cong {g h : Nat → Nat} {few : Nat} : ∀ {m : Nat}, (∀ i, i < m → g i = h i) → askS g few m = askS h few m
  | 0, _ => rfl
  | m + 1, e => by rw [askS, askS, askS_cong (fun i hi => e i (by omega)), e m (by omega)]
theorem cn_cong {f g : Nat → Nat} {c d : Nat → Bool} {t j : Nat} (h : ∀ i, i < j → f i = g i ∧ c i = d i) : cn f c t j = cn g d t j := by
  unfold cn; exact ct_cong (fun k hk => by rw [(h k hk).1, (h k hk).2])
theorem mst_cong {f g : Nat → Nat} {c d : Nat → Bool} : ∀ {j : Nat}, (∀ i, i < j → f i = g i ∧ c i = d i) → mst f c j = mst g d j
  | 0, _ => rfl
  | j + 1, e => by
    rw [mst, mst, mst_cong (fun i hi => e i (by omega)), (e j (by omega)).1, (e j (by omega)).2, cn_cong (fun i hi => e i (by omega))]
theorem Lab.cg {M N : Nat → Int64} {n b : Nat} {G : Nat → Nat} (h : ∀ k, k < n → M k = N k) (L : Lab M n b G) : Lab N n b G := by
  have hR : ∀ j k, j < n → k < n → Rb N b j k → Rb M b j k := fun j k hj hk r => by unfold Rb at *; rw [h j hj, h k hk]; exact r
  refine ⟨fun k hk => ⟨(L.1 k hk).1, fun P h1 h2 => (L.1 k hk).2 P h1 (fun a c ha hc pa r => h2 a c ha hc pa ?_)⟩, fun j k hj hk r => L.2 j k hj hk (hR j k hj hk r)⟩
  unfold Rb at *; rw [← h a ha, ← h c hc]; exact r
theorem mxI_cong {f g : Nat → Nat} {m : Nat} : ∀ {k : Nat}, (∀ i, i < k → f i = g i) → mxI f m k = mxI g m k
  | 0, _ => rfl
  | k + 1, h => by rw [mxI, mxI, mxI_cong (fun i hi => h i (by omega)), h k (by omega)]
theorem mxO_cong {f g : Nat → Nat → Nat} : ∀ {n : Nat}, (∀ j, j < n → ∀ k, k < j → f j k = g j k) → mxO f n = mxO g n
  | 0, _ => rfl
  | n + 1, h => by rw [mxO, mxO, mxO_cong (fun j hj => h j (by omega)), mxI_cong (h n (by omega))]
theorem looksM_cong {M N : Nat → Int64} {n : Nat} {x : Int64} (h : ∀ k, k < n → M k = N k) : ∀ {j : Nat}, j ≤ n → looksM M n x j = looksM N n x j
  | 0, _ => rfl
  | j + 1, hj => by
    show looksM M n x j + ct (fun k => lk (M j) (M k) x) n = looksM N n x j + ct (fun k => lk (N j) (N k) x) n
    rw [looksM_cong h (show j ≤ n by omega), ct_cong (p := fun k => lk (M j) (M k) x) (q := fun k => lk (N j) (N k) x) (fun k hk => by show lk (M j) (M k) x = lk (N j) (N k) x; rw [h j (by omega), h k hk])]
theorem isMk_m1 (n : Nat) : isMk n (-1) = false := by
  unfold isMk; rw [show decide ((0 : Int32) ≤ -1) = false from by decide]; rfl
section RELANS
variable {mi : MI} {ml : ML} {n nx c q s E : Nat} {B1 B2 : Nat → Nat}
theorem RelP.n40 (R : RelP mi ml n nx c q s E B1 B2) : n ≤ 40 := R.1.1
theorem RelP.hn (R : RelP mi ml n nx c q s E B1 B2) : mi 1 2 = nI n := R.1.2.1
theorem RelP.hm (R : RelP mi ml n nx c q s E B1 B2) : ml 96 2 = lN n := R.1.2.2.1
theorem RelP.h0 (R : RelP mi ml n nx c q s E B1 B2) : ml 96 0 = ml 1 0 := R.1.2.2.2.1
theorem RelP.h1 (R : RelP mi ml n nx c q s E B1 B2) : ml 96 1 = ml 1 1 := R.1.2.2.2.2.1
theorem RelP.own (R : RelP mi ml n nx c q s E B1 B2) : ∀ k, k < n → oM ml k = ml 2 k := by
  obtain ⟨a1, a2, a3, a4, a5, a6, a7, a8, a9, a10⟩ := R.1
  intro k hk
  have e := a6 k hk
  rw [show 0 + 3 + k = 3 + k by omega] at e
  exact e
theorem RelP.knd (R : RelP mi ml n nx c q s E B1 B2) : ∀ k, k < n → mi 97 k = mi 3 k := by
  obtain ⟨a1, a2, a3, a4, a5, a6, a7, a8, a9, a10⟩ := R.1
  intro k hk
  have e := a7 k hk
  rw [Nat.zero_add] at e
  exact e
theorem RelP.cut (R : RelP mi ml n nx c q s E B1 B2) : bt (ml 1 1) 0 = true ∧ pop (ml 1 1) ≤ 8 := by
  obtain ⟨a1, a2, a3, a4, a5, a6, a7, a8, a9, a10⟩ := R.1
  exact a8
theorem RelP.inj (R : RelP mi ml n nx c q s E B1 B2) : ∀ j k, j < n → k < n → ml 2 j = ml 2 k → j = k := by
  obtain ⟨a1, a2, a3, a4, a5, a6, a7, a8, a9, a10⟩ := R.1
  exact a9
theorem RelP.kn3 (R : RelP mi ml n nx c q s E B1 B2) : ∀ k, k < n → mi 3 k = nI 0 ∨ mi 3 k = nI 1 ∨ mi 3 k = nI 2 := by
  obtain ⟨a1, a2, a3, a4, a5, a6, a7, a8, a9, a10⟩ := R.1
  exact a10
theorem RelP.hP (R : RelP mi ml n nx c q s E B1 B2) : mi 75 2 = nI (pop (ml 1 1)) := R.2.1.1
theorem RelP.P1 (R : RelP mi ml n nx c q s E B1 B2) : 1 ≤ pop (ml 1 1) := pop_pos R.cut.1
theorem RelP.like (R : RelP mi ml n nx c q s E B1 B2) : fromB (fun k => decide (ml 2 k = ml 1 0)) n 0 = lastB (fun k => decide (oM ml k = ml 96 0)) n := by
  refine (first_last (fun j k hj hk h1 h2 => ?_)).trans (lastB_cong (fun k hk => ?_))
  · simp only [decide_eq_true_eq] at h1 h2
    exact R.inj j k hj hk (h1.trans h2.symm)
  · show decide (ml 2 k = ml 1 0) = decide (oM ml k = ml 96 0)
    rw [R.own k hk, R.h0]
theorem RelP.alk (R : RelP mi ml n nx c q s E B1 B2) (d : Int64) : anyP d (ml 77) (pop (ml 1 1)) = alikeC d (ml 1 1) := any_alike R.2.1 d
theorem RelP.lkk (R : RelP mi ml n nx c q s E B1 B2) {k : Nat} (hk : k < n) : lk (oM ml k) (ml 96 0) (ml 96 1) = anyP (ml 2 k ^^^ ml 1 0) (ml 77) (pop (ml 1 1)) := by
  rw [R.own k hk, R.h0, R.h1, alike_lk R.cut.1, R.alk]
theorem RelP.lo4 (R : RelP mi ml n nx c q s E B1 B2) : ct (lookC ml (pop (ml 1 1)) (-1)) n = ct (lookP ml false) n := by
  refine ct_cong (fun k hk => ?_)
  show (!decide (nI (ds (ml 2 k) (ml 1 0)) ≤ -1) && anyP (ml 2 k ^^^ ml 1 0) (ml 77) (pop (ml 1 1))) = (lk (oM ml k) (ml 96 0) (ml 96 1) && (!false || !decide (ds (oM ml k) (ml 96 0) < pop (ml 96 1))))
  rw [R.lkk hk, decide_eq_false (nle_m1 (ds_lt (ml 2 k) (ml 1 0)))]
  generalize anyP (ml 2 k ^^^ ml 1 0) (ml 77) (pop (ml 1 1)) = u
  cases u <;> rfl
theorem RelP.lo5 (R : RelP mi ml n nx c q s E B1 B2) : ct (lookC ml (pop (ml 1 1)) (nI (pop (ml 1 1) - 1))) n = ct (lookP ml true) n := by
  refine ct_cong (fun k hk => ?_)
  have hp := R.P1
  have hl := pop_le (ml 1 1)
  show (!decide (nI (ds (ml 2 k) (ml 1 0)) ≤ nI (pop (ml 1 1) - 1)) && anyP (ml 2 k ^^^ ml 1 0) (ml 77) (pop (ml 1 1))) = (lk (oM ml k) (ml 96 0) (ml 96 1) && (!true || !decide (ds (oM ml k) (ml 96 0) < pop (ml 96 1))))
  rw [R.lkk hk, R.own k hk, R.h0, R.h1, show decide (nI (ds (ml 2 k) (ml 1 0)) ≤ nI (pop (ml 1 1) - 1)) = decide (ds (ml 2 k) (ml 1 0) < pop (ml 1 1)) from decide_eq_decide.mpr (by rw [nIle_iff (ds_lt _ _) (by omega)]; omega)]
  generalize anyP (ml 2 k ^^^ ml 1 0) (ml 77) (pop (ml 1 1)) = u
  generalize decide (ds (ml 2 k) (ml 1 0) < pop (ml 1 1)) = w
  cases u <;> cases w <;> rfl
theorem RelP.nrs (R : RelP mi ml n nx c q s E B1 B2) (w : Int32) : nrsC ml n w = nrst ml n w := by
  unfold nrsC nrst
  rw [nrs_eq R.n40]
  refine lastB_cong (fun k hk => ?_)
  show decide (nI (ahd (fun q => ds (ml 2 q) (ml 1 0)) n k) = w) = decide (nI (ahd (fun q => ds (oM ml q) (ml 96 0)) n k) = w)
  rw [ahd_cong (f := fun q => ds (ml 2 q) (ml 1 0)) (g := fun q => ds (oM ml q) (ml 96 0)) (fun j hj => by show ds (ml 2 j) (ml 1 0) = ds (oM ml j) (ml 96 0); rw [R.own j hj, R.h0]) hk]
theorem RelP.t7 (R : RelP mi ml n nx c q s E B1 B2) : (if isMk n (nrsC ml n (nI 0)) then nI (ds (ml 2 (nrsC ml n (nI 0)).toNatClampNeg) (ml 1 0)) else -1) = (if nrst ml n 0 = -1 then -1 else nI (ds (oM ml (nrst ml n 0).toNatClampNeg) (ml 96 0))) := by
  have hl := R.n40
  rw [R.nrs, show nI 0 = (0 : Int32) from rfl]
  rcases lastB_spec (p := fun k => decide (nI (ahd (fun q => ds (oM ml q) (ml 96 0)) n k) = 0)) (n := n) with ⟨e, -⟩ | ⟨k, hk, -, e⟩
  · have e : nrst ml n 0 = -1 := e
    rw [e, if_pos rfl, isMk_m1, if_neg (by decide)]
  · have e : nrst ml n 0 = nI k := e
    rw [e, isMk_nI (by omega) (by omega), decide_eq_true hk, if_pos rfl, if_neg (nI_ne_m1 (by omega)), nI_clamp (by omega), R.own k hk, R.h0]
theorem RelP.cbb (R : RelP mi ml n nx c q s E B1 B2) {k : Nat} (hk : k < n) : cbC mi ml s k = cbM mi ml s k := by
  obtain ⟨r1, r2, r3, r4, r5, ⟨b1, b2, b3, b4⟩, r8⟩ := id R
  unfold cbC cbM cb
  exact alB_cong (fun i hi => by rw [R.own k hk, (b4 i hi).1, (b4 i hi).2])
theorem RelP.cbn (R : RelP mi ml n nx c q s E B1 B2) : pop (stB (cbC mi ml s) n) = ctD (cbM mi ml s) n n := by
  have hl := R.n40
  rw [pop_stB (by omega), ctD_all, ct_cong (fun k hk => R.cbb hk)]
theorem RelP.wrg (R : RelP mi ml n nx c q s E B1 B2) : fromB (fun e => !rgC mi ml n B1 B2 e) E 0 = fromB (wrongP mi ml n B1 B2) E 0 := by
  obtain ⟨r1, r2, r3, r4, r5, r6, b1, b2, b3, b4⟩ := id R
  have hl := R.n40
  refine fromB_cong (fun e _ he => ?_)
  obtain ⟨⟨-, -, c1⟩, ⟨-, -, c2⟩, c3, c4⟩ := b4 e (by omega)
  have ne : decide (nI (B1 e) = nI (B2 e)) = false := decide_eq_false (fun h => c3 ((nI_eq (by omega) (by omega)).mp h))
  show (!((isMk n (nI (B1 e)) && (isMk n (nI (B2 e)) && !decide (nI (B1 e) = nI (B2 e)))) && decide (nI (ds (ml 2 (B1 e)) (ml 2 (B2 e))) = mi 93 e))) = (!(isMk n (nI (B1 e)) && isMk n (nI (B2 e))) || !decide (nI (ds (oM ml (B1 e)) (oM ml (B2 e))) = mi 108 e))
  rw [isMk_nI (by omega) (by omega), isMk_nI (by omega) (by omega), ne]
  by_cases h1 : B1 e < n
  · by_cases h2 : B2 e < n
    · rw [R.own _ h1, R.own _ h2, c4, decide_eq_true h1, decide_eq_true h2]
      generalize decide (nI (ds (ml 2 (B1 e)) (ml 2 (B2 e))) = mi 93 e) = u
      cases u <;> rfl
    · rw [decide_eq_true h1, decide_eq_false h2]; rfl
  · rw [decide_eq_false h1]; rfl
theorem RelP.ask (R : RelP mi ml n nx c q s E B1 B2) : askS (fun k => mstC (fun q => ds (ml 2 q) (ml 2 k)) (bt (stB (cbC mi ml s) n)) n) (pop (stB (cbC mi ml s) n)) n = askS (fun z => mst (fun q => ds (oM ml q) (oM ml z)) (cbM mi ml s) n) (ctD (cbM mi ml s) n n) n := by
  have hl := R.n40
  rw [R.cbn]
  refine askS_cong (fun k hk => ?_)
  show mstC (fun q => ds (ml 2 q) (ml 2 k)) (bt (stB (cbC mi ml s) n)) n = mst (fun q => ds (oM ml q) (oM ml k)) (cbM mi ml s) n
  rw [mstC_eq]
  refine mst_cong (fun i hi => ⟨?_, ?_⟩)
  · show ds (ml 2 i) (ml 2 k) = ds (oM ml i) (oM ml k)
    rw [R.own i hi, R.own k hk]
  · rw [bt_stB (by omega) i (by omega), decide_eq_true hi, R.cbb hi]; rfl
theorem RelP.tq (R : RelP mi ml n nx c q s E B1 B2) : ∀ q, toldC mi ml n (pop (ml 1 1)) s E B1 B2 q = toldM mi ml n s E B1 B2 q
  | 0 => rfl
  | 1 => by show nI (pop (ml 1 1)) = nI (pop (ml 96 1)); rw [R.h1]
  | 2 => by show nI (pop (ml 1 0)) = nI (pop (ml 96 0)); rw [R.h0]
  | 3 => R.like
  | 4 => congrArg nI R.lo4
  | 5 => congrArg nI R.lo5
  | 6 => R.nrs (nI 0)
  | 7 => R.t7
  | 8 => by
    show nI (ct (deadC (ml 2) n) 64) = nI (ct (fun b => deadM (oM ml) n b) 64)
    rw [ct_cong (fun b hb => (dead_eq (M := ml 2) R.n40 hb).trans (deadM_cong (fun k hk => (R.own k hk).symm)))]
  | 9 => togR_cong (by decide) (fun x y hx hy => (pair_eq R.n40 hx hy).trans (pairM_cong (fun k hk => (R.own k hk).symm)))
  | 10 => rfl
  | 11 => congrArg nI R.cbn
  | 12 => by
    have hl := R.n40
    show fromB (bt (stB (cbC mi ml s) n)) 64 0 = lastD (cbM mi ml s) n n
    rw [first_stB (by omega), lastD_all]
    exact fromB_cong (fun k _ hk => R.cbb (by omega))
  | 13 => congrArg Prod.snd R.ask
  | 14 => rfl
  | 15 => R.wrg
  | _ + 16 => R.2.2.1.2.2.1.trans R.2.2.1.2.2.2.2.1.symm
theorem RelP.told (R : RelP mi ml n nx c q s E B1 B2) : toldC mi ml n (pop (ml 1 1)) s E B1 B2 = toldM mi ml n s E B1 B2 := funext R.tq
theorem RelP.mk (R : RelP mi ml n nx c q s E B1 B2) {k : Nat} (hk : k < n) : ∀ q, markC mi ml n (pop (ml 1 1)) k q = markM mi ml n k q
  | 0 => (R.knd k hk).symm
  | 1 => by show nI (pop (ml 2 k)) = nI (pop (oM ml k)); rw [R.own k hk]
  | 2 => by show nI (ds (ml 2 k) (ml 1 0)) = nI (ds (oM ml k) (ml 96 0)); rw [R.own k hk, R.h0]
  | 3 => by
    have hp := R.P1
    show nI (ct (othC ml k (pop (ml 1 1) - 1)) n) = nI (ct (fun j => (!decide (j = k) && !decide (pop (ml 96 1) ≤ ds (oM ml j) (oM ml k)))) n)
    refine congrArg nI (ct_cong (fun j hj => ?_))
    show (!decide (j = k) && !decide (pop (ml 1 1) - 1 < ds (ml 2 j) (ml 2 k))) = (!decide (j = k) && !decide (pop (ml 96 1) ≤ ds (oM ml j) (oM ml k)))
    rw [R.own k hk, R.own j hj, R.h1, show decide (pop (ml 1 1) - 1 < ds (ml 2 j) (ml 2 k)) = decide (pop (ml 1 1) ≤ ds (ml 2 j) (ml 2 k)) from decide_eq_decide.mpr (by omega)]
  | _ + 4 => by
    show bI (anyP (ml 2 k ^^^ ml 1 0) (ml 77) (pop (ml 1 1))) = bI (lk (oM ml k) (ml 96 0) (ml 96 1))
    rw [R.lkk hk]
theorem RelP.prt (R : RelP mi ml n nx c q s E B1 B2) {p : Nat} (hp : p < pop (ml 1 1)) : ∀ q, partC mi ml n p q = partM ml n p q
  | 0 => by
    show mi 76 p = nI (kth (ml 96 1) p)
    rw [R.h1]; exact R.2.1.2.1 p hp
  | 1 => by
    show nI (pop (ml 77 p)) = nI (enM (ml 96 1) p - kth (ml 96 1) p)
    rw [R.h1, pop_mask hp (R.2.1.2.2 p hp)]
  | _ + 2 => by
    show nI (ct (withC ml (ml 77 p)) n) = nI (ct (fun k => alB (fun t => decide (bt (oM ml k) (kth (ml 96 1) p + t) = bt (ml 96 0) (kth (ml 96 1) p + t))) (enM (ml 96 1) p - kth (ml 96 1) p)) n)
    rw [R.h1, R.h0]
    refine congrArg nI (ct_cong (fun k hk => ?_))
    show decide ((ml 2 k ^^^ ml 1 0) &&& ml 77 p = 0) = alB (fun t => decide (bt (oM ml k) (kth (ml 1 1) p + t) = bt (ml 1 0) (kth (ml 1 1) p + t))) (enM (ml 1 1) p - kth (ml 1 1) p)
    rw [R.own k hk]
    exact with_eq (R.2.1.2.2 p hp)
theorem RelP.nearE (R : RelP mi ml n nx c q s E B1 B2) (b : Nat) : stB (fun k => nearQ (mi 3 k) (ds (ml 2 k) (ml 1 0)) b (pop (ml 1 1))) n = stB (fun k => nearP (mi 97 k) (ds (oM ml k) (ml 96 0)) b (pop (ml 96 1))) n := by
  have hl := R.n40
  refine (stB_inj (by omega)).mpr (fun k hk => ?_)
  show nearQ (mi 3 k) (ds (ml 2 k) (ml 1 0)) b (pop (ml 1 1)) = nearP (mi 97 k) (ds (oM ml k) (ml 96 0)) b (pop (ml 96 1))
  rw [R.knd k hk, R.own k hk, R.h0, R.h1]
  exact near_eq (R.kn3 k hk)
theorem RelP.nrsE (R : RelP mi ml n nx c q s E B1 B2) (w : Int32) : nrsC ml n w = (if 0 ≤ w then lastB (fun k => decide (nI (ahd (fun q => ds (oM ml q) (ml 96 0)) n k) = w)) n else -1) := by
  have hl := R.n40
  by_cases h : 0 ≤ w
  · rw [if_pos h, R.nrs]; rfl
  · rw [if_neg h, R.nrs]
    unfold nrst
    rcases lastB_spec (p := fun k => decide (nI (ahd (fun q => ds (oM ml q) (ml 96 0)) n k) = w)) (n := n) with ⟨e, -⟩ | ⟨k, hk, hp, -⟩
    · exact e
    · simp only [decide_eq_true_eq] at hp
      have a1 : ahd (fun q => ds (oM ml q) (ml 96 0)) n k ≤ n := ct_le _ _
      have a2 : (0 : Int32) ≤ nI (ahd (fun q => ds (oM ml q) (ml 96 0)) n k) := nI_pos' (by omega)
      rw [hp] at a2
      exact absurd a2 h
theorem RelP.lab (R : RelP mi ml n nx c q s E B1 B2) {b : Nat} {G : Nat → Nat} (L : Lab (oM ml) n b G) : Lab (ml 2) n b G := L.cg R.own
theorem RelP.grs (R : RelP mi ml n nx c q s E B1 B2) {b : Nat} {G : Nat → Nat} (L : Lab (oM ml) n b G) : (jnS (clS (ml 2) n b) n n).2 = rootsN G n := roots_eq R.n40 (R.lab L)
theorem RelP.grp (R : RelP mi ml n nx c q s E B1 B2) {b x : Nat} {G : Nat → Nat} (L : Lab (oM ml) n b G) (hx : x < rootsN G n) : ∀ q, grpC ml (clS (ml 2) n b) n x q = grpM (oM ml) n G x q
  | 0 => by
    have hl := R.n40
    show nI (pop (setC (clS (ml 2) n b) n x)) = nI (ct (fun k => decide (G k = rootAt G n x)) n)
    rw [set_eq R.n40 (R.lab L) hx, pop_stB (by omega)]
  | 1 => by
    have hl := R.n40
    obtain ⟨h1, h2⟩ := root_ok hx
    show fromB (bt (setC (clS (ml 2) n b) n x)) 64 0 = nI (rootAt G n x)
    rw [set_eq R.n40 (R.lab L) hx, first_stB (by omega), first_root L h1 h2]
  | _ + 2 => by
    have hl := R.n40
    show nI (wdO (bt (setC (clS (ml 2) n b) n x)) (fun p q => ds (ml 2 p) (ml 2 q)) n n) = nI (mxO (fun a c => if (!decide (G a = rootAt G n x) || !decide (G c = rootAt G n x)) then 0 else ds (oM ml a) (oM ml c)) n)
    rw [set_eq R.n40 (R.lab L) hx, wide_eq R.n40]
    refine congrArg nI (mxO_cong (fun j hj k hk => ?_))
    show (if (!decide (G j = rootAt G n x) || !decide (G k = rootAt G n x)) then 0 else ds (ml 2 j) (ml 2 k)) = (if (!decide (G j = rootAt G n x) || !decide (G k = rootAt G n x)) then 0 else ds (oM ml j) (oM ml k))
    rw [R.own j hj, R.own k (by omega)]
theorem RelP.midE (R : RelP mi ml n nx c q s E B1 B2) {b x : Nat} {G : Nat → Nat} (L : Lab (oM ml) n b G) (hx : x < rootsN G n) : midC (ml 2) n (setC (clS (ml 2) n b) n x) = stN (midP (oM ml) n G (rootAt G n x)) 64 := by
  rw [mid_eq R.n40 (set_eq R.n40 (R.lab L) hx), stN_eq, stN_eq]
  refine (stB_inj (Nat.le_refl _)).mpr (fun k hk => ?_)
  show (!midP (ml 2) n G (rootAt G n x) k) = (!midP (oM ml) n G (rootAt G n x) k)
  unfold midP
  rw [ct_cong (p := fun j => decide (G j = rootAt G n x) && bt (ml 2 j) k) (q := fun j => decide (G j = rootAt G n x) && bt (oM ml j) k) (fun j hj => by show (decide (G j = rootAt G n x) && bt (ml 2 j) k) = (decide (G j = rootAt G n x) && bt (oM ml j) k); rw [R.own j hj])]
theorem RelP.fewE (R : RelP mi ml n nx c q s E B1 B2) {p w : Nat} (hp1 : 1 ≤ p) (hp8 : p ≤ 8) : (if decide (w = 0) then nI (fewC (fun h => n + 2 * prX (ml 2) n (evS p h p).1 n) 3).1 else (fewC (fun h => n + 2 * prX (ml 2) n (evS p h p).1 n) 3).2) = nI (if decide (w = 0) then (fewS (fun h => looksM (oM ml) n (cutS p h p).1 n) 3).1 else (fewS (fun h => looksM (oM ml) n (cutS p h p).1 n) 3).2) := by
  have e : ∀ h, h < 3 → (fun h => n + 2 * prX (ml 2) n (evS p h p).1 n) h = (fun h => looksM (oM ml) n (cutS p h p).1 n) h := fun h hh => by
    show n + 2 * prX (ml 2) n (evS p h p).1 n = looksM (oM ml) n (cutS p h p).1 n
    rw [looks_eq (ev_ok p (by omega) hp1 h hh).1, even_eq p (by omega) hp1 h hh]
    exact looksM_cong (fun k hk => (R.own k hk).symm) (Nat.le_refl n)
  rw [fewC_cong e, few_eq _ 2 (by decide)]
  by_cases h : w = 0
  · rw [if_pos (by simpa using h), if_pos (by simpa using h)]
  · rw [if_neg (by simpa using h), if_neg (by simpa using h)]
end RELANS
