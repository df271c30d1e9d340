/-! class and reference: the same answers, part 3: groups -/
theorem ds_comm (x y : Int64) : ds x y = ds y x := by
  unfold ds; rw [show x ^^^ y = y ^^^ x from Int64.xor_comm x y]
theorem ds_self (x : Int64) : ds x x = 0 := by
  unfold ds; rw [Int64.xor_self]; decide
theorem Rb.symm {M : Nat → Int64} {b j k : Nat} (h : Rb M b j k) : Rb M b k j := by
  unfold Rb at *; rw [ds_comm]; exact h
theorem Rb.self {M : Nat → Int64} {b j : Nat} : Rb M b j j := by
  unfold Rb; rw [ds_self]; exact Nat.zero_le _
theorem Cn.trans {M : Nat → Int64} {n b i j k : Nat} (h1 : Cn M n b i j) (h2 : Cn M n b j k) : Cn M n b i k := fun P a s => h2 P (h1 P a s) s
theorem Cn.symm {M : Nat → Int64} {n b j k : Nat} (h : Cn M n b j k) : Cn M n b k j :=
  h (fun x => Cn M n b x j) Cn.rf (fun a c ha hc q hr => (Cn.rf.step hc ha hr.symm).trans q)
theorem Lab.const {M : Nat → Int64} {n b : Nat} {G : Nat → Nat} (h : Lab M n b G) {j k : Nat} (hj : j < n) (hk : k < n) (hr : Rb M b j k) : G j = G k := by
  have h1 := h.2 j k hj hk hr
  have h2 := h.2 k j hk hj hr.symm
  omega
theorem Lab.cn {M : Nat → Int64} {n b : Nat} {G : Nat → Nat} (h : Lab M n b G) {j k : Nat} (hq : Cn M n b j k) : G k = G j :=
  hq (fun x => G x = G j) rfl (fun a c ha hc q hr => (h.const ha hc hr).symm.trans q)
theorem Lab.lt {M : Nat → Int64} {n b : Nat} {G : Nat → Nat} (h : Lab M n b G) {k : Nat} (hk : k < n) : G k < n := by
  have := (h.1 k hk).1; omega
theorem Lab.root {M : Nat → Int64} {n b : Nat} {G : Nat → Nat} (h : Lab M n b G) {k : Nat} (hk : k < n) : G (G k) = G k := (h.cn (h.1 k hk).2).symm
theorem Lab.iff {M : Nat → Int64} {n b : Nat} {G : Nat → Nat} (h : Lab M n b G) {j k : Nat} (hj : j < n) (hk : k < n) : Cn M n b k j ↔ G j = G k := by
  constructor
  · exact fun q => h.cn q
  · intro e
    have h1 := (h.1 k hk).2
    have h2 := (h.1 j hj).2
    rw [e] at h2
    exact h1.symm.trans h2
/-- sets of longs -/
def subS (x y : Int64) : Prop := ∀ j, j < 64 → bt x j = true → bt y j = true
theorem subS.rf (x : Int64) : subS x x := fun _ _ h => h
theorem subS.tr {x y z : Int64} (h1 : subS x y) (h2 : subS y z) : subS x z := fun j hj h => h2 j hj (h1 j hj h)
theorem subS.or_l (x y : Int64) : subS x (x ||| y) := fun j _ h => by rw [bt_or, h]; rfl
theorem subS.or_r (x y : Int64) : subS y (x ||| y) := fun j _ h => by rw [bt_or, h, Bool.or_true]
theorem subS.anti {x y : Int64} (h1 : subS x y) (h2 : subS y x) : x = y := bt_ext (fun j hj => by rw [Bool.eq_iff_iff]; exact ⟨h1 j hj, h2 j hj⟩)
theorem psS_up {cl : Nat → Int64} {s : Int64} : ∀ i, subS (psS cl s i) (psS cl s (i + 1)) := by
  intro i
  by_cases h : bt (psS cl s i) i = true
  · rw [psS_y h]; exact subS.or_l _ _
  · rw [psS_n (by simpa using h)]; exact subS.rf _
theorem psS_mono {cl : Nat → Int64} {s : Int64} {i : Nat} : ∀ d, subS (psS cl s i) (psS cl s (i + d))
  | 0 => subS.rf _
  | d + 1 => (psS_mono d).tr (psS_up (i + d))
theorem psS_fix {cl : Nat → Int64} {s : Int64} {n : Nat} (h : psS cl s n = s) {i : Nat} (hi : i ≤ n) : psS cl s i = s := by
  apply subS.anti
  · have := psS_mono (cl := cl) (s := s) (i := i) (n - i)
    rw [show i + (n - i) = n by omega, h] at this
    exact this
  · have := psS_mono (cl := cl) (s := s) (i := 0) i
    rw [Nat.zero_add] at this
    exact this
theorem psS_closed {cl : Nat → Int64} {s : Int64} {n : Nat} (h : psS cl s n = s) {k : Nat} (hk : k < n) (hb : bt s k = true) : subS (cl k) s := by
  have e1 := psS_fix h (show k ≤ n by omega)
  have e2 := psS_fix h (show k + 1 ≤ n by omega)
  rw [psS_y (by rw [e1]; exact hb), e1] at e2
  have := subS.or_r s (cl k)
  rw [e2] at this
  exact this
theorem pop_lt_of {x y : Int64} (h : subS x y) (hne : x ≠ y) : pop x < pop y := by
  have : ∃ i, i < 64 ∧ bt x i = false ∧ bt y i = true := by
    apply Classical.byContradiction
    intro q
    apply hne
    apply subS.anti h
    intro j hj hy
    rcases hx : bt x j with _ | _
    · exact absurd ⟨j, hj, hx, hy⟩ q
    · rfl
  obtain ⟨i, h1, h2, h3⟩ := this
  exact ct_ssub (i := i) (fun k hk => h k hk) h1 h2 h3
theorem spr_up {cl : Nat → Int64} {n : Nat} {s : Int64} (r : Nat) : subS (sprS cl n s r) (sprS cl n s (r + 1)) := by
  have := psS_mono (cl := cl) (s := sprS cl n s r) (i := 0) n
  rw [Nat.zero_add] at this
  exact this
theorem spr_grow {cl : Nat → Int64} {n : Nat} {s : Int64} (h1 : 1 ≤ pop s) : ∀ r, (∀ q, q < r → psS cl (sprS cl n s q) n ≠ sprS cl n s q) → r + 1 ≤ pop (sprS cl n s r)
  | 0, _ => h1
  | r + 1, h => by
    have ih := spr_grow h1 r (fun q hq => h q (by omega))
    have := pop_lt_of (spr_up (cl := cl) (n := n) (s := s) r) (fun e => h r (by omega) e.symm)
    omega
/-- the marks that are near by others, as the class finds them -/
theorem cl_bt {M : Nat → Int64} {n b j k : Nat} (hn : n ≤ 40) (hk : k < 64) : bt (clS M n b j) k = true ↔ k < n ∧ Rb M b j k := by
  unfold clS
  rw [bt_stB (by omega) k hk]
  simp only [Bool.and_eq_true, decide_eq_true_eq, Bool.not_eq_true', decide_eq_false_iff_not]
  unfold Rb
  constructor
  · rintro ⟨h1, h2⟩; exact ⟨h1, by omega⟩
  · rintro ⟨h1, h2⟩; exact ⟨h1, by omega⟩
def inC (M : Nat → Int64) (n b f : Nat) (s : Int64) : Prop := ∀ j, j < 64 → bt s j = true → j < n ∧ Cn M n b f j
theorem psS_in {M : Nat → Int64} {n b f : Nat} {s : Int64} (hn : n ≤ 40) (h : inC M n b f s) : ∀ i, i ≤ n → inC M n b f (psS (clS M n b) s i)
  | 0, _ => h
  | i + 1, hi => by
    have ih := psS_in hn h i (by omega)
    by_cases hb : bt (psS (clS M n b) s i) i = true
    · rw [psS_y hb]
      intro j hj hq
      rw [bt_or, Bool.or_eq_true] at hq
      rcases hq with hq | hq
      · exact ih j hj hq
      · obtain ⟨h1, h2⟩ := (cl_bt hn hj).mp hq
        obtain ⟨h3, h4⟩ := ih i (by omega) hb
        exact ⟨h1, h4.step h3 h1 h2⟩
    · rw [psS_n (by simpa using hb)]; exact ih
theorem spr_in {M : Nat → Int64} {n b f : Nat} (hn : n ≤ 40) (hf : f < n) : ∀ r, inC M n b f (sprS (clS M n b) n (clS M n b f) r)
  | 0 => fun j hj hq => by
    obtain ⟨h1, h2⟩ := (cl_bt hn hj).mp hq
    exact ⟨h1, Cn.rf.step hf h1 h2⟩
  | r + 1 => psS_in hn (spr_in hn hf r) n (Nat.le_refl n)
theorem spr_fix {M : Nat → Int64} {n b f : Nat} (hn : n ≤ 40) (hf : f < n) : psS (clS M n b) (sprS (clS M n b) n (clS M n b f) n) n = sprS (clS M n b) n (clS M n b f) n := by
  have hex : ∃ r, r < n ∧ psS (clS M n b) (sprS (clS M n b) n (clS M n b f) r) n = sprS (clS M n b) n (clS M n b f) r := by
    apply Classical.byContradiction
    intro q
    have h1 : 1 ≤ pop (clS M n b f) := by
      have h2 : bt (clS M n b f) f = true := (cl_bt hn (by omega)).mpr ⟨hf, Rb.self⟩
      have h3 := ct_mono (bt (clS M n b f)) (show f + 1 ≤ 64 by omega)
      rw [ct_t h2] at h3
      unfold pop; omega
    have h4 := spr_grow (cl := clS M n b) (n := n) h1 n (fun r hr e => q ⟨r, hr, e⟩)
    have h5 : pop (sprS (clS M n b) n (clS M n b f) n) ≤ n := by
      have h6 := ct_sub (p := bt (sprS (clS M n b) n (clS M n b f) n)) (q := fun k => decide (k < n) && true) (n := 64) (fun k hk hb => by
        have := (spr_in hn hf n k hk hb).1
        simp [this])
      rw [ct_lim (by omega)] at h6
      have h7 := ct_le (fun _ => true) n
      unfold pop; omega
    omega
  obtain ⟨r, hr, e⟩ := hex
  have h1 := sprS_fix e (n - r)
  rw [show r + (n - r) = n by omega] at h1
  rw [h1]; exact e
theorem spr_eq {M : Nat → Int64} {n b f : Nat} {G : Nat → Nat} (hn : n ≤ 40) (hL : Lab M n b G) (hf : f < n) : sprS (clS M n b) n (clS M n b f) n = stB (fun j => decide (G j = G f)) n := by
  apply bt_ext
  intro j hj
  rw [bt_stB (by omega) j hj, Bool.eq_iff_iff]
  simp only [Bool.and_eq_true, decide_eq_true_eq]
  constructor
  · intro h
    obtain ⟨h1, h2⟩ := spr_in hn hf n j hj h
    exact ⟨h1, (hL.iff h1 hf).mp h2⟩
  · rintro ⟨h1, h2⟩
    have hc := (hL.iff h1 hf).mpr h2
    have hq := hc (fun x => x < n ∧ bt (sprS (clS M n b) n (clS M n b f) n) x = true) ⟨hf, ?_⟩ (fun a c ha hc2 q hr => ⟨hc2, ?_⟩)
    · exact hq.2
    · have h3 : bt (clS M n b f) f = true := (cl_bt hn (by omega)).mpr ⟨hf, Rb.self⟩
      have h4 : ∀ r, subS (clS M n b f) (sprS (clS M n b) n (clS M n b f) r) := by
        intro r
        induction r with
        | zero => exact subS.rf _
        | succ r ih => exact ih.tr (spr_up r)
      exact h4 n f (by omega) h3
    · exact psS_closed (spr_fix hn hf) ha q.2 c (by omega) ((cl_bt hn (by omega)).mpr ⟨hc2, hr⟩)
theorem jn_bt {M : Nat → Int64} {n b : Nat} {G : Nat → Nat} (hn : n ≤ 40) (hL : Lab M n b G) : ∀ k, k ≤ n → ∀ j, j < 64 → (bt (jnS (clS M n b) n k).1 j = true ↔ j < n ∧ ∃ i, i < k ∧ G i = G j)
  | 0, _, j, _ => by
    constructor
    · intro h; rw [jnS, bt_0] at h; cases h
    · rintro ⟨-, i, h, -⟩; omega
  | k + 1, hk, j, hj => by
    have ih := jn_bt hn hL k (by omega)
    by_cases hb : bt (jnS (clS M n b) n k).1 k = true
    · rw [jnS_y hb, ih j hj]
      obtain ⟨-, i0, h1, h2⟩ := (ih k (by omega)).mp hb
      constructor
      · rintro ⟨h3, i, h4, h5⟩; exact ⟨h3, i, by omega, h5⟩
      · rintro ⟨h3, i, h4, h5⟩
        rcases Nat.lt_or_ge i k with h6 | h6
        · exact ⟨h3, i, h6, h5⟩
        · rw [show i = k by omega] at h5
          exact ⟨h3, i0, h1, h2.trans h5⟩
    · rw [jnS_n (by simpa using hb)]
      show bt ((jnS (clS M n b) n k).1 ||| sprS (clS M n b) n (clS M n b k) n) j = true ↔ _
      rw [bt_or, Bool.or_eq_true, ih j hj, spr_eq hn hL (by omega), bt_stB (by omega) j hj]
      simp only [Bool.and_eq_true, decide_eq_true_eq]
      constructor
      · rintro (⟨h3, i, h4, h5⟩ | ⟨h3, h4⟩)
        · exact ⟨h3, i, by omega, h5⟩
        · exact ⟨h3, k, by omega, h4.symm⟩
      · rintro ⟨h3, i, h4, h5⟩
        rcases Nat.lt_or_ge i k with h6 | h6
        · exact Or.inl ⟨h3, i, h6, h5⟩
        · rw [show i = k by omega] at h5
          exact Or.inr ⟨h3, h5.symm⟩
theorem jn_root {M : Nat → Int64} {n b : Nat} {G : Nat → Nat} (hn : n ≤ 40) (hL : Lab M n b G) {k : Nat} (hk : k < n) : (!bt (jnS (clS M n b) n k).1 k) = decide (G k = k) := by
  have h := jn_bt hn hL k (by omega) k (by omega)
  by_cases e : G k = k
  · rw [decide_eq_true e]
    rcases hb : bt (jnS (clS M n b) n k).1 k with _ | _
    · rfl
    · obtain ⟨-, i, h1, h2⟩ := h.mp hb
      have := (hL.1 i (by omega)).1
      omega
  · rw [decide_eq_false e]
    have h1 := (hL.1 k hk).1
    have hb := h.mpr ⟨hk, G k, by omega, hL.root hk⟩
    rw [hb]; rfl
theorem kf_cong {p q : Nat → Bool} {x : Nat} : ∀ {d b : Nat}, (∀ k, k < b + d → p k = q k) → kf p x d b = kf q x d b
  | 0, _, _ => rfl
  | d + 1, b, h => by
    rw [kf, kf, h b (by omega), ct_cong (p := p) (q := q) (n := b) (fun k hk => h k (by omega)), kf_cong (d := d) (b := b + 1) (fun k hk => h k (by omega))]
theorem roots_eq {M : Nat → Int64} {n b : Nat} {G : Nat → Nat} (hn : n ≤ 40) (hL : Lab M n b G) : (jnS (clS M n b) n n).2 = rootsN G n := by
  rw [← jn_ct]; exact ct_cong (fun k hk => jn_root hn hL hk)
theorem rt_eq {M : Nat → Int64} {n b : Nat} {G : Nat → Nat} (hn : n ≤ 40) (hL : Lab M n b G) (x : Nat) : rtC (clS M n b) n x = rootAt G n x :=
  kf_cong (fun k hk => jn_root hn hL (by omega))
theorem root_ok {G : Nat → Nat} {n x : Nat} (hx : x < rootsN G n) : rootAt G n x < n ∧ G (rootAt G n x) = rootAt G n x := by
  have h := kthP_spec (q := fun k => decide (G k = k)) (n := n) (p := x) hx
  exact ⟨h.1, of_decide_eq_true h.2.1⟩
theorem set_eq {M : Nat → Int64} {n b : Nat} {G : Nat → Nat} (hn : n ≤ 40) (hL : Lab M n b G) {x : Nat} (hx : x < rootsN G n) : setC (clS M n b) n x = stB (fun j => decide (G j = rootAt G n x)) n := by
  unfold setC
  rw [rt_eq hn hL]
  obtain ⟨h1, h2⟩ := root_ok hx
  rw [spr_eq hn hL h1, h2]
theorem first_root {M : Nat → Int64} {n b : Nat} {G : Nat → Nat} (hL : Lab M n b G) {r : Nat} (hr : r < n) (hg : G r = r) : fromB (fun j => decide (G j = r)) n 0 = nI r := by
  rcases fromB_spec (p := fun j => decide (G j = r)) (d := n) (i := 0) with ⟨e, q⟩ | ⟨k, -, h2, h3, h4, e⟩
  · have := q r (Nat.zero_le _) (by omega)
    simp [hg] at this
  · simp only [decide_eq_true_eq] at h3
    have h5 := (hL.1 k (by omega)).1
    rcases Nat.lt_or_ge r k with h6 | h6
    · have := h4 r (Nat.zero_le _) h6
      simp [hg] at this
    · rw [e, show k = r by omega]
theorem wdI_iff {b : Nat → Bool} {f : Nat → Nat → Nat} {j m c : Nat} : ∀ t, wdI b f j m t ≤ c ↔ m ≤ c ∧ ∀ s, s < t → b j = true → b (j + 1 + s) = true → f j (j + 1 + s) ≤ c
  | 0 => by
    show m ≤ c ↔ _
    exact ⟨fun h => ⟨h, fun s hs => by omega⟩, fun h => h.1⟩
  | t + 1 => by
    have ih := wdI_iff (b := b) (f := f) (j := j) (m := m) (c := c) t
    have key : wdI b f j m (t + 1) ≤ c ↔ wdI b f j m t ≤ c ∧ (b j = true → b (j + 1 + t) = true → f j (j + 1 + t) ≤ c) := by
      rw [wdI]
      by_cases h : (b j && b (j + 1 + t)) = true
      · rw [if_pos h]
        simp only [Bool.and_eq_true] at h
        by_cases h2 : wdI b f j m t < f j (j + 1 + t)
        · rw [if_pos (by simpa using h2)]
          exact ⟨fun q => ⟨by omega, fun _ _ => q⟩, fun q => q.2 h.1 h.2⟩
        · rw [if_neg (by simpa using h2)]
          exact ⟨fun q => ⟨q, fun _ _ => by omega⟩, fun q => q.1⟩
      · rw [if_neg h]
        simp only [Bool.and_eq_true] at h
        exact ⟨fun q => ⟨q, fun h1 h2 => absurd ⟨h1, h2⟩ h⟩, fun q => q.1⟩
    rw [key, ih]
    constructor
    · rintro ⟨⟨h1, h2⟩, h3⟩
      refine ⟨h1, fun s hs => ?_⟩
      rcases Nat.lt_or_ge s t with h4 | h4
      · exact h2 s h4
      · rw [show s = t by omega]; exact h3
    · rintro ⟨h1, h2⟩
      exact ⟨⟨h1, fun s hs => h2 s (by omega)⟩, h2 t (by omega)⟩
theorem wdO_iff {b : Nat → Bool} {f : Nat → Nat → Nat} {n c : Nat} : ∀ J, wdO b f n J ≤ c ↔ ∀ j, j < J → ∀ k, j < k → k < n → b j = true → b k = true → f j k ≤ c
  | 0 => ⟨fun _ j hj => by omega, fun _ => Nat.zero_le _⟩
  | J + 1 => by
    have ih := wdO_iff (b := b) (f := f) (n := n) (c := c) J
    rw [wdO, wdI_iff, ih]
    constructor
    · rintro ⟨h1, h2⟩ j hj k hk hkn
      rcases Nat.lt_or_ge j J with h3 | h3
      · exact h1 j h3 k hk hkn
      · have e : j = J := by omega
        subst e
        have := h2 (k - (j + 1)) (by omega)
        rw [show j + 1 + (k - (j + 1)) = k by omega] at this
        exact this
    · intro h
      exact ⟨fun j hj => h j (by omega), fun s hs => h J (by omega) (J + 1 + s) (by omega) (by omega)⟩
theorem mxI_iff {h : Nat → Nat} {m c : Nat} : ∀ k, mxI h m k ≤ c ↔ m ≤ c ∧ ∀ i, i < k → h i ≤ c
  | 0 => ⟨fun q => ⟨q, fun i hi => by omega⟩, fun q => q.1⟩
  | k + 1 => by
    have ih := mxI_iff (h := h) (m := m) (c := c) k
    have key : mxI h m (k + 1) ≤ c ↔ mxI h m k ≤ c ∧ h k ≤ c := by
      rw [mxI]
      by_cases q : h k ≤ mxI h m k
      · rw [if_pos (by simpa using q)]; omega
      · rw [if_neg (by simpa using q)]; omega
    rw [key, ih]
    constructor
    · rintro ⟨⟨h1, h2⟩, h3⟩
      refine ⟨h1, fun i hi => ?_⟩
      rcases Nat.lt_or_ge i k with h4 | h4
      · exact h2 i h4
      · rw [show i = k by omega]; exact h3
    · rintro ⟨h1, h2⟩
      exact ⟨⟨h1, fun i hi => h2 i (by omega)⟩, h2 k (by omega)⟩
theorem mxO_iff {f : Nat → Nat → Nat} {c : Nat} : ∀ n, mxO f n ≤ c ↔ ∀ j, j < n → ∀ k, k < j → f j k ≤ c
  | 0 => ⟨fun _ j hj => by omega, fun _ => Nat.zero_le _⟩
  | n + 1 => by
    rw [mxO, mxI_iff, mxO_iff n]
    constructor
    · rintro ⟨h1, h2⟩ j hj k hk
      rcases Nat.lt_or_ge j n with h3 | h3
      · exact h1 j h3 k hk
      · rw [show j = n by omega] at hk ⊢; exact h2 k hk
    · intro h
      exact ⟨fun j hj => h j (by omega), fun k hk => h n (by omega) k hk⟩
theorem wide_eq {M : Nat → Int64} {n r : Nat} {G : Nat → Nat} (hn : n ≤ 40) : wdO (bt (stB (fun j => decide (G j = r)) n)) (fun p q => ds (M p) (M q)) n n = mxO (fun a c => if (!decide (G a = r) || !decide (G c = r)) then 0 else ds (M a) (M c)) n := by
  have hb : ∀ k, k < n → (bt (stB (fun j => decide (G j = r)) n) k = true ↔ G k = r) := by
    intro k hk
    rw [bt_stB (by omega) k (by omega)]; simp [hk]
  apply Nat.le_antisymm
  · rw [wdO_iff]
    intro j hj k hk hkn h1 h2
    rw [hb j hj] at h1
    rw [hb k hkn] at h2
    have := (mxO_iff (f := fun a c => if (!decide (G a = r) || !decide (G c = r)) then 0 else ds (M a) (M c)) n).mp (Nat.le_refl _) k hkn j hk
    simp only [h1, h2, decide_true, Bool.not_true, Bool.or_self, Bool.false_eq_true, if_false] at this
    rw [ds_comm]; exact this
  · rw [mxO_iff]
    intro j hj k hk
    show (if (!decide (G j = r) || !decide (G k = r)) then 0 else ds (M j) (M k)) ≤ _
    by_cases h1 : G j = r
    · by_cases h2 : G k = r
      · rw [if_neg (by simp [h1, h2]), ds_comm]
        exact (wdO_iff (f := fun p q => ds (M p) (M q)) n).mp (Nat.le_refl _) k (by omega) j hk hj ((hb k (by omega)).mpr h2) ((hb j hj).mpr h1)
      · rw [if_pos (by simp [h2])]; exact Nat.zero_le _
    · rw [if_pos (by simp [h1])]; exact Nat.zero_le _
