/-- the same cell in other words -/
def eqv (e e' : va_E) : Prop := ∀ (D : va_G) (a : Nat) (H : Heap), va_at D vcl (a, e) H → va_at D vcl (a, e') H
theorem eqv.of {e e' : va_E} (h : e = e') : eqv e e' := fun _ _ _ q => h ▸ q
theorem arrV_cong {c : ClassId} {N : Nat} {f g : Nat → Value} (h : ∀ j, j < N → f j = g j) : arrV c N f = arrV c N g := by
  unfold arrV
  rw [show (fun j : Fin N => f j.val) = (fun j : Fin N => g j.val) from funext (fun j => h j.val j.isLt)]
theorem eqv.st {o : OM} {m : Nat} {f g : Nat → Option Nat} (h : ∀ j, j < m → f j = g j) : eqv (aSt o m f) (aSt o m g) := by
  intro D a H q
  have e : vp_cell (o.2.2 4) (m, .inr (.inr (.inr (.inr f)))) = vp_cell (o.2.2 4) (m, .inr (.inr (.inr (.inr g)))) := by
    rw [vp_cell_q, vp_cell_q]; exact arrV_cong (fun j hj => by rw [h j hj])
  show H[a]? = some (vp_cell _ _)
  have q : H[a]? = some (vp_cell (o.2.2 4) (m, .inr (.inr (.inr (.inr f))))) := q
  rw [q, e]
theorem eqv.im {o : OM} {m : Nat} {f g : Nat → Option Nat} (h : ∀ j, j < m → f j = g j) : eqv (aIm o m f) (aIm o m g) := by
  intro D a H q
  have e : vp_cell (o.2.2 3) (m, .inr (.inr (.inr (.inr f)))) = vp_cell (o.2.2 3) (m, .inr (.inr (.inr (.inr g)))) := by
    rw [vp_cell_q, vp_cell_q]; exact arrV_cong (fun j hj => by rw [h j hj])
  show H[a]? = some (vp_cell _ _)
  have q : H[a]? = some (vp_cell (o.2.2 3) (m, .inr (.inr (.inr (.inr f))))) := q
  rw [q, e]
theorem wsE_eqv {o : OM} {k : Nat} {E E2 : Nat → va_E} {D : va_G} {H : Heap} (h : ∀ i, i < k → eqv (E i) (E2 i)) (hP : va_P D vcl (wsE o k E) H) : va_P D vcl (wsE o k E2) H := by
  intro i q hq
  obtain ⟨hi, rfl⟩ := wsE_inv hq
  exact h i hi _ _ _ (hP i _ (wsE_at o E hi))
def QofX (o : OM) (k : Nat) (PE : MI → ML → Prop) : Array Value → State → Outcome → State → Prop := fun _ st oc t => (oc = .returned none ∧ ∃ (m : MI) (z : ML), PE m z ∧ va_P o.2.1 vcl (wsE o k (eM o m z)) t.heap ∧ t.heap.size = o.1 + k) ∧ va_F (isN o) st t
def ConX (l : Launch) (y : MethodName) (cc : ByteArray) (n fr lo mc ms : Nat) (o : OM) (a k : Nat) (E : Nat → va_E) (k2 : Nat) (PE : MI → ML → Prop) : Prop :=
  Met l y (wsY y cc n none) { frames := fr, cells := mc, slots := ms, locals := lo } (PofE o [.ref (ads o a)] k E) (QofX o k2 PE) mc ms (isN o)
theorem ConX.mk {l : Launch} {y : MethodName} {cc : ByteArray} {n fr lo mc ms : Nat} {o : OM} {a k : Nat} {E : Nat → va_E} {k2 : Nat} {PE : MI → ML → Prop} (hy : plainName y.cls = true) (hyn : y.name = "<init>") (hlen : 1 ≤ n)
    (h : ∀ γ : GT, CxE γ l o y.cls cc n fr lo mc ms k → γ.me.sig.returnType = none → γ.me.name = "<init>" → γ.Q = MQ γ.b (QofX o k2 PE) γ.a γ.s mc ms (isN o) → VE γ o n k E 0 0 0 [(0, .ref (ads o a))] []) : ConX l y cc n fr lo mc ms o a k E k2 PE := by
  refine Met.ofW (cc := cc) (maxL := n) (ret := none) hy rfl ?_
  intro p e s m args below meth c s₁ B hml hv
  obtain ⟨rfl, hP, hz, hK, hA⟩ := hv
  have hts := atoms_spec (ws := wsY y cc n none) B.pre
  rw [lg_entry_eq]
  exact h (p, l, e, _, s, m, _, below, meth, c, _) ⟨B.exec, B.bytes, hml, findClass_of_methodNamed B.named, fun w hw => hts w (List.mem_cons_of_mem _ hw), hK, hA, B.notSynchronized, rfl, rfl, rfl, rfl, rfl, hz⟩ B.returns ((name_of_methodNamed B.named B.method).1.trans hyn) rfl s.heap [] _ hP va_S.rf (lv_entry [.ref (ads o a)] hlen)
section ROWSX
variable {γ : GT} {l : Launch} {o : OM} {own : String} {cc : ByteArray} {n : Nat} {fr lo rc rs b0 : Nat}
variable {kk0 : Nat} {EE : Nat → va_E} {c0 s0 : Nat} {pc : Nat} {lv : List (Nat × Value)} {st rest : List Value}
theorem VE.eq2 {EE2 : Nat → va_E} (k : VE γ o n kk0 EE2 c0 s0 pc lv st) (h1 : ∀ i, i < kk0 → eqv (EE i) (EE2 i)) : VE γ o n kk0 EE c0 s0 pc lv st :=
  fun H locs ls a1 a2 a3 => k H locs ls (wsE_eqv h1 a1) a2 a3
theorem VE.runX {k2 : Nat} {PE : MI → ML → Prop} {a : Array Value} {mc ms : Nat} (hr : ∀ (H : Heap) (locs : List Loc) (ls : Array Slot), va_P o.2.1 vcl (wsE o kk0 EE) H → H.size ≤ γ.s.heap.size + c0 → va_S (isN o) γ.s.heap H locs → lv_has ls n lv → va_Run γ.p γ.l γ.e γ.R γ.s γ.m γ.a γ.b γ.me γ.c H locs c0 s0 mc ms (F0 γ.m pc ls st) rest (QofX o k2 PE a) (isN o))
    (kk : ∀ (m : MI) (z : ML), PE m z → VE γ o n k2 (eM o m z) (c0 + mc) (s0 + ms) (pc + 3) lv rest) : VE γ o n kk0 EE c0 s0 pc lv st := by
  intro H locs ls h1 h2 h3
  refine sz_W (fun hz0 => ?_)
  intro T hT Z
  obtain ⟨v, st₀, t, T', L, h0, Z', hL, e1, e2, ⟨⟨hv, m, z, hp, hw, hzz⟩, hz, hk⟩, sg⟩ := hr H locs ls h1 hz0 h2 h3 T hT Z
  cases hv
  rw [h0] at hz hk
  obtain ⟨t2, a1, b1⟩ := kk m z hp T'.heap (locs ++ L) ls (by rw [e1]; exact hw)
    ⟨Nat.le_trans h2.1 (by rw [e1]; exact hz), fun q g1 g2 => by rw [e1, hk q (Nat.lt_of_lt_of_le g1 h2.1) g2]; exact h2.2.1 q g1 g2, fun q hq => by
      rcases List.mem_append.mp hq with h | h
      · exact h2.2.2 q h
      · exact hL q h⟩ h3 T' rfl Z'
  exact ⟨t2, sg t2 a1, b1⟩
theorem v_callX (X : CxE γ l o own cc n fr lo rc rs b0) {y : MethodName} {cc' : ByteArray} {n' fr' lo' mc ms i ix k2 : Nat} {PE : MI → ML → Prop} (hC : ConX l y cc' n' fr' lo' mc ms o i kk0 EE k2 PE) (Y : IOK y cc' n') (w : Cond.methodLink own ix y ∈ gtbl) (hk : kk0 = b0 + c0) (hR : fr' + 1 ≤ fr ∧ 8 + (n' + 11) + lo' ≤ lo) (hW : (rest.map fun v => v.category).sum ≤ 8) (hc : c0 + mc ≤ rc) (hs : s0 + ms ≤ rs) (d : decode cc pc = .ok (.invokespecial ix, 3))
    (kk : ∀ (m : MI) (z : ML), PE m z → VE γ o n k2 (eM o m z) (c0 + mc) (s0 + ms) (pc + 3) lv rest) : VE γ o n kk0 EE c0 s0 pc lv (.ref (ads o i) :: rest) := by
  obtain ⟨x1, x2, x3, x4, x5, x6, x7, x8, x9, x10, x11, x12, x13, x14⟩ := X
  subst x9; subst x10; subst x11; subst x12; subst x13
  obtain ⟨y1, y2, y3, y4, y5⟩ := Y
  refine VE.runX (fun H locs ls h1 hz h2 h3 => va_runI (As := []) (g := F0 γ.m pc ls _) ⟨x1, x2, x3, x4, x5⟩ hC (cwI 0 x5 (wsY_good y3) rfl rfl rfl (x5 _ y2) (x5 _ w) (x5 _ y1) y4 y5 hR) ⟨PofE.blind, fun U hU hWu => ⟨rfl, by rw [hU]; exact h1, by rw [hU]; exact wsE_sz h1 h2 x14 hk hz, x6.warm hWu, x7.warm hWu⟩⟩ rfl rfl h3.1 rfl (lv_room hW) d ⟨hc, hs⟩) kk
theorem v_endX (X : CxE γ l o own cc n fr lo rc rs b0) (hr : γ.me.sig.returnType = none) {PE : MI → ML → Prop} {k2 mc ms : Nat} {m : MI} {z : ML} (hp : PE m z) (hQ : γ.Q = MQ γ.b (QofX o k2 PE) γ.a γ.s mc ms (isN o)) (hk : kk0 = b0 + c0) (e1 : kk0 = k2) (e2 : c0 = mc) (e3 : s0 = ms) (hE : ∀ i, i < kk0 → eqv (EE i) (eM o m z i)) (d : decode cc pc = .ok (.return_, 1)) : VE γ o n kk0 EE c0 s0 pc lv [] := by
  intro H locs ls h1 h2 h3
  subst e1; subst e2; subst e3
  obtain ⟨x1, x2, x3, x4, x5, x6, x7, x8, x9, x10, x11, x12, x13, x14⟩ := X
  rw [hQ]
  refine sz_W (fun hz => ?_)
  have hz := wsE_sz h1 h2 x14 hk hz
  exact W.vret (Qc := QofX o kk0 PE) x1 x2 hr (fun t ht _ => ⟨⟨rfl, m, z, hp, by rw [ht]; exact wsE_eqv hE h1, by rw [ht]; exact hz⟩, h2.F ht⟩) h2.2.2 d x8
end ROWSX
def iniP (m : MI) (z : ML) : Prop := PtOK m z 75 281479271743489 ∧ (∀ t, t ≠ 75 → t ≠ 76 → m t = mi0 t) ∧ ∀ t, t ≠ 77 → z t = ml0 t
set_option maxHeartbeats 4000000 in
set_option maxRecDepth 100000 in
theorem m_Nm_init (l : Launch) (o : OM) (E : Nat → va_E) (hE : E 0 = .inr (9, [.null, .null, .null, .null, .null, .null, .null, .null, .null, .null])) : ConX l y_Nm_init c_Nm_init 2 3 61 94 2319 o 0 1 E 95 iniP := by
  refine ConX.mk (by decide) rfl (Nat.le_of_ble_eq_true rfl) (fun γ X hr hin hQ => ?_)
  refine v_aload_n X 0 d_Nm_init_0 rfl rfl ?_
  refine v_obj X wo_Nm (Nat.le_of_ble_eq_true rfl) (Nat.le_of_ble_eq_true rfl) (Nat.le_of_ble_eq_true rfl) d_Nm_init_1 ?_
  refine v_aload_n X 0 d_Nm_init_4 rfl rfl ?_
  refine v_new X (ci := 8) (N := 5) (C := CR8) (T := CT8) (ty := CY8) (fs := [.long 0, .long 0, .int 0, .null, .null]) rfl CI8 CYok8 (by decide) cl_Nm_7 in_St ii_St rfl (Nat.le_of_ble_eq_true rfl) (Nat.le_of_ble_eq_true rfl) d_Nm_init_5 ?_
  refine v_dup X d_Nm_init_8 rfl ?_
  refine v_callI X (m_St_init l o 1 2 (uf E 1 (.inr (8, [.long 0, .long 0, .int 0, .null, .null]))) (by decide) (by rw [uf_s])) ok_St_init w_Nm_9 rfl ⟨Nat.le_of_ble_eq_true rfl, Nat.le_of_ble_eq_true rfl⟩ (Nat.le_of_ble_eq_true rfl) (Nat.le_of_ble_eq_true rfl) (Nat.le_of_ble_eq_true rfl) d_Nm_init_9 ?_
  refine v_putF X hin (fs := [.null, .null, .null, .null, .null, .null, .null, .null, .null, .null]) ff_Nm_10 (by decide) (by rw [eSt_init_n (by decide) (by decide)] <;> exact (by rw [uf_n _ _ (by decide)]; exact hE)) (Nat.le_of_ble_eq_true rfl) d_Nm_init_12 ?_
  show VE γ o 2 (4) (uf (eSt_init o (uf E 1 (.inr (8, [.long 0, .long 0, .int 0, .null, .null]))) 1 2) 0 (.inr (9, [.ref (ads o (1)), .null, .null, .null, .null, .null, .null, .null, .null, .null]))) 3 85 15 [(0, .ref (ads o (0)))] []
  refine v_aload_n X 0 d_Nm_init_15 rfl rfl ?_
  refine v_new X (ci := 6) (N := 3) (C := CR6) (T := CT6) (ty := CY6) (fs := [.null, .int 0, .int 0]) rfl CI6 CYok6 (by decide) cl_Nm_16 in_Pa ii_Pa rfl (Nat.le_of_ble_eq_true rfl) (Nat.le_of_ble_eq_true rfl) d_Nm_init_16 ?_
  refine v_dup X d_Nm_init_19 rfl ?_
  refine v_callI X (m_Pa_init l o (uf (uf (eSt_init o (uf E 1 (.inr (8, [.long 0, .long 0, .int 0, .null, .null]))) 1 2) 0 (.inr (9, [.ref (ads o (1)), .null, .null, .null, .null, .null, .null, .null, .null, .null]))) 4 (.inr (6, [.null, .int 0, .int 0]))) (by rw [uf_s])) ok_Pa_init w_Nm_18 rfl ⟨Nat.le_of_ble_eq_true rfl, Nat.le_of_ble_eq_true rfl⟩ (Nat.le_of_ble_eq_true rfl) (Nat.le_of_ble_eq_true rfl) (Nat.le_of_ble_eq_true rfl) d_Nm_init_20 ?_
  refine v_putF X hin (fs := [.ref (ads o (1)), .null, .null, .null, .null, .null, .null, .null, .null, .null]) ff_Nm_19 (by decide) (by rw [gE_lo (by decide) (by decide)] <;> exact (by rw [uf_n _ _ (by decide), uf_s])) (Nat.le_of_ble_eq_true rfl) d_Nm_init_23 ?_
  show VE γ o 2 (66) (uf (gE o (uf (uf (eSt_init o (uf E 1 (.inr (8, [.long 0, .long 0, .int 0, .null, .null]))) 1 2) 0 (.inr (9, [.ref (ads o (1)), .null, .null, .null, .null, .null, .null, .null, .null, .null]))) 4 (.inr (6, [.null, .int 0, .int 0]))) 20) 0 (.inr (9, [.ref (ads o (1)), .ref (ads o (4)), .null, .null, .null, .null, .null, .null, .null, .null]))) 65 1808 26 [(0, .ref (ads o (0)))] []
  refine v_aload_n X 0 d_Nm_init_26 rfl rfl ?_
  refine v_iconst X (v := nI (2)) d_Nm_init_27 (by decide) ?_
  refine v_anewI X (m := 2) cl_Nm_23 rfl (Nat.le_of_ble_eq_true rfl) (Nat.le_of_ble_eq_true rfl) (Nat.le_of_ble_eq_true rfl) d_Nm_init_28 ?_
  refine v_putF X hin (fs := [.ref (ads o (1)), .ref (ads o (4)), .null, .null, .null, .null, .null, .null, .null, .null]) ff_Nm_25 (by decide) (by rw [uf_n _ _ (by decide), uf_s]) (Nat.le_of_ble_eq_true rfl) d_Nm_init_31 ?_
  show VE γ o 2 (67) (uf (uf (uf (gE o (uf (uf (eSt_init o (uf E 1 (.inr (8, [.long 0, .long 0, .int 0, .null, .null]))) 1 2) 0 (.inr (9, [.ref (ads o (1)), .null, .null, .null, .null, .null, .null, .null, .null, .null]))) 4 (.inr (6, [.null, .int 0, .int 0]))) 20) 0 (.inr (9, [.ref (ads o (1)), .ref (ads o (4)), .null, .null, .null, .null, .null, .null, .null, .null]))) 66 (aIm o 2 (fun _ => none))) 0 (.inr (9, [.ref (ads o (1)), .ref (ads o (4)), .ref (ads o (66)), .null, .null, .null, .null, .null, .null, .null]))) 66 1810 34 [(0, .ref (ads o (0)))] []
  refine v_iconst X (v := nI (0)) d_Nm_init_34 (by decide) ?_
  refine v_istore_n X [(1, .int (nI (0))), (0, .ref (ads o (0)))] d_Nm_init_35 rfl (Nat.le_of_ble_eq_true rfl) rfl ?_
  refine v_iload_n X 0 d_Nm_init_36 rfl rfl ?_
  refine v_iconst X (v := nI (2)) d_Nm_init_37 (by decide) ?_
  refine v_icge X (tgt := 60) (c := 2 ≤ 0) d_Nm_init_38 (by decide) (nI_leI (by decide) (by decide)) (fun h => absurd h (by decide)) (fun h => ?_)
  refine v_aload_n X 1 d_Nm_init_41 rfl rfl ?_
  refine v_get X (fs := [.ref (ads o (1)), .ref (ads o (4)), .ref (ads o (66)), .null, .null, .null, .null, .null, .null, .null]) (v := .ref (ads o (66))) f_Nm_25 (by decide) (by rw [uf_s]) rfl d_Nm_init_42 ?_
  refine v_iload_n X 0 d_Nm_init_45 rfl rfl ?_
  refine v_new X (ci := 4) (N := 3) (C := CR4) (T := CT4) (ty := CY4) (fs := [.null, .int 0, .int 0]) rfl CI4 CYok4 (by decide) cl_Nm_23 in_Im ii_Im rfl (Nat.le_of_ble_eq_true rfl) (Nat.le_of_ble_eq_true rfl) d_Nm_init_46 ?_
  refine v_dup X d_Nm_init_49 rfl ?_
  refine v_callI X (m_Im_init l o 67 68 (uf (uf (uf (uf (gE o (uf (uf (eSt_init o (uf E 1 (.inr (8, [.long 0, .long 0, .int 0, .null, .null]))) 1 2) 0 (.inr (9, [.ref (ads o (1)), .null, .null, .null, .null, .null, .null, .null, .null, .null]))) 4 (.inr (6, [.null, .int 0, .int 0]))) 20) 0 (.inr (9, [.ref (ads o (1)), .ref (ads o (4)), .null, .null, .null, .null, .null, .null, .null, .null]))) 66 (aIm o 2 (fun _ => none))) 0 (.inr (9, [.ref (ads o (1)), .ref (ads o (4)), .ref (ads o (66)), .null, .null, .null, .null, .null, .null, .null]))) 67 (.inr (4, [.null, .int 0, .int 0]))) (by decide) (by rw [uf_s])) ok_Im_init w_Nm_29 rfl ⟨Nat.le_of_ble_eq_true rfl, Nat.le_of_ble_eq_true rfl⟩ (Nat.le_of_ble_eq_true rfl) (Nat.le_of_ble_eq_true rfl) (Nat.le_of_ble_eq_true rfl) d_Nm_init_50 ?_
  refine v_aastI X (i := 66) (j := 67) (m := 2) (q := 0) (F := (fun _ => none)) (fs := [.ref (ads o (68)), .int 0, .int 0]) (by decide) (by decide) (by rw [eIm_init_n (by decide) (by decide)] <;> exact (by rw [uf_n _ _ (by decide), uf_n _ _ (by decide), uf_s])) eIm_init_a (Nat.le_of_ble_eq_true rfl) (Nat.le_of_ble_eq_true rfl) d_Nm_init_53 ?_
  refine v_iinc X 0 (v := nI (1)) [(1, .int (nI (1))), (0, .ref (ads o (0)))] d_Nm_init_54 rfl (nI_add _ 1) (Nat.le_of_ble_eq_true rfl) rfl ?_
  refine v_goto X (tgt := 36) d_Nm_init_57 (by decide) ?_
  show VE γ o 2 71 (uf (eIm_init o (uf (uf (uf (uf (gE o (uf (uf (eSt_init o (uf E 1 (.inr (8, [.long 0, .long 0, .int 0, .null, .null]))) 1 2) 0 (.inr (9, [.ref (ads o (1)), .null, .null, .null, .null, .null, .null, .null, .null, .null]))) 4 (.inr (6, [.null, .int 0, .int 0]))) 20) 0 (.inr (9, [.ref (ads o (1)), .ref (ads o (4)), .null, .null, .null, .null, .null, .null, .null, .null]))) 66 (aIm o 2 (fun _ => none))) 0 (.inr (9, [.ref (ads o (1)), .ref (ads o (4)), .ref (ads o (66)), .null, .null, .null, .null, .null, .null, .null]))) 67 (.inr (4, [.null, .int 0, .int 0]))) 67 68) 66 (aIm o 2 (va_up (fun _ => none) 0 (some (ads o 67))))) 70 1898 36 [(1, .int (nI (1))), (0, .ref (ads o (0)))] []
  refine v_iload_n X 0 d_Nm_init_36 rfl rfl ?_
  refine v_iconst X (v := nI (2)) d_Nm_init_37 (by decide) ?_
  refine v_icge X (tgt := 60) (c := 2 ≤ 1) d_Nm_init_38 (by decide) (nI_leI (by decide) (by decide)) (fun h => absurd h (by decide)) (fun h => ?_)
  refine v_aload_n X 1 d_Nm_init_41 rfl rfl ?_
  refine v_get X (fs := [.ref (ads o (1)), .ref (ads o (4)), .ref (ads o (66)), .null, .null, .null, .null, .null, .null, .null]) (v := .ref (ads o (66))) f_Nm_25 (by decide) (by rw [uf_n _ _ (by decide)]; exact (by rw [eIm_init_n (by decide) (by decide)] <;> exact (by rw [uf_n _ _ (by decide), uf_s]))) rfl d_Nm_init_42 ?_
  refine v_iload_n X 0 d_Nm_init_45 rfl rfl ?_
  refine v_new X (ci := 4) (N := 3) (C := CR4) (T := CT4) (ty := CY4) (fs := [.null, .int 0, .int 0]) rfl CI4 CYok4 (by decide) cl_Nm_23 in_Im ii_Im rfl (Nat.le_of_ble_eq_true rfl) (Nat.le_of_ble_eq_true rfl) d_Nm_init_46 ?_
  refine v_dup X d_Nm_init_49 rfl ?_
  refine v_callI X (m_Im_init l o 71 72 (uf (uf (eIm_init o (uf (uf (uf (uf (gE o (uf (uf (eSt_init o (uf E 1 (.inr (8, [.long 0, .long 0, .int 0, .null, .null]))) 1 2) 0 (.inr (9, [.ref (ads o (1)), .null, .null, .null, .null, .null, .null, .null, .null, .null]))) 4 (.inr (6, [.null, .int 0, .int 0]))) 20) 0 (.inr (9, [.ref (ads o (1)), .ref (ads o (4)), .null, .null, .null, .null, .null, .null, .null, .null]))) 66 (aIm o 2 (fun _ => none))) 0 (.inr (9, [.ref (ads o (1)), .ref (ads o (4)), .ref (ads o (66)), .null, .null, .null, .null, .null, .null, .null]))) 67 (.inr (4, [.null, .int 0, .int 0]))) 67 68) 66 (aIm o 2 (va_up (fun _ => none) 0 (some (ads o 67))))) 71 (.inr (4, [.null, .int 0, .int 0]))) (by decide) (by rw [uf_s])) ok_Im_init w_Nm_29 rfl ⟨Nat.le_of_ble_eq_true rfl, Nat.le_of_ble_eq_true rfl⟩ (Nat.le_of_ble_eq_true rfl) (Nat.le_of_ble_eq_true rfl) (Nat.le_of_ble_eq_true rfl) d_Nm_init_50 ?_
  refine v_aastI X (i := 66) (j := 71) (m := 2) (q := 1) (F := (va_up (fun _ => none) 0 (some (ads o 67)))) (fs := [.ref (ads o (72)), .int 0, .int 0]) (by decide) (by decide) (by rw [eIm_init_n (by decide) (by decide)] <;> exact (by rw [uf_n _ _ (by decide), uf_s])) eIm_init_a (Nat.le_of_ble_eq_true rfl) (Nat.le_of_ble_eq_true rfl) d_Nm_init_53 ?_
  refine v_iinc X 0 (v := nI (2)) [(1, .int (nI (2))), (0, .ref (ads o (0)))] d_Nm_init_54 rfl (nI_add _ 1) (Nat.le_of_ble_eq_true rfl) rfl ?_
  refine v_goto X (tgt := 36) d_Nm_init_57 (by decide) ?_
  show VE γ o 2 75 (uf (eIm_init o (uf (uf (eIm_init o (uf (uf (uf (uf (gE o (uf (uf (eSt_init o (uf E 1 (.inr (8, [.long 0, .long 0, .int 0, .null, .null]))) 1 2) 0 (.inr (9, [.ref (ads o (1)), .null, .null, .null, .null, .null, .null, .null, .null, .null]))) 4 (.inr (6, [.null, .int 0, .int 0]))) 20) 0 (.inr (9, [.ref (ads o (1)), .ref (ads o (4)), .null, .null, .null, .null, .null, .null, .null, .null]))) 66 (aIm o 2 (fun _ => none))) 0 (.inr (9, [.ref (ads o (1)), .ref (ads o (4)), .ref (ads o (66)), .null, .null, .null, .null, .null, .null, .null]))) 67 (.inr (4, [.null, .int 0, .int 0]))) 67 68) 66 (aIm o 2 (va_up (fun _ => none) 0 (some (ads o 67))))) 71 (.inr (4, [.null, .int 0, .int 0]))) 71 72) 66 (aIm o 2 (va_up (va_up (fun _ => none) 0 (some (ads o 67))) 1 (some (ads o 71))))) 74 1986 36 [(1, .int (nI (2))), (0, .ref (ads o (0)))] []
  refine v_iload_n X 0 d_Nm_init_36 rfl rfl ?_
  refine v_iconst X (v := nI (2)) d_Nm_init_37 (by decide) ?_
  refine v_icge X (tgt := 60) (c := 2 ≤ 2) d_Nm_init_38 (by decide) (nI_leI (by decide) (by decide)) (fun h => ?_) (fun h => absurd (Nat.le_refl _) h)
  refine v_aload_n X 1 d_Nm_init_60 rfl rfl ?_
  refine v_new X (ci := 5) (N := 3) (C := CR5) (T := CT5) (ty := CY5) (fs := [.null, .null, .int 0]) rfl CI5 CYok5 (by decide) cl_Nm_30 in_Pt ii_Pt rfl (Nat.le_of_ble_eq_true rfl) (Nat.le_of_ble_eq_true rfl) d_Nm_init_61 ?_
  refine v_dup X d_Nm_init_64 rfl ?_
  refine v_callI X (m_Pt_init l o 75 76 (uf (uf (eIm_init o (uf (uf (eIm_init o (uf (uf (uf (uf (gE o (uf (uf (eSt_init o (uf E 1 (.inr (8, [.long 0, .long 0, .int 0, .null, .null]))) 1 2) 0 (.inr (9, [.ref (ads o (1)), .null, .null, .null, .null, .null, .null, .null, .null, .null]))) 4 (.inr (6, [.null, .int 0, .int 0]))) 20) 0 (.inr (9, [.ref (ads o (1)), .ref (ads o (4)), .null, .null, .null, .null, .null, .null, .null, .null]))) 66 (aIm o 2 (fun _ => none))) 0 (.inr (9, [.ref (ads o (1)), .ref (ads o (4)), .ref (ads o (66)), .null, .null, .null, .null, .null, .null, .null]))) 67 (.inr (4, [.null, .int 0, .int 0]))) 67 68) 66 (aIm o 2 (va_up (fun _ => none) 0 (some (ads o 67))))) 71 (.inr (4, [.null, .int 0, .int 0]))) 71 72) 66 (aIm o 2 (va_up (va_up (fun _ => none) 0 (some (ads o 67))) 1 (some (ads o 71))))) 75 (.inr (5, [.null, .null, .int 0]))) (by decide) (by rw [uf_s])) ok_Pt_init w_Nm_32 rfl ⟨Nat.le_of_ble_eq_true rfl, Nat.le_of_ble_eq_true rfl⟩ (Nat.le_of_ble_eq_true rfl) (Nat.le_of_ble_eq_true rfl) (Nat.le_of_ble_eq_true rfl) d_Nm_init_65 ?_
  refine v_putF X hin (fs := [.ref (ads o (1)), .ref (ads o (4)), .ref (ads o (66)), .null, .null, .null, .null, .null, .null, .null]) ff_Nm_33 (by decide) (by rw [ePt_init_n (by decide) (by decide)] <;> exact (by rw [uf_n _ _ (by decide), uf_n _ _ (by decide)]; exact (by rw [eIm_init_n (by decide) (by decide)] <;> exact (by rw [uf_n _ _ (by decide), uf_n _ _ (by decide)]; exact (by rw [eIm_init_n (by decide) (by decide)] <;> exact (by rw [uf_n _ _ (by decide), uf_s])))))) (Nat.le_of_ble_eq_true rfl) d_Nm_init_68 ?_
  show VE γ o 2 (78) (uf (ePt_init o (uf (uf (eIm_init o (uf (uf (eIm_init o (uf (uf (uf (uf (gE o (uf (uf (eSt_init o (uf E 1 (.inr (8, [.long 0, .long 0, .int 0, .null, .null]))) 1 2) 0 (.inr (9, [.ref (ads o (1)), .null, .null, .null, .null, .null, .null, .null, .null, .null]))) 4 (.inr (6, [.null, .int 0, .int 0]))) 20) 0 (.inr (9, [.ref (ads o (1)), .ref (ads o (4)), .null, .null, .null, .null, .null, .null, .null, .null]))) 66 (aIm o 2 (fun _ => none))) 0 (.inr (9, [.ref (ads o (1)), .ref (ads o (4)), .ref (ads o (66)), .null, .null, .null, .null, .null, .null, .null]))) 67 (.inr (4, [.null, .int 0, .int 0]))) 67 68) 66 (aIm o 2 (va_up (fun _ => none) 0 (some (ads o 67))))) 71 (.inr (4, [.null, .int 0, .int 0]))) 71 72) 66 (aIm o 2 (va_up (va_up (fun _ => none) 0 (some (ads o 67))) 1 (some (ads o 71))))) 75 (.inr (5, [.null, .null, .int 0]))) 75 76) 0 (.inr (9, [.ref (ads o (1)), .ref (ads o (4)), .ref (ads o (66)), .ref (ads o (75)), .null, .null, .null, .null, .null, .null]))) 77 2005 71 [(1, .int (nI (2))), (0, .ref (ads o (0)))] []
  refine v_aload_n X 1 d_Nm_init_71 rfl rfl ?_
  refine v_get X (fs := [.ref (ads o (1)), .ref (ads o (4)), .ref (ads o (66)), .ref (ads o (75)), .null, .null, .null, .null, .null, .null]) (v := .ref (ads o (75))) f_Nm_33 (by decide) (by rw [uf_s]) rfl d_Nm_init_72 ?_
  refine v_aload_n X 1 d_Nm_init_75 rfl rfl ?_
  refine v_get X (fs := [.ref (ads o (1)), .ref (ads o (4)), .ref (ads o (66)), .ref (ads o (75)), .null, .null, .null, .null, .null, .null]) (v := .ref (ads o (1))) f_Nm_10 (by decide) (by rw [uf_s]) rfl d_Nm_init_76 ?_
  refine v_get X (fs := [.long 0, .long (281479271743489), .int 0, .ref (ads o (2)), .ref (ads o (3))]) (v := .long (281479271743489)) f_Nm_37 (by decide) (by rw [uf_n _ _ (by decide)]; exact (by rw [ePt_init_n (by decide) (by decide)] <;> exact (by rw [uf_n _ _ (by decide), uf_n _ _ (by decide)]; exact (by rw [eIm_init_n (by decide) (by decide)] <;> exact (by rw [uf_n _ _ (by decide), uf_n _ _ (by decide)]; exact (by rw [eIm_init_n (by decide) (by decide)] <;> exact (by rw [uf_n _ _ (by decide), uf_n _ _ (by decide), uf_n _ _ (by decide), uf_n _ _ (by decide)]; exact (by rw [gE_lo (by decide) (by decide)] <;> exact (by rw [uf_n _ _ (by decide), uf_n _ _ (by decide)]; exact eSt_init_a))))))))) rfl d_Nm_init_79 ?_
  refine VE.eq2 (EE2 := eK o mi0 ml0) ?_ (fun i hi => ?_)
  case refine_2 =>
    rcases (show i = 0 ∨ i = 1 ∨ i = 2 ∨ i = 3 ∨ i = 4 ∨ i = 5 ∨ (6 ≤ i ∧ i < 66) ∨ i = 66 ∨ i = 67 ∨ i = 68 ∨ i = 69 ∨ i = 70 ∨ i = 71 ∨ i = 72 ∨ i = 73 ∨ i = 74 ∨ i = 75 ∨ i = 76 ∨ i = 77 by omega) with rfl | rfl | rfl | rfl | rfl | rfl | hi6 | rfl | rfl | rfl | rfl | rfl | rfl | rfl | rfl | rfl | rfl | rfl | rfl
    · exact eqv.of rfl
    · exact eqv.of rfl
    · exact eqv.of rfl
    · exact eqv.of rfl
    · exact eqv.of rfl
    · exact eqv.st (f := gF o 20) (fun j hj => by unfold gF; rw [if_pos hj])
    · exact eqv.of ((show _ = cE o (mi0 i) (ml0 i) i from (by rw [uf_n _ _ (by omega)]; exact (by rw [ePt_init_n (by omega) (by omega)] <;> exact (by rw [uf_n _ _ (by omega), uf_n _ _ (by omega)]; exact (by rw [eIm_init_n (by omega) (by omega)] <;> exact (by rw [uf_n _ _ (by omega), uf_n _ _ (by omega)]; exact (by rw [eIm_init_n (by omega) (by omega)] <;> exact (by rw [uf_n _ _ (by omega), uf_n _ _ (by omega), uf_n _ _ (by omega), uf_n _ _ (by omega)]; exact (by rw [gE_n (by omega) (by omega)]; unfold gB; rw [if_pos (by omega)]))))))))).trans (by unfold eK cEK; rw [if_neg (by omega)]))
    · exact eqv.im (fun j hj => by rcases (show j = 0 ∨ j = 1 by omega) with rfl | rfl <;> rfl)
    · exact eqv.of rfl
    · exact eqv.of rfl
    · exact eqv.of rfl
    · exact eqv.of rfl
    · exact eqv.of rfl
    · exact eqv.of rfl
    · exact eqv.of rfl
    · exact eqv.of rfl
    · exact eqv.of rfl
    · exact eqv.of rfl
    · exact eqv.of rfl
  refine v_callK X (m_Pt_beginAtK l o mi0 ml0 75 281479271743489 rfl (by decide +kernel) (by decide +kernel)) ok_Pt_beginAt w_Nm_41 rfl (Nat.le_of_ble_eq_true rfl) (isPtK.e0 rfl) rfl ⟨Nat.le_of_ble_eq_true rfl, Nat.le_of_ble_eq_true rfl⟩ ⟨Nat.le_of_ble_eq_true rfl, Nat.le_of_ble_eq_true rfl⟩ (rest := []) rfl (Nat.le_of_ble_eq_true rfl) d_Nm_init_82 ?_
  rintro _ m z ⟨rfl, hPt, hf, hg⟩
  show VE γ o 2 78 (eK o m z) 77 2005 85 [(1, .int (nI (2))), (0, .ref (ads o (0)))] []
  refine v_aload_n X 1 d_Nm_init_85 rfl rfl ?_
  refine v_new X (ci := 5) (N := 3) (C := CR5) (T := CT5) (ty := CY5) (fs := [.null, .null, .int 0]) rfl CI5 CYok5 (by decide) cl_Nm_30 in_Pt ii_Pt rfl (Nat.le_of_ble_eq_true rfl) (Nat.le_of_ble_eq_true rfl) d_Nm_init_86 ?_
  refine v_dup X d_Nm_init_89 rfl ?_
  refine v_callI X (m_Pt_init l o 78 79 (uf (eK o m z) 78 (.inr (5, [.null, .null, .int 0]))) (by decide) (by rw [uf_s])) ok_Pt_init w_Nm_32 rfl ⟨Nat.le_of_ble_eq_true rfl, Nat.le_of_ble_eq_true rfl⟩ (Nat.le_of_ble_eq_true rfl) (Nat.le_of_ble_eq_true rfl) (Nat.le_of_ble_eq_true rfl) d_Nm_init_90 ?_
  refine v_putF X hin (fs := [.ref (ads o (1)), .ref (ads o (4)), .ref (ads o (66)), .ref (ads o (75)), .null, .null, .null, .null, .null, .null]) ff_Nm_45 (by decide) (by rw [ePt_init_n (by decide) (by decide)] <;> exact (by rw [uf_n _ _ (by decide)]; exact rfl)) (Nat.le_of_ble_eq_true rfl) d_Nm_init_93 ?_
  show VE γ o 2 (81) (uf (ePt_init o (uf (eK o m z) 78 (.inr (5, [.null, .null, .int 0]))) 78 79) 0 (.inr (9, [.ref (ads o (1)), .ref (ads o (4)), .ref (ads o (66)), .ref (ads o (75)), .ref (ads o (78)), .null, .null, .null, .null, .null]))) 80 2024 96 [(1, .int (nI (2))), (0, .ref (ads o (0)))] []
  refine v_aload_n X 1 d_Nm_init_96 rfl rfl ?_
  refine v_new X (ci := 3) (N := 3) (C := CR3) (T := CT3) (ty := CY3) (fs := [.null, .null, .int 0]) rfl CI3 CYok3 (by decide) cl_Nm_48 in_Gr ii_Gr rfl (Nat.le_of_ble_eq_true rfl) (Nat.le_of_ble_eq_true rfl) d_Nm_init_97 ?_
  refine v_dup X d_Nm_init_100 rfl ?_
  refine v_callI X (m_Gr_init l o 81 82 (uf (uf (ePt_init o (uf (eK o m z) 78 (.inr (5, [.null, .null, .int 0]))) 78 79) 0 (.inr (9, [.ref (ads o (1)), .ref (ads o (4)), .ref (ads o (66)), .ref (ads o (75)), .ref (ads o (78)), .null, .null, .null, .null, .null]))) 81 (.inr (3, [.null, .null, .int 0]))) (by decide) (by rw [uf_s])) ok_Gr_init w_Nm_50 rfl ⟨Nat.le_of_ble_eq_true rfl, Nat.le_of_ble_eq_true rfl⟩ (Nat.le_of_ble_eq_true rfl) (Nat.le_of_ble_eq_true rfl) (Nat.le_of_ble_eq_true rfl) d_Nm_init_101 ?_
  refine v_putF X hin (fs := [.ref (ads o (1)), .ref (ads o (4)), .ref (ads o (66)), .ref (ads o (75)), .ref (ads o (78)), .null, .null, .null, .null, .null]) ff_Nm_51 (by decide) (by rw [eGr_init_n (by decide) (by decide)] <;> exact (by rw [uf_n _ _ (by decide), uf_s])) (Nat.le_of_ble_eq_true rfl) d_Nm_init_104 ?_
  show VE γ o 2 (84) (uf (eGr_init o (uf (uf (ePt_init o (uf (eK o m z) 78 (.inr (5, [.null, .null, .int 0]))) 78 79) 0 (.inr (9, [.ref (ads o (1)), .ref (ads o (4)), .ref (ads o (66)), .ref (ads o (75)), .ref (ads o (78)), .null, .null, .null, .null, .null]))) 81 (.inr (3, [.null, .null, .int 0]))) 81 82) 0 (.inr (9, [.ref (ads o (1)), .ref (ads o (4)), .ref (ads o (66)), .ref (ads o (75)), .ref (ads o (78)), .ref (ads o (81)), .null, .null, .null, .null]))) 83 2107 107 [(1, .int (nI (2))), (0, .ref (ads o (0)))] []
  refine v_aload_n X 1 d_Nm_init_107 rfl rfl ?_
  refine v_new X (ci := 1) (N := 2) (C := CR1) (T := CT1) (ty := CY1) (fs := [.null, .long 0]) rfl CI1 CYok1 (by decide) cl_Nm_55 in_Co ii_Co rfl (Nat.le_of_ble_eq_true rfl) (Nat.le_of_ble_eq_true rfl) d_Nm_init_108 ?_
  refine v_dup X d_Nm_init_111 rfl ?_
  refine v_callI X (m_Co_init l o 84 85 (uf (uf (eGr_init o (uf (uf (ePt_init o (uf (eK o m z) 78 (.inr (5, [.null, .null, .int 0]))) 78 79) 0 (.inr (9, [.ref (ads o (1)), .ref (ads o (4)), .ref (ads o (66)), .ref (ads o (75)), .ref (ads o (78)), .null, .null, .null, .null, .null]))) 81 (.inr (3, [.null, .null, .int 0]))) 81 82) 0 (.inr (9, [.ref (ads o (1)), .ref (ads o (4)), .ref (ads o (66)), .ref (ads o (75)), .ref (ads o (78)), .ref (ads o (81)), .null, .null, .null, .null]))) 84 (.inr (1, [.null, .long 0]))) (by decide) (by rw [uf_s])) ok_Co_init w_Nm_57 rfl ⟨Nat.le_of_ble_eq_true rfl, Nat.le_of_ble_eq_true rfl⟩ (Nat.le_of_ble_eq_true rfl) (Nat.le_of_ble_eq_true rfl) (Nat.le_of_ble_eq_true rfl) d_Nm_init_112 ?_
  refine v_putF X hin (fs := [.ref (ads o (1)), .ref (ads o (4)), .ref (ads o (66)), .ref (ads o (75)), .ref (ads o (78)), .ref (ads o (81)), .null, .null, .null, .null]) ff_Nm_58 (by decide) (by rw [eCo_init_n (by decide) (by decide)] <;> exact (by rw [uf_n _ _ (by decide), uf_s])) (Nat.le_of_ble_eq_true rfl) d_Nm_init_115 ?_
  show VE γ o 2 (86) (uf (eCo_init o (uf (uf (eGr_init o (uf (uf (ePt_init o (uf (eK o m z) 78 (.inr (5, [.null, .null, .int 0]))) 78 79) 0 (.inr (9, [.ref (ads o (1)), .ref (ads o (4)), .ref (ads o (66)), .ref (ads o (75)), .ref (ads o (78)), .null, .null, .null, .null, .null]))) 81 (.inr (3, [.null, .null, .int 0]))) 81 82) 0 (.inr (9, [.ref (ads o (1)), .ref (ads o (4)), .ref (ads o (66)), .ref (ads o (75)), .ref (ads o (78)), .ref (ads o (81)), .null, .null, .null, .null]))) 84 (.inr (1, [.null, .long 0]))) 84 85) 0 (.inr (9, [.ref (ads o (1)), .ref (ads o (4)), .ref (ads o (66)), .ref (ads o (75)), .ref (ads o (78)), .ref (ads o (81)), .ref (ads o (84)), .null, .null, .null]))) 85 2173 118 [(1, .int (nI (2))), (0, .ref (ads o (0)))] []
  refine v_aload_n X 1 d_Nm_init_118 rfl rfl ?_
  refine v_new X (ci := 7) (N := 4) (C := CR7) (T := CT7) (ty := CY7) (fs := [.null, .null, .null, .int 0]) rfl CI7 CYok7 (by decide) cl_Nm_62 in_Si ii_Si rfl (Nat.le_of_ble_eq_true rfl) (Nat.le_of_ble_eq_true rfl) d_Nm_init_119 ?_
  refine v_dup X d_Nm_init_122 rfl ?_
  refine v_callI X (m_Si_init l o 86 87 (uf (uf (eCo_init o (uf (uf (eGr_init o (uf (uf (ePt_init o (uf (eK o m z) 78 (.inr (5, [.null, .null, .int 0]))) 78 79) 0 (.inr (9, [.ref (ads o (1)), .ref (ads o (4)), .ref (ads o (66)), .ref (ads o (75)), .ref (ads o (78)), .null, .null, .null, .null, .null]))) 81 (.inr (3, [.null, .null, .int 0]))) 81 82) 0 (.inr (9, [.ref (ads o (1)), .ref (ads o (4)), .ref (ads o (66)), .ref (ads o (75)), .ref (ads o (78)), .ref (ads o (81)), .null, .null, .null, .null]))) 84 (.inr (1, [.null, .long 0]))) 84 85) 0 (.inr (9, [.ref (ads o (1)), .ref (ads o (4)), .ref (ads o (66)), .ref (ads o (75)), .ref (ads o (78)), .ref (ads o (81)), .ref (ads o (84)), .null, .null, .null]))) 86 (.inr (7, [.null, .null, .null, .int 0]))) (by decide) (by rw [uf_s])) ok_Si_init w_Nm_64 rfl ⟨Nat.le_of_ble_eq_true rfl, Nat.le_of_ble_eq_true rfl⟩ (Nat.le_of_ble_eq_true rfl) (Nat.le_of_ble_eq_true rfl) (Nat.le_of_ble_eq_true rfl) d_Nm_init_123 ?_
  refine v_putF X hin (fs := [.ref (ads o (1)), .ref (ads o (4)), .ref (ads o (66)), .ref (ads o (75)), .ref (ads o (78)), .ref (ads o (81)), .ref (ads o (84)), .null, .null, .null]) ff_Nm_65 (by decide) (by rw [eSi_init_n (by decide) (by decide)] <;> exact (by rw [uf_n _ _ (by decide), uf_s])) (Nat.le_of_ble_eq_true rfl) d_Nm_init_126 ?_
  show VE γ o 2 (90) (uf (eSi_init o (uf (uf (eCo_init o (uf (uf (eGr_init o (uf (uf (ePt_init o (uf (eK o m z) 78 (.inr (5, [.null, .null, .int 0]))) 78 79) 0 (.inr (9, [.ref (ads o (1)), .ref (ads o (4)), .ref (ads o (66)), .ref (ads o (75)), .ref (ads o (78)), .null, .null, .null, .null, .null]))) 81 (.inr (3, [.null, .null, .int 0]))) 81 82) 0 (.inr (9, [.ref (ads o (1)), .ref (ads o (4)), .ref (ads o (66)), .ref (ads o (75)), .ref (ads o (78)), .ref (ads o (81)), .null, .null, .null, .null]))) 84 (.inr (1, [.null, .long 0]))) 84 85) 0 (.inr (9, [.ref (ads o (1)), .ref (ads o (4)), .ref (ads o (66)), .ref (ads o (75)), .ref (ads o (78)), .ref (ads o (81)), .ref (ads o (84)), .null, .null, .null]))) 86 (.inr (7, [.null, .null, .null, .int 0]))) 86 87) 0 (.inr (9, [.ref (ads o (1)), .ref (ads o (4)), .ref (ads o (66)), .ref (ads o (75)), .ref (ads o (78)), .ref (ads o (81)), .ref (ads o (84)), .ref (ads o (86)), .null, .null]))) 89 2254 129 [(1, .int (nI (2))), (0, .ref (ads o (0)))] []
  refine v_aload_n X 1 d_Nm_init_129 rfl rfl ?_
  refine v_new X (ci := 0) (N := 4) (C := CR0) (T := CT0) (ty := CY0) (fs := [.null, .null, .null, .int 0]) rfl CI0 CYok0 (by decide) cl_Nm_69 in_Bk ii_Bk rfl (Nat.le_of_ble_eq_true rfl) (Nat.le_of_ble_eq_true rfl) d_Nm_init_130 ?_
  refine v_dup X d_Nm_init_133 rfl ?_
  refine v_callI X (m_Bk_init l o 90 91 (uf (uf (eSi_init o (uf (uf (eCo_init o (uf (uf (eGr_init o (uf (uf (ePt_init o (uf (eK o m z) 78 (.inr (5, [.null, .null, .int 0]))) 78 79) 0 (.inr (9, [.ref (ads o (1)), .ref (ads o (4)), .ref (ads o (66)), .ref (ads o (75)), .ref (ads o (78)), .null, .null, .null, .null, .null]))) 81 (.inr (3, [.null, .null, .int 0]))) 81 82) 0 (.inr (9, [.ref (ads o (1)), .ref (ads o (4)), .ref (ads o (66)), .ref (ads o (75)), .ref (ads o (78)), .ref (ads o (81)), .null, .null, .null, .null]))) 84 (.inr (1, [.null, .long 0]))) 84 85) 0 (.inr (9, [.ref (ads o (1)), .ref (ads o (4)), .ref (ads o (66)), .ref (ads o (75)), .ref (ads o (78)), .ref (ads o (81)), .ref (ads o (84)), .null, .null, .null]))) 86 (.inr (7, [.null, .null, .null, .int 0]))) 86 87) 0 (.inr (9, [.ref (ads o (1)), .ref (ads o (4)), .ref (ads o (66)), .ref (ads o (75)), .ref (ads o (78)), .ref (ads o (81)), .ref (ads o (84)), .ref (ads o (86)), .null, .null]))) 90 (.inr (0, [.null, .null, .null, .int 0]))) (by decide) (by rw [uf_s])) ok_Bk_init w_Nm_71 rfl ⟨Nat.le_of_ble_eq_true rfl, Nat.le_of_ble_eq_true rfl⟩ (Nat.le_of_ble_eq_true rfl) (Nat.le_of_ble_eq_true rfl) (Nat.le_of_ble_eq_true rfl) d_Nm_init_134 ?_
  refine v_putF X hin (fs := [.ref (ads o (1)), .ref (ads o (4)), .ref (ads o (66)), .ref (ads o (75)), .ref (ads o (78)), .ref (ads o (81)), .ref (ads o (84)), .ref (ads o (86)), .null, .null]) ff_Nm_72 (by decide) (by rw [eBk_init_n (by decide) (by decide)] <;> exact (by rw [uf_n _ _ (by decide), uf_s])) (Nat.le_of_ble_eq_true rfl) d_Nm_init_137 ?_
  show VE γ o 2 (94) (uf (eBk_init o (uf (uf (eSi_init o (uf (uf (eCo_init o (uf (uf (eGr_init o (uf (uf (ePt_init o (uf (eK o m z) 78 (.inr (5, [.null, .null, .int 0]))) 78 79) 0 (.inr (9, [.ref (ads o (1)), .ref (ads o (4)), .ref (ads o (66)), .ref (ads o (75)), .ref (ads o (78)), .null, .null, .null, .null, .null]))) 81 (.inr (3, [.null, .null, .int 0]))) 81 82) 0 (.inr (9, [.ref (ads o (1)), .ref (ads o (4)), .ref (ads o (66)), .ref (ads o (75)), .ref (ads o (78)), .ref (ads o (81)), .null, .null, .null, .null]))) 84 (.inr (1, [.null, .long 0]))) 84 85) 0 (.inr (9, [.ref (ads o (1)), .ref (ads o (4)), .ref (ads o (66)), .ref (ads o (75)), .ref (ads o (78)), .ref (ads o (81)), .ref (ads o (84)), .null, .null, .null]))) 86 (.inr (7, [.null, .null, .null, .int 0]))) 86 87) 0 (.inr (9, [.ref (ads o (1)), .ref (ads o (4)), .ref (ads o (66)), .ref (ads o (75)), .ref (ads o (78)), .ref (ads o (81)), .ref (ads o (84)), .ref (ads o (86)), .null, .null]))) 90 (.inr (0, [.null, .null, .null, .int 0]))) 90 91) 0 (.inr (9, [.ref (ads o (1)), .ref (ads o (4)), .ref (ads o (66)), .ref (ads o (75)), .ref (ads o (78)), .ref (ads o (81)), .ref (ads o (84)), .ref (ads o (86)), .ref (ads o (90)), .null]))) 93 2318 140 [(1, .int (nI (2))), (0, .ref (ads o (0)))] []
  refine v_aload_n X 1 d_Nm_init_140 rfl rfl ?_
  refine v_new X (ci := 2) (N := 1) (C := CR2) (T := CT2) (ty := CY2) (fs := [.int 0]) rfl CI2 CYok2 (by decide) cl_Nm_76 in_Dr ii_Dr rfl (Nat.le_of_ble_eq_true rfl) (Nat.le_of_ble_eq_true rfl) d_Nm_init_141 ?_
  refine v_dup X d_Nm_init_144 rfl ?_
  refine v_callN X (host := "NearMarks") (m_Dr_init l o 94 95 (uf (uf (eBk_init o (uf (uf (eSi_init o (uf (uf (eCo_init o (uf (uf (eGr_init o (uf (uf (ePt_init o (uf (eK o m z) 78 (.inr (5, [.null, .null, .int 0]))) 78 79) 0 (.inr (9, [.ref (ads o (1)), .ref (ads o (4)), .ref (ads o (66)), .ref (ads o (75)), .ref (ads o (78)), .null, .null, .null, .null, .null]))) 81 (.inr (3, [.null, .null, .int 0]))) 81 82) 0 (.inr (9, [.ref (ads o (1)), .ref (ads o (4)), .ref (ads o (66)), .ref (ads o (75)), .ref (ads o (78)), .ref (ads o (81)), .null, .null, .null, .null]))) 84 (.inr (1, [.null, .long 0]))) 84 85) 0 (.inr (9, [.ref (ads o (1)), .ref (ads o (4)), .ref (ads o (66)), .ref (ads o (75)), .ref (ads o (78)), .ref (ads o (81)), .ref (ads o (84)), .null, .null, .null]))) 86 (.inr (7, [.null, .null, .null, .int 0]))) 86 87) 0 (.inr (9, [.ref (ads o (1)), .ref (ads o (4)), .ref (ads o (66)), .ref (ads o (75)), .ref (ads o (78)), .ref (ads o (81)), .ref (ads o (84)), .ref (ads o (86)), .null, .null]))) 90 (.inr (0, [.null, .null, .null, .int 0]))) 90 91) 0 (.inr (9, [.ref (ads o (1)), .ref (ads o (4)), .ref (ads o (66)), .ref (ads o (75)), .ref (ads o (78)), .ref (ads o (81)), .ref (ads o (84)), .ref (ads o (86)), .ref (ads o (90)), .null]))) 94 (.inr (2, [.int 0]))) (by decide) (by rw [uf_s])) ok_Dr_init (by decide +kernel) rfl ⟨Nat.le_of_ble_eq_true rfl, Nat.le_of_ble_eq_true rfl⟩ (Nat.le_of_ble_eq_true rfl) (Nat.le_of_ble_eq_true rfl) (Nat.le_of_ble_eq_true rfl) d_Nm_init_145 ?_
  refine v_putF X hin (fs := [.ref (ads o (1)), .ref (ads o (4)), .ref (ads o (66)), .ref (ads o (75)), .ref (ads o (78)), .ref (ads o (81)), .ref (ads o (84)), .ref (ads o (86)), .ref (ads o (90)), .null]) ff_Nm_79 (by decide) (by rw [eDr_init_n (by decide) (by decide)] <;> exact (by rw [uf_n _ _ (by decide), uf_s])) (Nat.le_of_ble_eq_true rfl) d_Nm_init_148 ?_
  show VE γ o 2 (95) (uf (eDr_init o (uf (uf (eBk_init o (uf (uf (eSi_init o (uf (uf (eCo_init o (uf (uf (eGr_init o (uf (uf (ePt_init o (uf (eK o m z) 78 (.inr (5, [.null, .null, .int 0]))) 78 79) 0 (.inr (9, [.ref (ads o (1)), .ref (ads o (4)), .ref (ads o (66)), .ref (ads o (75)), .ref (ads o (78)), .null, .null, .null, .null, .null]))) 81 (.inr (3, [.null, .null, .int 0]))) 81 82) 0 (.inr (9, [.ref (ads o (1)), .ref (ads o (4)), .ref (ads o (66)), .ref (ads o (75)), .ref (ads o (78)), .ref (ads o (81)), .null, .null, .null, .null]))) 84 (.inr (1, [.null, .long 0]))) 84 85) 0 (.inr (9, [.ref (ads o (1)), .ref (ads o (4)), .ref (ads o (66)), .ref (ads o (75)), .ref (ads o (78)), .ref (ads o (81)), .ref (ads o (84)), .null, .null, .null]))) 86 (.inr (7, [.null, .null, .null, .int 0]))) 86 87) 0 (.inr (9, [.ref (ads o (1)), .ref (ads o (4)), .ref (ads o (66)), .ref (ads o (75)), .ref (ads o (78)), .ref (ads o (81)), .ref (ads o (84)), .ref (ads o (86)), .null, .null]))) 90 (.inr (0, [.null, .null, .null, .int 0]))) 90 91) 0 (.inr (9, [.ref (ads o (1)), .ref (ads o (4)), .ref (ads o (66)), .ref (ads o (75)), .ref (ads o (78)), .ref (ads o (81)), .ref (ads o (84)), .ref (ads o (86)), .ref (ads o (90)), .null]))) 94 (.inr (2, [.int 0]))) 94 95) 0 (.inr (9, [.ref (ads o (1)), .ref (ads o (4)), .ref (ads o (66)), .ref (ads o (75)), .ref (ads o (78)), .ref (ads o (81)), .ref (ads o (84)), .ref (ads o (86)), .ref (ads o (90)), .ref (ads o (94))]))) 94 2319 151 [(1, .int (nI (2))), (0, .ref (ads o (0)))] []
  refine v_endX X hr (m := m) (z := z) ⟨hPt, hf, hg⟩ hQ rfl rfl rfl rfl (fun i hi => ?_) d_Nm_init_151
  rcases (show i = 0 ∨ (1 ≤ i ∧ i < 78) ∨ i = 78 ∨ i = 79 ∨ i = 80 ∨ i = 81 ∨ i = 82 ∨ i = 83 ∨ i = 84 ∨ i = 85 ∨ i = 86 ∨ i = 87 ∨ i = 88 ∨ i = 89 ∨ i = 90 ∨ i = 91 ∨ i = 92 ∨ i = 93 ∨ i = 94 by omega) with rfl | hi6 | rfl | rfl | rfl | rfl | rfl | rfl | rfl | rfl | rfl | rfl | rfl | rfl | rfl | rfl | rfl | rfl | rfl
  · exact eqv.of rfl
  · exact eqv.of (show _ = cE o (m i) (z i) i from (by rw [uf_n _ _ (by omega)]; exact (by rw [eDr_init_n (by omega) (by omega)] <;> exact (by rw [uf_n _ _ (by omega), uf_n _ _ (by omega)]; exact (by rw [eBk_init_n (by omega) (by omega)] <;> exact (by rw [uf_n _ _ (by omega), uf_n _ _ (by omega)]; exact (by rw [eSi_init_n (by omega) (by omega)] <;> exact (by rw [uf_n _ _ (by omega), uf_n _ _ (by omega)]; exact (by rw [eCo_init_n (by omega) (by omega)] <;> exact (by rw [uf_n _ _ (by omega), uf_n _ _ (by omega)]; exact (by rw [eGr_init_n (by omega) (by omega)] <;> exact (by rw [uf_n _ _ (by omega), uf_n _ _ (by omega)]; exact (by rw [ePt_init_n (by omega) (by omega)] <;> exact (by rw [uf_n _ _ (by omega)]; exact (by unfold eK cEK; rw [if_neg (by omega)])))))))))))))))
  · show eqv _ (cE o (m 78) (z 78) 78); rw [hf 78 (by decide) (by decide), hg 78 (by decide)]; exact eqv.of rfl
  · show eqv _ (cE o (m 79) (z 79) 79); rw [hf 79 (by decide) (by decide), hg 79 (by decide)]; exact eqv.of rfl
  · show eqv _ (cE o (m 80) (z 80) 80); rw [hf 80 (by decide) (by decide), hg 80 (by decide)]; exact eqv.of rfl
  · show eqv _ (cE o (m 81) (z 81) 81); rw [hf 81 (by decide) (by decide), hg 81 (by decide)]; exact eqv.of rfl
  · show eqv _ (cE o (m 82) (z 82) 82); rw [hf 82 (by decide) (by decide), hg 82 (by decide)]; exact eqv.of rfl
  · show eqv _ (cE o (m 83) (z 83) 83); rw [hf 83 (by decide) (by decide), hg 83 (by decide)]; exact eqv.of rfl
  · show eqv _ (cE o (m 84) (z 84) 84); rw [hf 84 (by decide) (by decide), hg 84 (by decide)]; exact eqv.of rfl
  · show eqv _ (cE o (m 85) (z 85) 85); rw [hf 85 (by decide) (by decide), hg 85 (by decide)]; exact eqv.of rfl
  · show eqv _ (cE o (m 86) (z 86) 86); rw [hf 86 (by decide) (by decide), hg 86 (by decide)]; exact eqv.of rfl
  · show eqv _ (cE o (m 87) (z 87) 87); rw [hf 87 (by decide) (by decide), hg 87 (by decide)]; exact eqv.of rfl
  · show eqv _ (cE o (m 88) (z 88) 88); rw [hf 88 (by decide) (by decide), hg 88 (by decide)]; exact eqv.of rfl
  · show eqv _ (cE o (m 89) (z 89) 89); rw [hf 89 (by decide) (by decide), hg 89 (by decide)]; exact eqv.of rfl
  · show eqv _ (cE o (m 90) (z 90) 90); rw [hf 90 (by decide) (by decide), hg 90 (by decide)]; exact eqv.of rfl
  · show eqv _ (cE o (m 91) (z 91) 91); rw [hf 91 (by decide) (by decide), hg 91 (by decide)]; exact eqv.of rfl
  · show eqv _ (cE o (m 92) (z 92) 92); rw [hf 92 (by decide) (by decide), hg 92 (by decide)]; exact eqv.of rfl
  · show eqv _ (cE o (m 93) (z 93) 93); rw [hf 93 (by decide) (by decide), hg 93 (by decide)]; exact eqv.of rfl
  · show eqv _ (cE o (m 94) (z 94) 94); rw [hf 94 (by decide) (by decide), hg 94 (by decide)]; exact eqv.of rfl
