/-! THE CLAIM OUT OF ONE WALK OF THE LAW'S BODY. Your part is whole_start (and what it stands on); all else here is the same for every law, but numbers. -/
def R_law : String := "NearMarksLaw"
def lw_P (b : Addr) (xs : List Int32) (args : Array Value) (s : State) : Prop := args = #[.ref b] ∧ s.IntsAt b xs ∧ xs.length ≤ 2048 ∧ (Jvm.Cond.and given_1 narrow_1).before args s = true
def lw_Q (_ : Array Value) (s : State) (o : Outcome) (t : State) : Prop := o = .returned (some (.int 1)) ∧ Framed s o t [] 600000 7302250
def lw_Z (below : List Frame) (a : Array Value) (s : State) : State → Prop := fun t => ∃ o, t.status = .running ∧ Ended t below o ∧ lw_Q a s o t
/-- the law's own end, with 1 on the stack, nothing written that was there before, its room as the claim has it -/
theorem lw_ret {p : Program} {l : Launch} {e : Env} {s : State} {m : MethodId} {below : List Frame} {meth : Method} {c : Code} {b : Nat} (hx : p.tables.exec = Jvm.exec) (hb : c.code = code) (hr : meth.sig.returnType = ret) (hlocks : meth.locks = false) {pc : Nat} {H : Heap} {ls : Array Slot} (hdg : decode code pc = .ok (.ireturn, 1)) : W p l e room_1 s m #[Value.ref b] below meth c H [] 600000 7302250 (lw_Z below #[Value.ref b] s) (F0 m pc ls [.int 1]) := by
  intro T hT X
  obtain ⟨fs, hret, hrun, hended, hW, hframe⟩ := X.leave (v := some (.int 1)) (hlocks := hlocks) (fun h => by rw [hr] at h; cases h)
  have hmeth' : T.vm.method? m = some meth := X.method'
  refine ⟨T.setFrames fs, ?_, .returned (some (.int 1)), hrun, hended, rfl, ⟨_, rfl⟩, hW, hframe⟩
  jvm_step X.here [X.here.top, hx, hb, hdg, hmeth', hr, ret, narrow_b1]
  (try refine ⟨rfl, ?_⟩); (try refine ⟨rfl, ?_⟩)
  first | (intro acts; rw [hret _ acts rfl rfl rfl]) | rw [hret _ _ rfl rfl rfl]
  exact Steps.refl _
/-- what holds at the law's entry: the machine, the code, the tables' words (any of lw_tbl by 'hts w (by decide +kernel)'), the script of L ints xs at the cell b, what the Statement gives of the start (any of its parts by flat_of_before) -/
def lw_At (p : Program) (s : State) (m : MethodId) (meth : Method) (c : Code) (b L : Nat) (xs : Nat → Int32) : Prop :=
  p.tables.exec = Jvm.exec ∧ c.code = code ∧ meth.sig.returnType = ret ∧ c.maxLocals = 4 ∧ s.vm.findClass R_law = some m.cls ∧ (∀ w ∈ lw_tbl, w.before #[Value.ref b] s = true) ∧ va_X b L xs s s.heap ∧ b < s.heap.size ∧ meth.locks = false ∧ (Jvm.Cond.and given_1 narrow_1).before #[Value.ref b] s = true
theorem nw_0 : Cond.methodLinkNest "NearMarks$Parts" 23 y_Nm_hasBit "NearMarks" ∈ lw_tbl := List.mem_of_getElem? (i := 161) (by decide +kernel)
theorem nw_1 : Cond.methodLinkNest "NearMarks$State" 36 y_Nm_distanceOf "NearMarks" ∈ lw_tbl := List.mem_of_getElem? (i := 299) (by decide +kernel)
theorem nw_2 : Cond.methodLinkNest "NearMarks$Sightings" 26 y_Nm_distanceOf "NearMarks" ∈ lw_tbl := List.mem_of_getElem? (i := 355) (by decide +kernel)
theorem nw_3 : Cond.methodLinkNest "NearMarks$Sightings" 44 y_Nm_leastOf "NearMarks" ∈ lw_tbl := List.mem_of_getElem? (i := 361) (by decide +kernel)
theorem nw_4 : Cond.methodLinkNest "NearMarks$Sightings" 57 y_Nm_hasBit "NearMarks" ∈ lw_tbl := List.mem_of_getElem? (i := 374) (by decide +kernel)
theorem nw_5 : Cond.methodLinkNest "NearMarks$Picture" 19 y_Nm_hasBit "NearMarks" ∈ lw_tbl := List.mem_of_getElem? (i := 457) (by decide +kernel)
theorem nw_6 : Cond.methodLinkNest "NearMarks$Grouping" 29 y_Nm_hasBit "NearMarks" ∈ lw_tbl := List.mem_of_getElem? (i := 570) (by decide +kernel)
theorem nw_7 : Cond.methodLinkNest "NearMarks$State" 47 y_Nm_hasBit "NearMarks" ∈ lw_tbl := List.mem_of_getElem? (i := 588) (by decide +kernel)
theorem nw_8 : Cond.methodLinkNest "NearMarks" 78 y_Dr_init "NearMarks" ∈ lw_tbl := List.mem_of_getElem? (i := 237) (by decide +kernel)
theorem ao_S : Cond.arrayOver (.object "NearMarks$State") ∈ lw_tbl := List.mem_of_getElem? (i := 105) (by decide +kernel)
theorem ao_I : Cond.arrayOver (.object "NearMarks$Image") ∈ lw_tbl := List.mem_of_getElem? (i := 119) (by decide +kernel)
theorem ka_prim {args : Array Value} {s : State} {t : FieldType} (h : (Cond.arrayClass t).before args s = true) : ∃ cA, ArrOfT s cA t ∧ s.vm.findClass ("[" ++ t.toString) = some cA := by
  obtain ⟨c, k, comp, h1, h2, h3⟩ := Cond.arrayClass_spec h
  exact ⟨c, fun n z => ⟨fun k h => (by cases h), k, h2, comp, h3⟩, h1⟩
theorem ka_obj {args : Array Value} {s : State} {C : String} (h : (Cond.arrayOver (.object C)).before args s = true) : ∃ cA, ArrOfT s cA (.object C) ∧ va_RA s cA (.object C) := by
  obtain ⟨comp, c, k, h1, h2, h3, h4, h5⟩ := Cond.arrayOver_spec h
  exact ⟨c, fun n z => ⟨fun k h => (by cases h), k, h3, comp, h4⟩, k, comp, h3, h4, h1, h5⟩
theorem ka_nst {args : Array Value} {s : State} (hts : ∀ w ∈ lw_tbl, w.before args s = true) : Nst s := by
  intro q hq
  unfold nst at hq
  simp only [List.mem_cons, List.not_mem_nil, or_false] at hq
  rcases hq with rfl | rfl | rfl | rfl | rfl | rfl | rfl | rfl | rfl
  · exact va_Nw.of rfl (hts _ nw_0)
  · exact va_Nw.of rfl (hts _ nw_1)
  · exact va_Nw.of rfl (hts _ nw_2)
  · exact va_Nw.of rfl (hts _ nw_3)
  · exact va_Nw.of rfl (hts _ nw_4)
  · exact va_Nw.of rfl (hts _ nw_5)
  · exact va_Nw.of rfl (hts _ nw_6)
  · exact va_Nw.of rfl (hts _ nw_7)
  · exact va_Nw.of rfl (hts _ nw_8)
theorem ka_world {args : Array Value} {s : State} (hts : ∀ w ∈ lw_tbl, w.before args s = true) : ∃ o : OM, o.1 = s.heap.size ∧ Kp o s ∧ AOs s := by
  have hg : ∀ w ∈ gtbl, w.before args s = true := fun w hw => hts w (List.mem_filter.mp hw).1
  obtain ⟨c0, i0, k0⟩ := u_known (C := CR0) (T := CT0) (N := 4) (n := 4) hg CI0 (hg _ in_Bk)
  obtain ⟨c1, i1, k1⟩ := u_known (C := CR1) (T := CT1) (N := 2) (n := 2) hg CI1 (hg _ in_Co)
  obtain ⟨c2, i2, k2⟩ := u_known (C := CR2) (T := CT2) (N := 1) (n := 1) hg CI2 (hg _ in_Dr)
  obtain ⟨c3, i3, k3⟩ := u_known (C := CR3) (T := CT3) (N := 3) (n := 3) hg CI3 (hg _ in_Gr)
  obtain ⟨c4, i4, k4⟩ := u_known (C := CR4) (T := CT4) (N := 3) (n := 3) hg CI4 (hg _ in_Im)
  obtain ⟨c5, i5, k5⟩ := u_known (C := CR5) (T := CT5) (N := 3) (n := 3) hg CI5 (hg _ in_Pt)
  obtain ⟨c6, i6, k6⟩ := u_known (C := CR6) (T := CT6) (N := 3) (n := 3) hg CI6 (hg _ in_Pa)
  obtain ⟨c7, i7, k7⟩ := u_known (C := CR7) (T := CT7) (N := 4) (n := 4) hg CI7 (hg _ in_Si)
  obtain ⟨c8, i8, k8⟩ := u_known (C := CR8) (T := CT8) (N := 5) (n := 5) hg CI8 (hg _ in_St)
  obtain ⟨c9, i9, k9⟩ := u_known (C := CR9) (T := CT9) (N := 10) (n := 10) hg CI9 (hg _ in_Nm)
  obtain ⟨c10, i10, k10⟩ := u_known (C := CR10) (T := CT10) (N := 19) (n := 19) hg CI10 (hg _ in_Mo)
  obtain ⟨aI, hI, rI⟩ := ka_prim (hg _ arr_I)
  obtain ⟨aJ, hJ, rJ⟩ := ka_prim (hg _ arr_J)
  obtain ⟨aZ, hZ, rZ⟩ := ka_prim (hg _ arr_Z)
  obtain ⟨aM, hM, rM⟩ := ka_obj (hts _ ao_I)
  obtain ⟨aS, hS, rS⟩ := ka_obj (hts _ ao_S)
  refine ⟨(s.heap.size, (fun k => match k with | 0 => c0 | 1 => c1 | 2 => c2 | 3 => c3 | 4 => c4 | 5 => c5 | 6 => c6 | 7 => c7 | 8 => c8 | 9 => c9 | _ => c10, fun k => match k with | 0 => i0 | 1 => i1 | 2 => i2 | 3 => i3 | 4 => i4 | 5 => i5 | 6 => i6 | 7 => i7 | 8 => i8 | 9 => i9 | _ => i10), fun k => match k with | 0 => aI | 1 => aJ | 2 => aZ | 3 => aM | _ => aS), rfl, ⟨⟨fun c q h => ?_, fun k q h => ?_⟩, ka_nst hts⟩, va_AO.of (hts _ ao_S), va_AO.of (hts _ ao_I)⟩
  · match c, h with
    | 0, h => cases h; exact k0
    | 1, h => cases h; exact k1
    | 2, h => cases h; exact k2
    | 3, h => cases h; exact k3
    | 4, h => cases h; exact k4
    | 5, h => cases h; exact k5
    | 6, h => cases h; exact k6
    | 7, h => cases h; exact k7
    | 8, h => cases h; exact k8
    | 9, h => cases h; exact k9
    | 10, h => cases h; exact k10
    | c + 11, h => simp [vcl] at h
  · match k, h with
    | 0, h => cases h; exact ⟨hI, rI⟩
    | 1, h => cases h; exact ⟨hJ, rJ⟩
    | 2, h => cases h; exact ⟨hZ, rZ⟩
    | 3, h => cases h; exact ⟨hM, rM⟩
    | 4, h => cases h; exact ⟨hS, rS⟩
    | k + 5, h => simp [vtys] at h
