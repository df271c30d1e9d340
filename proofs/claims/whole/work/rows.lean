section
/-- a private method of a class that the tables say can be made, by its rows of tables_1 -/
def lw_okq (q : MethodName × Nat) : Prop := (q.1.cls ≠ "java/lang/invoke/MethodHandle" ∧ q.1.cls ≠ "java/lang/invoke/VarHandle") ∧ Cond.instantiable q.1.cls q.2 ∈ tables_1 ∧ Cond.privateMethod q.1 ∈ tables_1 ∧ Cond.instanceMethod q.1 ∈ tables_1
theorem lw_p0 : lw_okq (⟨"NearMarks", "countLookedAt", "(I)I"⟩, 10) := ⟨⟨by decide +kernel, by decide +kernel⟩, List.mem_of_getElem? (i := 16) (by decide +kernel), List.mem_of_getElem? (i := 252) (by decide +kernel), List.mem_of_getElem? (i := 253) (by decide +kernel)⟩
theorem lw_p1 : lw_okq (⟨"NearMarks", "leastDistance", "()I"⟩, 10) := ⟨⟨by decide +kernel, by decide +kernel⟩, List.mem_of_getElem? (i := 16) (by decide +kernel), List.mem_of_getElem? (i := 280) (by decide +kernel), List.mem_of_getElem? (i := 281) (by decide +kernel)⟩
theorem lw_p2 : lw_okq (⟨"NearMarks", "countOthersWithin", "(II)I"⟩, 10) := ⟨⟨by decide +kernel, by decide +kernel⟩, List.mem_of_getElem? (i := 16) (by decide +kernel), List.mem_of_getElem? (i := 371) (by decide +kernel), List.mem_of_getElem? (i := 372) (by decide +kernel)⟩
theorem lw_p3 : lw_okq (⟨"NearMarks", "countWithPart", "(J)I"⟩, 10) := ⟨⟨by decide +kernel, by decide +kernel⟩, List.mem_of_getElem? (i := 16) (by decide +kernel), List.mem_of_getElem? (i := 380) (by decide +kernel), List.mem_of_getElem? (i := 381) (by decide +kernel)⟩
theorem lw_p4 : lw_okq (⟨"NearMarks", "changeHandByDraws", "()V"⟩, 10) := ⟨⟨by decide +kernel, by decide +kernel⟩, List.mem_of_getElem? (i := 16) (by decide +kernel), List.mem_of_getElem? (i := 469) (by decide +kernel), List.mem_of_getElem? (i := 470) (by decide +kernel)⟩
theorem lw_p5 : lw_okq (⟨"NearMarks", "putIfUnlikeAll", "()V"⟩, 10) := ⟨⟨by decide +kernel, by decide +kernel⟩, List.mem_of_getElem? (i := 16) (by decide +kernel), List.mem_of_getElem? (i := 486) (by decide +kernel), List.mem_of_getElem? (i := 487) (by decide +kernel)⟩
theorem lw_p6 : lw_okq (⟨"NearMarks", "isNear", "(II)Z"⟩, 10) := ⟨⟨by decide +kernel, by decide +kernel⟩, List.mem_of_getElem? (i := 16) (by decide +kernel), List.mem_of_getElem? (i := 505) (by decide +kernel), List.mem_of_getElem? (i := 506) (by decide +kernel)⟩
theorem lw_p7 : lw_okq (⟨"NearMarks", "countAllLooks", "(LNearMarks$Parts;)I"⟩, 10) := ⟨⟨by decide +kernel, by decide +kernel⟩, List.mem_of_getElem? (i := 16) (by decide +kernel), List.mem_of_getElem? (i := 574) (by decide +kernel), List.mem_of_getElem? (i := 575) (by decide +kernel)⟩
theorem lw_p8 : lw_okq (⟨"NearMarksModel", "marks", "()I"⟩, 19) := ⟨⟨by decide +kernel, by decide +kernel⟩, List.mem_of_getElem? (i := 615) (by decide +kernel), List.mem_of_getElem? (i := 685) (by decide +kernel), List.mem_of_getElem? (i := 686) (by decide +kernel)⟩
theorem lw_p9 : lw_okq (⟨"NearMarksModel", "parts", "()I"⟩, 19) := ⟨⟨by decide +kernel, by decide +kernel⟩, List.mem_of_getElem? (i := 615) (by decide +kernel), List.mem_of_getElem? (i := 689) (by decide +kernel), List.mem_of_getElem? (i := 690) (by decide +kernel)⟩
theorem lw_p10 : lw_okq (⟨"NearMarksModel", "like", "(J)I"⟩, 19) := ⟨⟨by decide +kernel, by decide +kernel⟩, List.mem_of_getElem? (i := 615) (by decide +kernel), List.mem_of_getElem? (i := 696) (by decide +kernel), List.mem_of_getElem? (i := 697) (by decide +kernel)⟩
theorem lw_p11 : lw_okq (⟨"NearMarksModel", "own", "(I)J"⟩, 19) := ⟨⟨by decide +kernel, by decide +kernel⟩, List.mem_of_getElem? (i := 615) (by decide +kernel), List.mem_of_getElem? (i := 700) (by decide +kernel), List.mem_of_getElem? (i := 701) (by decide +kernel)⟩
theorem lw_p12 : lw_okq (⟨"NearMarksModel", "looked", "(Z)I"⟩, 19) := ⟨⟨by decide +kernel, by decide +kernel⟩, List.mem_of_getElem? (i := 615) (by decide +kernel), List.mem_of_getElem? (i := 704) (by decide +kernel), List.mem_of_getElem? (i := 705) (by decide +kernel)⟩
theorem lw_p13 : lw_okq (⟨"NearMarksModel", "off", "(I)I"⟩, 19) := ⟨⟨by decide +kernel, by decide +kernel⟩, List.mem_of_getElem? (i := 615) (by decide +kernel), List.mem_of_getElem? (i := 714) (by decide +kernel), List.mem_of_getElem? (i := 715) (by decide +kernel)⟩
theorem lw_p14 : lw_okq (⟨"NearMarksModel", "first", "(Z)I"⟩, 19) := ⟨⟨by decide +kernel, by decide +kernel⟩, List.mem_of_getElem? (i := 615) (by decide +kernel), List.mem_of_getElem? (i := 718) (by decide +kernel), List.mem_of_getElem? (i := 719) (by decide +kernel)⟩
theorem lw_p15 : lw_okq (⟨"NearMarksModel", "nearestOf", "(I)I"⟩, 19) := ⟨⟨by decide +kernel, by decide +kernel⟩, List.mem_of_getElem? (i := 615) (by decide +kernel), List.mem_of_getElem? (i := 722) (by decide +kernel), List.mem_of_getElem? (i := 723) (by decide +kernel)⟩
def lw_privs_1 : List (MethodName × Nat) := [(⟨"NearMarks", "countLookedAt", "(I)I"⟩, 10), (⟨"NearMarks", "leastDistance", "()I"⟩, 10), (⟨"NearMarks", "countOthersWithin", "(II)I"⟩, 10), (⟨"NearMarks", "countWithPart", "(J)I"⟩, 10), (⟨"NearMarks", "changeHandByDraws", "()V"⟩, 10), (⟨"NearMarks", "putIfUnlikeAll", "()V"⟩, 10), (⟨"NearMarks", "isNear", "(II)Z"⟩, 10), (⟨"NearMarks", "countAllLooks", "(LNearMarks$Parts;)I"⟩, 10), (⟨"NearMarksModel", "marks", "()I"⟩, 19), (⟨"NearMarksModel", "parts", "()I"⟩, 19), (⟨"NearMarksModel", "like", "(J)I"⟩, 19), (⟨"NearMarksModel", "own", "(I)J"⟩, 19), (⟨"NearMarksModel", "looked", "(Z)I"⟩, 19), (⟨"NearMarksModel", "off", "(I)I"⟩, 19), (⟨"NearMarksModel", "first", "(Z)I"⟩, 19), (⟨"NearMarksModel", "nearestOf", "(I)I"⟩, 19)]
theorem lw_r1 : ∀ q ∈ lw_privs_1, lw_okq q := List.forall_mem_cons.mpr ⟨lw_p0, List.forall_mem_cons.mpr ⟨lw_p1, List.forall_mem_cons.mpr ⟨lw_p2, List.forall_mem_cons.mpr ⟨lw_p3, List.forall_mem_cons.mpr ⟨lw_p4, List.forall_mem_cons.mpr ⟨lw_p5, List.forall_mem_cons.mpr ⟨lw_p6, List.forall_mem_cons.mpr ⟨lw_p7, List.forall_mem_cons.mpr ⟨lw_p8, List.forall_mem_cons.mpr ⟨lw_p9, List.forall_mem_cons.mpr ⟨lw_p10, List.forall_mem_cons.mpr ⟨lw_p11, List.forall_mem_cons.mpr ⟨lw_p12, List.forall_mem_cons.mpr ⟨lw_p13, List.forall_mem_cons.mpr ⟨lw_p14, List.forall_mem_cons.mpr ⟨lw_p15, fun _ h => absurd h List.not_mem_nil⟩⟩⟩⟩⟩⟩⟩⟩⟩⟩⟩⟩⟩⟩⟩⟩
theorem lw_p16 : lw_okq (⟨"NearMarksModel", "ahead", "(I)I"⟩, 19) := ⟨⟨by decide +kernel, by decide +kernel⟩, List.mem_of_getElem? (i := 615) (by decide +kernel), List.mem_of_getElem? (i := 726) (by decide +kernel), List.mem_of_getElem? (i := 727) (by decide +kernel)⟩
theorem lw_p17 : lw_okq (⟨"NearMarksModel", "dead", "()I"⟩, 19) := ⟨⟨by decide +kernel, by decide +kernel⟩, List.mem_of_getElem? (i := 615) (by decide +kernel), List.mem_of_getElem? (i := 730) (by decide +kernel), List.mem_of_getElem? (i := 731) (by decide +kernel)⟩
theorem lw_p18 : lw_okq (⟨"NearMarksModel", "isDead", "(I)Z"⟩, 19) := ⟨⟨by decide +kernel, by decide +kernel⟩, List.mem_of_getElem? (i := 615) (by decide +kernel), List.mem_of_getElem? (i := 734) (by decide +kernel), List.mem_of_getElem? (i := 735) (by decide +kernel)⟩
theorem lw_p19 : lw_okq (⟨"NearMarksModel", "together", "()I"⟩, 19) := ⟨⟨by decide +kernel, by decide +kernel⟩, List.mem_of_getElem? (i := 615) (by decide +kernel), List.mem_of_getElem? (i := 738) (by decide +kernel), List.mem_of_getElem? (i := 739) (by decide +kernel)⟩
theorem lw_p20 : lw_okq (⟨"NearMarksModel", "areTogether", "(II)Z"⟩, 19) := ⟨⟨by decide +kernel, by decide +kernel⟩, List.mem_of_getElem? (i := 615) (by decide +kernel), List.mem_of_getElem? (i := 742) (by decide +kernel), List.mem_of_getElem? (i := 743) (by decide +kernel)⟩
theorem lw_p21 : lw_okq (⟨"NearMarksModel", "could", "(Z)I"⟩, 19) := ⟨⟨by decide +kernel, by decide +kernel⟩, List.mem_of_getElem? (i := 615) (by decide +kernel), List.mem_of_getElem? (i := 746) (by decide +kernel), List.mem_of_getElem? (i := 747) (by decide +kernel)⟩
theorem lw_p22 : lw_okq (⟨"NearMarksModel", "couldBe", "(I)Z"⟩, 19) := ⟨⟨by decide +kernel, by decide +kernel⟩, List.mem_of_getElem? (i := 615) (by decide +kernel), List.mem_of_getElem? (i := 750) (by decide +kernel), List.mem_of_getElem? (i := 751) (by decide +kernel)⟩
theorem lw_p23 : lw_okq (⟨"NearMarksModel", "asked", "()I"⟩, 19) := ⟨⟨by decide +kernel, by decide +kernel⟩, List.mem_of_getElem? (i := 615) (by decide +kernel), List.mem_of_getElem? (i := 754) (by decide +kernel), List.mem_of_getElem? (i := 755) (by decide +kernel)⟩
theorem lw_p24 : lw_okq (⟨"NearMarksModel", "wrong", "()I"⟩, 19) := ⟨⟨by decide +kernel, by decide +kernel⟩, List.mem_of_getElem? (i := 615) (by decide +kernel), List.mem_of_getElem? (i := 758) (by decide +kernel), List.mem_of_getElem? (i := 759) (by decide +kernel)⟩
theorem lw_p25 : lw_okq (⟨"NearMarksModel", "isMark", "(I)Z"⟩, 19) := ⟨⟨by decide +kernel, by decide +kernel⟩, List.mem_of_getElem? (i := 615) (by decide +kernel), List.mem_of_getElem? (i := 762) (by decide +kernel), List.mem_of_getElem? (i := 763) (by decide +kernel)⟩
theorem lw_p26 : lw_okq (⟨"NearMarksModel", "beginOf", "(I)I"⟩, 19) := ⟨⟨by decide +kernel, by decide +kernel⟩, List.mem_of_getElem? (i := 615) (by decide +kernel), List.mem_of_getElem? (i := 787) (by decide +kernel), List.mem_of_getElem? (i := 788) (by decide +kernel)⟩
theorem lw_p27 : lw_okq (⟨"NearMarksModel", "endOf", "(I)I"⟩, 19) := ⟨⟨by decide +kernel, by decide +kernel⟩, List.mem_of_getElem? (i := 615) (by decide +kernel), List.mem_of_getElem? (i := 791) (by decide +kernel), List.mem_of_getElem? (i := 792) (by decide +kernel)⟩
theorem lw_p28 : lw_okq (⟨"NearMarksModel", "have", "(I)I"⟩, 19) := ⟨⟨by decide +kernel, by decide +kernel⟩, List.mem_of_getElem? (i := 615) (by decide +kernel), List.mem_of_getElem? (i := 795) (by decide +kernel), List.mem_of_getElem? (i := 796) (by decide +kernel)⟩
theorem lw_p29 : lw_okq (⟨"NearMarksModel", "note", "()V"⟩, 19) := ⟨⟨by decide +kernel, by decide +kernel⟩, List.mem_of_getElem? (i := 615) (by decide +kernel), List.mem_of_getElem? (i := 805) (by decide +kernel), List.mem_of_getElem? (i := 806) (by decide +kernel)⟩
theorem lw_p30 : lw_okq (⟨"NearMarksModel", "lay", "([J[II)V"⟩, 19) := ⟨⟨by decide +kernel, by decide +kernel⟩, List.mem_of_getElem? (i := 615) (by decide +kernel), List.mem_of_getElem? (i := 809) (by decide +kernel), List.mem_of_getElem? (i := 810) (by decide +kernel)⟩
theorem lw_p31 : lw_okq (⟨"NearMarksModel", "row", "()I"⟩, 19) := ⟨⟨by decide +kernel, by decide +kernel⟩, List.mem_of_getElem? (i := 615) (by decide +kernel), List.mem_of_getElem? (i := 823) (by decide +kernel), List.mem_of_getElem? (i := 824) (by decide +kernel)⟩
def lw_privs_2 : List (MethodName × Nat) := [(⟨"NearMarksModel", "ahead", "(I)I"⟩, 19), (⟨"NearMarksModel", "dead", "()I"⟩, 19), (⟨"NearMarksModel", "isDead", "(I)Z"⟩, 19), (⟨"NearMarksModel", "together", "()I"⟩, 19), (⟨"NearMarksModel", "areTogether", "(II)Z"⟩, 19), (⟨"NearMarksModel", "could", "(Z)I"⟩, 19), (⟨"NearMarksModel", "couldBe", "(I)Z"⟩, 19), (⟨"NearMarksModel", "asked", "()I"⟩, 19), (⟨"NearMarksModel", "wrong", "()I"⟩, 19), (⟨"NearMarksModel", "isMark", "(I)Z"⟩, 19), (⟨"NearMarksModel", "beginOf", "(I)I"⟩, 19), (⟨"NearMarksModel", "endOf", "(I)I"⟩, 19), (⟨"NearMarksModel", "have", "(I)I"⟩, 19), (⟨"NearMarksModel", "note", "()V"⟩, 19), (⟨"NearMarksModel", "lay", "([J[II)V"⟩, 19), (⟨"NearMarksModel", "row", "()I"⟩, 19)]
theorem lw_r2 : ∀ q ∈ lw_privs_2, lw_okq q := List.forall_mem_cons.mpr ⟨lw_p16, List.forall_mem_cons.mpr ⟨lw_p17, List.forall_mem_cons.mpr ⟨lw_p18, List.forall_mem_cons.mpr ⟨lw_p19, List.forall_mem_cons.mpr ⟨lw_p20, List.forall_mem_cons.mpr ⟨lw_p21, List.forall_mem_cons.mpr ⟨lw_p22, List.forall_mem_cons.mpr ⟨lw_p23, List.forall_mem_cons.mpr ⟨lw_p24, List.forall_mem_cons.mpr ⟨lw_p25, List.forall_mem_cons.mpr ⟨lw_p26, List.forall_mem_cons.mpr ⟨lw_p27, List.forall_mem_cons.mpr ⟨lw_p28, List.forall_mem_cons.mpr ⟨lw_p29, List.forall_mem_cons.mpr ⟨lw_p30, List.forall_mem_cons.mpr ⟨lw_p31, fun _ h => absurd h List.not_mem_nil⟩⟩⟩⟩⟩⟩⟩⟩⟩⟩⟩⟩⟩⟩⟩⟩
theorem lw_p32 : lw_okq (⟨"NearMarksModel", "add", "(I)V"⟩, 19) := ⟨⟨by decide +kernel, by decide +kernel⟩, List.mem_of_getElem? (i := 615) (by decide +kernel), List.mem_of_getElem? (i := 842) (by decide +kernel), List.mem_of_getElem? (i := 843) (by decide +kernel)⟩
theorem lw_p33 : lw_okq (⟨"NearMarksModel", "lot", "()V"⟩, 19) := ⟨⟨by decide +kernel, by decide +kernel⟩, List.mem_of_getElem? (i := 615) (by decide +kernel), List.mem_of_getElem? (i := 863) (by decide +kernel), List.mem_of_getElem? (i := 864) (by decide +kernel)⟩
theorem lw_p34 : lw_okq (⟨"NearMarksModel", "draw", "(I)I"⟩, 19) := ⟨⟨by decide +kernel, by decide +kernel⟩, List.mem_of_getElem? (i := 615) (by decide +kernel), List.mem_of_getElem? (i := 867) (by decide +kernel), List.mem_of_getElem? (i := 868) (by decide +kernel)⟩
theorem lw_p35 : lw_okq (⟨"NearMarksModel", "become", "([J[II)V"⟩, 19) := ⟨⟨by decide +kernel, by decide +kernel⟩, List.mem_of_getElem? (i := 615) (by decide +kernel), List.mem_of_getElem? (i := 879) (by decide +kernel), List.mem_of_getElem? (i := 880) (by decide +kernel)⟩
theorem lw_p36 : lw_okq (⟨"NearMarksModel", "layGroups", "(I)I"⟩, 19) := ⟨⟨by decide +kernel, by decide +kernel⟩, List.mem_of_getElem? (i := 615) (by decide +kernel), List.mem_of_getElem? (i := 900) (by decide +kernel), List.mem_of_getElem? (i := 901) (by decide +kernel)⟩
theorem lw_p37 : lw_okq (⟨"NearMarksModel", "leastOf", "(I)I"⟩, 19) := ⟨⟨by decide +kernel, by decide +kernel⟩, List.mem_of_getElem? (i := 615) (by decide +kernel), List.mem_of_getElem? (i := 908) (by decide +kernel), List.mem_of_getElem? (i := 909) (by decide +kernel)⟩
theorem lw_p38 : lw_okq (⟨"NearMarksModel", "manyOf", "(I)I"⟩, 19) := ⟨⟨by decide +kernel, by decide +kernel⟩, List.mem_of_getElem? (i := 615) (by decide +kernel), List.mem_of_getElem? (i := 912) (by decide +kernel), List.mem_of_getElem? (i := 913) (by decide +kernel)⟩
theorem lw_p39 : lw_okq (⟨"NearMarksModel", "wide", "(I)I"⟩, 19) := ⟨⟨by decide +kernel, by decide +kernel⟩, List.mem_of_getElem? (i := 615) (by decide +kernel), List.mem_of_getElem? (i := 916) (by decide +kernel), List.mem_of_getElem? (i := 917) (by decide +kernel)⟩
def lw_privs_3 : List (MethodName × Nat) := [(⟨"NearMarksModel", "add", "(I)V"⟩, 19), (⟨"NearMarksModel", "lot", "()V"⟩, 19), (⟨"NearMarksModel", "draw", "(I)I"⟩, 19), (⟨"NearMarksModel", "become", "([J[II)V"⟩, 19), (⟨"NearMarksModel", "layGroups", "(I)I"⟩, 19), (⟨"NearMarksModel", "leastOf", "(I)I"⟩, 19), (⟨"NearMarksModel", "manyOf", "(I)I"⟩, 19), (⟨"NearMarksModel", "wide", "(I)I"⟩, 19)]
theorem lw_r3 : ∀ q ∈ lw_privs_3, lw_okq q := List.forall_mem_cons.mpr ⟨lw_p32, List.forall_mem_cons.mpr ⟨lw_p33, List.forall_mem_cons.mpr ⟨lw_p34, List.forall_mem_cons.mpr ⟨lw_p35, List.forall_mem_cons.mpr ⟨lw_p36, List.forall_mem_cons.mpr ⟨lw_p37, List.forall_mem_cons.mpr ⟨lw_p38, List.forall_mem_cons.mpr ⟨lw_p39, fun _ h => absurd h List.not_mem_nil⟩⟩⟩⟩⟩⟩⟩⟩
def lw_privs : List (MethodName × Nat) := lw_privs_1 ++ (lw_privs_2 ++ (lw_privs_3))
def lw_tbl : List Cond := k2_sels lw_privs ++ tables_1
theorem lw_privs_ok : ∀ q ∈ lw_privs, lw_okq q := by
  show ∀ q ∈ lw_privs_1 ++ (lw_privs_2 ++ (lw_privs_3)), lw_okq q
  exact List.forall_mem_append.mpr ⟨lw_r1, List.forall_mem_append.mpr ⟨lw_r2, lw_r3⟩⟩
end
section
/-! my words: those of the tables that go with a call -/
def gtbl : List Cond := lw_tbl.filter goodWord
theorem g_in {w : Cond} (h : w ∈ lw_tbl) (hg : goodWord w = true) : w ∈ gtbl := List.mem_filter.mpr ⟨h, hg⟩
theorem g_at {w : Cond} (i : Nat) (h : lw_tbl[i]? = some w) (hg : goodWord w = true) : w ∈ gtbl := g_in (List.mem_of_getElem? h) hg
def CR0 : String := "NearMarks$Book"
def CT0 : u_T := fun k => match k with
  | 0 => ("NearMarks$Book", "ones", "[I", true)
  | 1 => ("NearMarks$Book", "others", "[I", true)
  | 2 => ("NearMarks$Book", "distances", "[I", true)
  | _ => ("NearMarks$Book", "count", "I", false)
def CY0 : Nat → FieldType := fun k => match k with
  | 0 => .array .int
  | 1 => .array .int
  | 2 => .array .int
  | _ => .int
theorem CN0 : ∀ a, a < 4 → ∀ b, b < 4 → a ≠ b → (CT0 a).2.1 ≠ (CT0 b).2.1 := by decide +kernel
theorem CYok0 : ∀ k, k < 4 → parseFieldDescriptor (CT0 k).2.2.1 = some (CY0 k) := by decide +kernel
theorem CW0_0 : u_lay CR0 CT0 0 ∈ gtbl := g_at 226 (by decide +kernel) (by decide +kernel)
theorem CW0_1 : u_lay CR0 CT0 1 ∈ gtbl := g_at 228 (by decide +kernel) (by decide +kernel)
theorem CW0_2 : u_lay CR0 CT0 2 ∈ gtbl := g_at 230 (by decide +kernel) (by decide +kernel)
theorem CW0_3 : u_lay CR0 CT0 3 ∈ gtbl := g_at 232 (by decide +kernel) (by decide +kernel)
theorem CI0 : ∀ w ∈ u_ws CR0 CT0 4, w ∈ gtbl := by
  intro w hw
  obtain ⟨k, hk, rfl⟩ := List.mem_map.mp hw
  have hk := List.mem_range.mp hk
  match k, hk with
  | 0, _ => exact CW0_0
  | 1, _ => exact CW0_1
  | 2, _ => exact CW0_2
  | 3, _ => exact CW0_3
def CR1 : String := "NearMarks$Columns"
def CT1 : u_T := fun k => match k with
  | 0 => ("NearMarks$Columns", "sets", "[J", true)
  | _ => ("NearMarks$Columns", "all", "J", false)
def CY1 : Nat → FieldType := fun k => match k with
  | 0 => .array .long
  | _ => .long
theorem CN1 : ∀ a, a < 2 → ∀ b, b < 2 → a ≠ b → (CT1 a).2.1 ≠ (CT1 b).2.1 := by decide +kernel
theorem CYok1 : ∀ k, k < 2 → parseFieldDescriptor (CT1 k).2.2.1 = some (CY1 k) := by decide +kernel
theorem CW1_0 : u_lay CR1 CT1 0 ∈ gtbl := g_at 190 (by decide +kernel) (by decide +kernel)
theorem CW1_1 : u_lay CR1 CT1 1 ∈ gtbl := g_at 192 (by decide +kernel) (by decide +kernel)
theorem CI1 : ∀ w ∈ u_ws CR1 CT1 2, w ∈ gtbl := by
  intro w hw
  obtain ⟨k, hk, rfl⟩ := List.mem_map.mp hw
  have hk := List.mem_range.mp hk
  match k, hk with
  | 0, _ => exact CW1_0
  | 1, _ => exact CW1_1
def CR2 : String := "NearMarks$Draws"
def CT2 : u_T := fun k => match k with
  | _ => ("NearMarks$Draws", "state", "I", false)
def CY2 : Nat → FieldType := fun k => match k with
  | _ => .int
theorem CN2 : ∀ a, a < 1 → ∀ b, b < 1 → a ≠ b → (CT2 a).2.1 ≠ (CT2 b).2.1 := by decide +kernel
theorem CYok2 : ∀ k, k < 1 → parseFieldDescriptor (CT2 k).2.2.1 = some (CY2 k) := by decide +kernel
theorem CW2_0 : u_lay CR2 CT2 0 ∈ gtbl := g_at 243 (by decide +kernel) (by decide +kernel)
theorem CI2 : ∀ w ∈ u_ws CR2 CT2 1, w ∈ gtbl := by
  intro w hw
  obtain ⟨k, hk, rfl⟩ := List.mem_map.mp hw
  have hk := List.mem_range.mp hk
  match k, hk with
  | 0, _ => exact CW2_0
def CR3 : String := "NearMarks$Grouping"
def CT3 : u_T := fun k => match k with
  | 0 => ("NearMarks$Grouping", "sets", "[J", true)
  | 1 => ("NearMarks$Grouping", "close", "[J", true)
  | _ => ("NearMarks$Grouping", "count", "I", false)
def CY3 : Nat → FieldType := fun k => match k with
  | 0 => .array .long
  | 1 => .array .long
  | _ => .int
theorem CN3 : ∀ a, a < 3 → ∀ b, b < 3 → a ≠ b → (CT3 a).2.1 ≠ (CT3 b).2.1 := by decide +kernel
theorem CYok3 : ∀ k, k < 3 → parseFieldDescriptor (CT3 k).2.2.1 = some (CY3 k) := by decide +kernel
theorem CW3_0 : u_lay CR3 CT3 0 ∈ gtbl := g_at 175 (by decide +kernel) (by decide +kernel)
theorem CW3_1 : u_lay CR3 CT3 1 ∈ gtbl := g_at 177 (by decide +kernel) (by decide +kernel)
theorem CW3_2 : u_lay CR3 CT3 2 ∈ gtbl := g_at 179 (by decide +kernel) (by decide +kernel)
theorem CI3 : ∀ w ∈ u_ws CR3 CT3 3, w ∈ gtbl := by
  intro w hw
  obtain ⟨k, hk, rfl⟩ := List.mem_map.mp hw
  have hk := List.mem_range.mp hk
  match k, hk with
  | 0, _ => exact CW3_0
  | 1, _ => exact CW3_1
  | 2, _ => exact CW3_2
def CR4 : String := "NearMarks$Image"
def CT4 : u_T := fun k => match k with
  | 0 => ("NearMarks$Image", "state", "LNearMarks$State;", true)
  | 1 => ("NearMarks$Image", "draws", "I", false)
  | _ => ("NearMarks$Image", "kept", "Z", false)
def CY4 : Nat → FieldType := fun k => match k with
  | 0 => .object "NearMarks$State"
  | 1 => .int
  | _ => .boolean
theorem CN4 : ∀ a, a < 3 → ∀ b, b < 3 → a ≠ b → (CT4 a).2.1 ≠ (CT4 b).2.1 := by decide +kernel
theorem CYok4 : ∀ k, k < 3 → parseFieldDescriptor (CT4 k).2.2.1 = some (CY4 k) := by decide +kernel
theorem CW4_0 : u_lay CR4 CT4 0 ∈ gtbl := g_at 131 (by decide +kernel) (by decide +kernel)
theorem CW4_1 : u_lay CR4 CT4 1 ∈ gtbl := g_at 133 (by decide +kernel) (by decide +kernel)
theorem CW4_2 : u_lay CR4 CT4 2 ∈ gtbl := g_at 135 (by decide +kernel) (by decide +kernel)
theorem CI4 : ∀ w ∈ u_ws CR4 CT4 3, w ∈ gtbl := by
  intro w hw
  obtain ⟨k, hk, rfl⟩ := List.mem_map.mp hw
  have hk := List.mem_range.mp hk
  match k, hk with
  | 0, _ => exact CW4_0
  | 1, _ => exact CW4_1
  | 2, _ => exact CW4_2
def CR5 : String := "NearMarks$Parts"
def CT5 : u_T := fun k => match k with
  | 0 => ("NearMarks$Parts", "firsts", "[I", true)
  | 1 => ("NearMarks$Parts", "masks", "[J", true)
  | _ => ("NearMarks$Parts", "count", "I", false)
def CY5 : Nat → FieldType := fun k => match k with
  | 0 => .array .int
  | 1 => .array .long
  | _ => .int
theorem CN5 : ∀ a, a < 3 → ∀ b, b < 3 → a ≠ b → (CT5 a).2.1 ≠ (CT5 b).2.1 := by decide +kernel
theorem CYok5 : ∀ k, k < 3 → parseFieldDescriptor (CT5 k).2.2.1 = some (CY5 k) := by decide +kernel
theorem CW5_0 : u_lay CR5 CT5 0 ∈ gtbl := g_at 150 (by decide +kernel) (by decide +kernel)
theorem CW5_1 : u_lay CR5 CT5 1 ∈ gtbl := g_at 152 (by decide +kernel) (by decide +kernel)
theorem CW5_2 : u_lay CR5 CT5 2 ∈ gtbl := g_at 154 (by decide +kernel) (by decide +kernel)
theorem CI5 : ∀ w ∈ u_ws CR5 CT5 3, w ∈ gtbl := by
  intro w hw
  obtain ⟨k, hk, rfl⟩ := List.mem_map.mp hw
  have hk := List.mem_range.mp hk
  match k, hk with
  | 0, _ => exact CW5_0
  | 1, _ => exact CW5_1
  | 2, _ => exact CW5_2
def CR6 : String := "NearMarks$Past"
def CT6 : u_T := fun k => match k with
  | 0 => ("NearMarks$Past", "ring", "[LNearMarks$State;", true)
  | 1 => ("NearMarks$Past", "next", "I", false)
  | _ => ("NearMarks$Past", "count", "I", false)
def CY6 : Nat → FieldType := fun k => match k with
  | 0 => .array (.object "NearMarks$State")
  | 1 => .int
  | _ => .int
theorem CN6 : ∀ a, a < 3 → ∀ b, b < 3 → a ≠ b → (CT6 a).2.1 ≠ (CT6 b).2.1 := by decide +kernel
theorem CYok6 : ∀ k, k < 3 → parseFieldDescriptor (CT6 k).2.2.1 = some (CY6 k) := by decide +kernel
theorem CW6_0 : u_lay CR6 CT6 0 ∈ gtbl := g_at 111 (by decide +kernel) (by decide +kernel)
theorem CW6_1 : u_lay CR6 CT6 1 ∈ gtbl := g_at 113 (by decide +kernel) (by decide +kernel)
theorem CW6_2 : u_lay CR6 CT6 2 ∈ gtbl := g_at 115 (by decide +kernel) (by decide +kernel)
theorem CI6 : ∀ w ∈ u_ws CR6 CT6 3, w ∈ gtbl := by
  intro w hw
  obtain ⟨k, hk, rfl⟩ := List.mem_map.mp hw
  have hk := List.mem_range.mp hk
  match k, hk with
  | 0, _ => exact CW6_0
  | 1, _ => exact CW6_1
  | 2, _ => exact CW6_2
def CR7 : String := "NearMarks$Sightings"
def CT7 : u_T := fun k => match k with
  | 0 => ("NearMarks$Sightings", "from", "[J", true)
  | 1 => ("NearMarks$Sightings", "distances", "[I", true)
  | 2 => ("NearMarks$Sightings", "tally", "[I", true)
  | _ => ("NearMarks$Sightings", "count", "I", false)
def CY7 : Nat → FieldType := fun k => match k with
  | 0 => .array .long
  | 1 => .array .int
  | 2 => .array .int
  | _ => .int
theorem CN7 : ∀ a, a < 4 → ∀ b, b < 4 → a ≠ b → (CT7 a).2.1 ≠ (CT7 b).2.1 := by decide +kernel
theorem CYok7 : ∀ k, k < 4 → parseFieldDescriptor (CT7 k).2.2.1 = some (CY7 k) := by decide +kernel
theorem CW7_0 : u_lay CR7 CT7 0 ∈ gtbl := g_at 206 (by decide +kernel) (by decide +kernel)
theorem CW7_1 : u_lay CR7 CT7 1 ∈ gtbl := g_at 208 (by decide +kernel) (by decide +kernel)
theorem CW7_2 : u_lay CR7 CT7 2 ∈ gtbl := g_at 210 (by decide +kernel) (by decide +kernel)
theorem CW7_3 : u_lay CR7 CT7 3 ∈ gtbl := g_at 212 (by decide +kernel) (by decide +kernel)
theorem CI7 : ∀ w ∈ u_ws CR7 CT7 4, w ∈ gtbl := by
  intro w hw
  obtain ⟨k, hk, rfl⟩ := List.mem_map.mp hw
  have hk := List.mem_range.mp hk
  match k, hk with
  | 0, _ => exact CW7_0
  | 1, _ => exact CW7_1
  | 2, _ => exact CW7_2
  | 3, _ => exact CW7_3
def CR8 : String := "NearMarks$State"
def CT8 : u_T := fun k => match k with
  | 0 => ("NearMarks$State", "inHand", "J", false)
  | 1 => ("NearMarks$State", "begins", "J", false)
  | 2 => ("NearMarks$State", "count", "I", false)
  | 3 => ("NearMarks$State", "marks", "[J", true)
  | _ => ("NearMarks$State", "kinds", "[I", true)
def CY8 : Nat → FieldType := fun k => match k with
  | 0 => .long
  | 1 => .long
  | 2 => .int
  | 3 => .array .long
  | _ => .array .int
theorem CN8 : ∀ a, a < 5 → ∀ b, b < 5 → a ≠ b → (CT8 a).2.1 ≠ (CT8 b).2.1 := by decide +kernel
theorem CYok8 : ∀ k, k < 5 → parseFieldDescriptor (CT8 k).2.2.1 = some (CY8 k) := by decide +kernel
theorem CW8_0 : u_lay CR8 CT8 0 ∈ gtbl := g_at 85 (by decide +kernel) (by decide +kernel)
theorem CW8_1 : u_lay CR8 CT8 1 ∈ gtbl := g_at 87 (by decide +kernel) (by decide +kernel)
theorem CW8_2 : u_lay CR8 CT8 2 ∈ gtbl := g_at 89 (by decide +kernel) (by decide +kernel)
theorem CW8_3 : u_lay CR8 CT8 3 ∈ gtbl := g_at 91 (by decide +kernel) (by decide +kernel)
theorem CW8_4 : u_lay CR8 CT8 4 ∈ gtbl := g_at 93 (by decide +kernel) (by decide +kernel)
theorem CI8 : ∀ w ∈ u_ws CR8 CT8 5, w ∈ gtbl := by
  intro w hw
  obtain ⟨k, hk, rfl⟩ := List.mem_map.mp hw
  have hk := List.mem_range.mp hk
  match k, hk with
  | 0, _ => exact CW8_0
  | 1, _ => exact CW8_1
  | 2, _ => exact CW8_2
  | 3, _ => exact CW8_3
  | 4, _ => exact CW8_4
def CR9 : String := "NearMarks"
def CT9 : u_T := fun k => match k with
  | 0 => ("NearMarks", "now", "LNearMarks$State;", true)
  | 1 => ("NearMarks", "past", "LNearMarks$Past;", true)
  | 2 => ("NearMarks", "images", "[LNearMarks$Image;", true)
  | 3 => ("NearMarks", "parts", "LNearMarks$Parts;", true)
  | 4 => ("NearMarks", "trial", "LNearMarks$Parts;", true)
  | 5 => ("NearMarks", "grouping", "LNearMarks$Grouping;", true)
  | 6 => ("NearMarks", "columns", "LNearMarks$Columns;", true)
  | 7 => ("NearMarks", "sightings", "LNearMarks$Sightings;", true)
  | 8 => ("NearMarks", "book", "LNearMarks$Book;", true)
  | _ => ("NearMarks", "draws", "LNearMarks$Draws;", true)
def CY9 : Nat → FieldType := fun k => match k with
  | 0 => .object "NearMarks$State"
  | 1 => .object "NearMarks$Past"
  | 2 => .array (.object "NearMarks$Image")
  | 3 => .object "NearMarks$Parts"
  | 4 => .object "NearMarks$Parts"
  | 5 => .object "NearMarks$Grouping"
  | 6 => .object "NearMarks$Columns"
  | 7 => .object "NearMarks$Sightings"
  | 8 => .object "NearMarks$Book"
  | _ => .object "NearMarks$Draws"
theorem CN9 : ∀ a, a < 10 → ∀ b, b < 10 → a ≠ b → (CT9 a).2.1 ≠ (CT9 b).2.1 := by decide +kernel
theorem CYok9 : ∀ k, k < 10 → parseFieldDescriptor (CT9 k).2.2.1 = some (CY9 k) := by decide +kernel
theorem CW9_0 : u_lay CR9 CT9 0 ∈ gtbl := g_at 256 (by decide +kernel) (by decide +kernel)
theorem CW9_1 : u_lay CR9 CT9 1 ∈ gtbl := g_at 258 (by decide +kernel) (by decide +kernel)
theorem CW9_2 : u_lay CR9 CT9 2 ∈ gtbl := g_at 260 (by decide +kernel) (by decide +kernel)
theorem CW9_3 : u_lay CR9 CT9 3 ∈ gtbl := g_at 262 (by decide +kernel) (by decide +kernel)
theorem CW9_4 : u_lay CR9 CT9 4 ∈ gtbl := g_at 264 (by decide +kernel) (by decide +kernel)
theorem CW9_5 : u_lay CR9 CT9 5 ∈ gtbl := g_at 266 (by decide +kernel) (by decide +kernel)
theorem CW9_6 : u_lay CR9 CT9 6 ∈ gtbl := g_at 268 (by decide +kernel) (by decide +kernel)
theorem CW9_7 : u_lay CR9 CT9 7 ∈ gtbl := g_at 270 (by decide +kernel) (by decide +kernel)
theorem CW9_8 : u_lay CR9 CT9 8 ∈ gtbl := g_at 272 (by decide +kernel) (by decide +kernel)
theorem CW9_9 : u_lay CR9 CT9 9 ∈ gtbl := g_at 274 (by decide +kernel) (by decide +kernel)
theorem CI9 : ∀ w ∈ u_ws CR9 CT9 10, w ∈ gtbl := by
  intro w hw
  obtain ⟨k, hk, rfl⟩ := List.mem_map.mp hw
  have hk := List.mem_range.mp hk
  match k, hk with
  | 0, _ => exact CW9_0
  | 1, _ => exact CW9_1
  | 2, _ => exact CW9_2
  | 3, _ => exact CW9_3
  | 4, _ => exact CW9_4
  | 5, _ => exact CW9_5
  | 6, _ => exact CW9_6
  | 7, _ => exact CW9_7
  | 8, _ => exact CW9_8
  | 9, _ => exact CW9_9
def CR10 : String := "NearMarksModel"
def CT10 : u_T := fun k => match k with
  | 0 => ("NearMarksModel", "now", "[J", true)
  | 1 => ("NearMarksModel", "kinds", "[I", true)
  | 2 => ("NearMarksModel", "backs", "I", false)
  | 3 => ("NearMarksModel", "back", "[J", true)
  | 4 => ("NearMarksModel", "backKind", "[I", true)
  | 5 => ("NearMarksModel", "image", "[J", true)
  | 6 => ("NearMarksModel", "imageKind", "[I", true)
  | 7 => ("NearMarksModel", "imageSeed", "[I", true)
  | 8 => ("NearMarksModel", "isKept", "[Z", true)
  | 9 => ("NearMarksModel", "seed", "I", false)
  | 10 => ("NearMarksModel", "seen", "I", false)
  | 11 => ("NearMarksModel", "seenMark", "[J", true)
  | 12 => ("NearMarksModel", "seenApart", "[I", true)
  | 13 => ("NearMarksModel", "entries", "I", false)
  | 14 => ("NearMarksModel", "bookOne", "[I", true)
  | 15 => ("NearMarksModel", "bookOther", "[I", true)
  | 16 => ("NearMarksModel", "bookApart", "[I", true)
  | 17 => ("NearMarksModel", "groupOf", "[I", true)
  | _ => ("NearMarksModel", "many", "[I", true)
def CY10 : Nat → FieldType := fun k => match k with
  | 0 => .array .long
  | 1 => .array .int
  | 2 => .int
  | 3 => .array .long
  | 4 => .array .int
  | 5 => .array .long
  | 6 => .array .int
  | 7 => .array .int
  | 8 => .array .boolean
  | 9 => .int
  | 10 => .int
  | 11 => .array .long
  | 12 => .array .int
  | 13 => .int
  | 14 => .array .int
  | 15 => .array .int
  | 16 => .array .int
  | 17 => .array .int
  | _ => .array .int
theorem CN10 : ∀ a, a < 19 → ∀ b, b < 19 → a ≠ b → (CT10 a).2.1 ≠ (CT10 b).2.1 := by decide +kernel
theorem CYok10 : ∀ k, k < 19 → parseFieldDescriptor (CT10 k).2.2.1 = some (CY10 k) := by decide +kernel
theorem CW10_0 : u_lay CR10 CT10 0 ∈ gtbl := g_at 680 (by decide +kernel) (by decide +kernel)
theorem CW10_1 : u_lay CR10 CT10 1 ∈ gtbl := g_at 682 (by decide +kernel) (by decide +kernel)
theorem CW10_2 : u_lay CR10 CT10 2 ∈ gtbl := g_at 684 (by decide +kernel) (by decide +kernel)
theorem CW10_3 : u_lay CR10 CT10 3 ∈ gtbl := g_at 686 (by decide +kernel) (by decide +kernel)
theorem CW10_4 : u_lay CR10 CT10 4 ∈ gtbl := g_at 688 (by decide +kernel) (by decide +kernel)
theorem CW10_5 : u_lay CR10 CT10 5 ∈ gtbl := g_at 690 (by decide +kernel) (by decide +kernel)
theorem CW10_6 : u_lay CR10 CT10 6 ∈ gtbl := g_at 692 (by decide +kernel) (by decide +kernel)
theorem CW10_7 : u_lay CR10 CT10 7 ∈ gtbl := g_at 694 (by decide +kernel) (by decide +kernel)
theorem CW10_8 : u_lay CR10 CT10 8 ∈ gtbl := g_at 696 (by decide +kernel) (by decide +kernel)
theorem CW10_9 : u_lay CR10 CT10 9 ∈ gtbl := g_at 698 (by decide +kernel) (by decide +kernel)
theorem CW10_10 : u_lay CR10 CT10 10 ∈ gtbl := g_at 700 (by decide +kernel) (by decide +kernel)
theorem CW10_11 : u_lay CR10 CT10 11 ∈ gtbl := g_at 702 (by decide +kernel) (by decide +kernel)
theorem CW10_12 : u_lay CR10 CT10 12 ∈ gtbl := g_at 704 (by decide +kernel) (by decide +kernel)
theorem CW10_13 : u_lay CR10 CT10 13 ∈ gtbl := g_at 706 (by decide +kernel) (by decide +kernel)
theorem CW10_14 : u_lay CR10 CT10 14 ∈ gtbl := g_at 708 (by decide +kernel) (by decide +kernel)
theorem CW10_15 : u_lay CR10 CT10 15 ∈ gtbl := g_at 710 (by decide +kernel) (by decide +kernel)
theorem CW10_16 : u_lay CR10 CT10 16 ∈ gtbl := g_at 712 (by decide +kernel) (by decide +kernel)
theorem CW10_17 : u_lay CR10 CT10 17 ∈ gtbl := g_at 714 (by decide +kernel) (by decide +kernel)
theorem CW10_18 : u_lay CR10 CT10 18 ∈ gtbl := g_at 716 (by decide +kernel) (by decide +kernel)
theorem CI10 : ∀ w ∈ u_ws CR10 CT10 19, w ∈ gtbl := by
  intro w hw
  obtain ⟨k, hk, rfl⟩ := List.mem_map.mp hw
  have hk := List.mem_range.mp hk
  match k, hk with
  | 0, _ => exact CW10_0
  | 1, _ => exact CW10_1
  | 2, _ => exact CW10_2
  | 3, _ => exact CW10_3
  | 4, _ => exact CW10_4
  | 5, _ => exact CW10_5
  | 6, _ => exact CW10_6
  | 7, _ => exact CW10_7
  | 8, _ => exact CW10_8
  | 9, _ => exact CW10_9
  | 10, _ => exact CW10_10
  | 11, _ => exact CW10_11
  | 12, _ => exact CW10_12
  | 13, _ => exact CW10_13
  | 14, _ => exact CW10_14
  | 15, _ => exact CW10_15
  | 16, _ => exact CW10_16
  | 17, _ => exact CW10_17
  | 18, _ => exact CW10_18
  | q + 19, hq => exact absurd hq (by omega)
abbrev vcl : List vw_C := [(CR0, CT0, 4), (CR1, CT1, 2), (CR2, CT2, 1), (CR3, CT3, 3), (CR4, CT4, 3), (CR5, CT5, 3), (CR6, CT6, 3), (CR7, CT7, 4), (CR8, CT8, 5), (CR9, CT9, 10), (CR10, CT10, 19)]
/-! methods: name, code, its words -/
def y_Nm_init : MethodName := ⟨"NearMarks", "<init>", "()V"⟩
abbrev c_Nm_init : ByteArray := prog_1_method_1_code
theorem wc_Nm_init : Cond.code y_Nm_init c_Nm_init 2 none ∈ gtbl := g_at 59 (by decide +kernel) (by decide +kernel)
def y_St_init : MethodName := ⟨"NearMarks$State", "<init>", "()V"⟩
abbrev c_St_init : ByteArray := prog_11_method_1_code
theorem wc_St_init : Cond.code y_St_init c_St_init 1 none ∈ gtbl := g_at 67 (by decide +kernel) (by decide +kernel)
def y_Pa_init : MethodName := ⟨"NearMarks$Past", "<init>", "()V"⟩
abbrev c_Pa_init : ByteArray := prog_8_method_1_code
theorem wc_Pa_init : Cond.code y_Pa_init c_Pa_init 2 none ∈ gtbl := g_at 102 (by decide +kernel) (by decide +kernel)
def y_Im_init : MethodName := ⟨"NearMarks$Image", "<init>", "()V"⟩
abbrev c_Im_init : ByteArray := prog_6_method_1_code
theorem wc_Im_init : Cond.code y_Im_init c_Im_init 1 none ∈ gtbl := g_at 123 (by decide +kernel) (by decide +kernel)
def y_Pt_init : MethodName := ⟨"NearMarks$Parts", "<init>", "()V"⟩
abbrev c_Pt_init : ByteArray := prog_7_method_1_code
theorem wc_Pt_init : Cond.code y_Pt_init c_Pt_init 1 none ∈ gtbl := g_at 142 (by decide +kernel) (by decide +kernel)
def y_Pt_beginAt : MethodName := ⟨"NearMarks$Parts", "beginAt", "(J)V"⟩
abbrev c_Pt_beginAt : ByteArray := prog_7_method_3_code
theorem wc_Pt_beginAt : Cond.code y_Pt_beginAt c_Pt_beginAt 4 none ∈ gtbl := g_at 160 (by decide +kernel) (by decide +kernel)
def y_Nm_hasBit : MethodName := ⟨"NearMarks", "hasBit", "(JI)Z"⟩
abbrev c_Nm_hasBit : ByteArray := prog_1_method_36_code
theorem wc_Nm_hasBit : Cond.code y_Nm_hasBit c_Nm_hasBit 3 (some .boolean) ∈ gtbl := g_at 163 (by decide +kernel) (by decide +kernel)
def y_Gr_init : MethodName := ⟨"NearMarks$Grouping", "<init>", "()V"⟩
abbrev c_Gr_init : ByteArray := prog_5_method_1_code
theorem wc_Gr_init : Cond.code y_Gr_init c_Gr_init 1 none ∈ gtbl := g_at 168 (by decide +kernel) (by decide +kernel)
def y_Co_init : MethodName := ⟨"NearMarks$Columns", "<init>", "()V"⟩
abbrev c_Co_init : ByteArray := prog_3_method_1_code
theorem wc_Co_init : Cond.code y_Co_init c_Co_init 1 none ∈ gtbl := g_at 186 (by decide +kernel) (by decide +kernel)
def y_Si_init : MethodName := ⟨"NearMarks$Sightings", "<init>", "()V"⟩
abbrev c_Si_init : ByteArray := prog_10_method_1_code
theorem wc_Si_init : Cond.code y_Si_init c_Si_init 1 none ∈ gtbl := g_at 199 (by decide +kernel) (by decide +kernel)
def y_Bk_init : MethodName := ⟨"NearMarks$Book", "<init>", "()V"⟩
abbrev c_Bk_init : ByteArray := prog_2_method_1_code
theorem wc_Bk_init : Cond.code y_Bk_init c_Bk_init 1 none ∈ gtbl := g_at 219 (by decide +kernel) (by decide +kernel)
def y_Dr_init : MethodName := ⟨"NearMarks$Draws", "<init>", "()V"⟩
abbrev c_Dr_init : ByteArray := prog_4_method_1_code
theorem wc_Dr_init : Cond.code y_Dr_init c_Dr_init 1 none ∈ gtbl := g_at 239 (by decide +kernel) (by decide +kernel)
def y_Nm_told : MethodName := ⟨"NearMarks", "told", "(I)I"⟩
abbrev c_Nm_told : ByteArray := prog_1_method_2_code
theorem wc_Nm_told : Cond.code y_Nm_told c_Nm_told 2 (some .int) ∈ gtbl := g_at 280 (by decide +kernel) (by decide +kernel)
def y_Lg_bitCount : MethodName := ⟨"java/lang/Long", "bitCount", "(J)I"⟩
abbrev c_Lg_bitCount : ByteArray := prog_14_method_50_code
theorem wc_Lg_bitCount : Cond.code y_Lg_bitCount c_Lg_bitCount 2 (some .int) ∈ gtbl := g_at 283 (by decide +kernel) (by decide +kernel)
def y_St_numberOf : MethodName := ⟨"NearMarks$State", "numberOf", "(J)I"⟩
abbrev c_St_numberOf : ByteArray := prog_11_method_5_code
theorem wc_St_numberOf : Cond.code y_St_numberOf c_St_numberOf 4 (some .int) ∈ gtbl := g_at 290 (by decide +kernel) (by decide +kernel)
def y_Nm_countLookedAt : MethodName := ⟨"NearMarks", "countLookedAt", "(I)I"⟩
abbrev c_Nm_countLookedAt : ByteArray := prog_1_method_7_code
theorem wc_Nm_countLookedAt : Cond.code y_Nm_countLookedAt c_Nm_countLookedAt 4 (some .int) ∈ gtbl := g_at 294 (by decide +kernel) (by decide +kernel)
def y_St_fromHand : MethodName := ⟨"NearMarks$State", "fromHand", "(I)I"⟩
abbrev c_St_fromHand : ByteArray := prog_11_method_8_code
theorem wc_St_fromHand : Cond.code y_St_fromHand c_St_fromHand 2 (some .int) ∈ gtbl := g_at 298 (by decide +kernel) (by decide +kernel)
def y_Nm_distanceOf : MethodName := ⟨"NearMarks", "distanceOf", "(JJ)I"⟩
abbrev c_Nm_distanceOf : ByteArray := prog_1_method_37_code
theorem wc_Nm_distanceOf : Cond.code y_Nm_distanceOf c_Nm_distanceOf 4 (some .int) ∈ gtbl := g_at 301 (by decide +kernel) (by decide +kernel)
def y_Pt_anyAlike : MethodName := ⟨"NearMarks$Parts", "anyAlike", "(J)Z"⟩
abbrev c_Pt_anyAlike : ByteArray := prog_7_method_6_code
theorem wc_Pt_anyAlike : Cond.code y_Pt_anyAlike c_Pt_anyAlike 4 (some .boolean) ∈ gtbl := g_at 305 (by decide +kernel) (by decide +kernel)
def y_Pt_reach : MethodName := ⟨"NearMarks$Parts", "reach", "()I"⟩
abbrev c_Pt_reach : ByteArray := prog_7_method_2_code
theorem wc_Pt_reach : Cond.code y_Pt_reach c_Pt_reach 1 (some .int) ∈ gtbl := g_at 309 (by decide +kernel) (by decide +kernel)
def y_St_byDistance : MethodName := ⟨"NearMarks$State", "byDistance", "(I)I"⟩
abbrev c_St_byDistance : ByteArray := prog_11_method_10_code
theorem wc_St_byDistance : Cond.code y_St_byDistance c_St_byDistance 3 (some .int) ∈ gtbl := g_at 313 (by decide +kernel) (by decide +kernel)
def y_St_countNearerThan : MethodName := ⟨"NearMarks$State", "countNearerThan", "(I)I"⟩
abbrev c_St_countNearerThan : ByteArray := prog_11_method_11_code
theorem wc_St_countNearerThan : Cond.code y_St_countNearerThan c_St_countNearerThan 6 (some .int) ∈ gtbl := g_at 317 (by decide +kernel) (by decide +kernel)
def y_Nm_leastDistance : MethodName := ⟨"NearMarks", "leastDistance", "()I"⟩
abbrev c_Nm_leastDistance : ByteArray := prog_1_method_8_code
theorem wc_Nm_leastDistance : Cond.code y_Nm_leastDistance c_Nm_leastDistance 2 (some .int) ∈ gtbl := g_at 322 (by decide +kernel) (by decide +kernel)
def y_St_has : MethodName := ⟨"NearMarks$State", "has", "(I)Z"⟩
abbrev c_St_has : ByteArray := prog_11_method_3_code
theorem wc_St_has : Cond.code y_St_has c_St_has 2 (some .boolean) ∈ gtbl := g_at 326 (by decide +kernel) (by decide +kernel)
def y_Co_countDead : MethodName := ⟨"NearMarks$Columns", "countDead", "(LNearMarks$State;)I"⟩
abbrev c_Co_countDead : ByteArray := prog_3_method_4_code
theorem wc_Co_countDead : Cond.code y_Co_countDead c_Co_countDead 4 (some .int) ∈ gtbl := g_at 330 (by decide +kernel) (by decide +kernel)
def y_Co_read : MethodName := ⟨"NearMarks$Columns", "read", "(LNearMarks$State;)V"⟩
abbrev c_Co_read : ByteArray := prog_3_method_2_code
theorem wc_Co_read : Cond.code y_Co_read c_Co_read 4 none ∈ gtbl := g_at 334 (by decide +kernel) (by decide +kernel)
def y_Co_isDead : MethodName := ⟨"NearMarks$Columns", "isDead", "(I)Z"⟩
abbrev c_Co_isDead : ByteArray := prog_3_method_3_code
theorem wc_Co_isDead : Cond.code y_Co_isDead c_Co_isDead 2 (some .boolean) ∈ gtbl := g_at 338 (by decide +kernel) (by decide +kernel)
def y_Co_firstPair : MethodName := ⟨"NearMarks$Columns", "firstPair", "(LNearMarks$State;)I"⟩
abbrev c_Co_firstPair : ByteArray := prog_3_method_5_code
theorem wc_Co_firstPair : Cond.code y_Co_firstPair c_Co_firstPair 4 (some .int) ∈ gtbl := g_at 342 (by decide +kernel) (by decide +kernel)
def y_Co_goTogether : MethodName := ⟨"NearMarks$Columns", "goTogether", "(II)Z"⟩
abbrev c_Co_goTogether : ByteArray := prog_3_method_6_code
theorem wc_Co_goTogether : Cond.code y_Co_goTogether c_Co_goTogether 3 (some .boolean) ∈ gtbl := g_at 346 (by decide +kernel) (by decide +kernel)
def y_Si_fitting : MethodName := ⟨"NearMarks$Sightings", "fitting", "(LNearMarks$State;)J"⟩
abbrev c_Si_fitting : ByteArray := prog_10_method_4_code
theorem wc_Si_fitting : Cond.code y_Si_fitting c_Si_fitting 5 (some .long) ∈ gtbl := g_at 350 (by decide +kernel) (by decide +kernel)
def y_Si_fits : MethodName := ⟨"NearMarks$Sightings", "fits", "(J)Z"⟩
abbrev c_Si_fits : ByteArray := prog_10_method_3_code
theorem wc_Si_fits : Cond.code y_Si_fits c_Si_fits 4 (some .boolean) ∈ gtbl := g_at 354 (by decide +kernel) (by decide +kernel)
def y_Si_leastFitting : MethodName := ⟨"NearMarks$Sightings", "leastFitting", "(LNearMarks$State;)I"⟩
abbrev c_Si_leastFitting : ByteArray := prog_10_method_5_code
theorem wc_Si_leastFitting : Cond.code y_Si_leastFitting c_Si_leastFitting 2 (some .int) ∈ gtbl := g_at 359 (by decide +kernel) (by decide +kernel)
def y_Nm_leastOf : MethodName := ⟨"NearMarks", "leastOf", "(J)I"⟩
abbrev c_Nm_leastOf : ByteArray := prog_1_method_35_code
theorem wc_Nm_leastOf : Cond.code y_Nm_leastOf c_Nm_leastOf 3 (some .int) ∈ gtbl := g_at 363 (by decide +kernel) (by decide +kernel)
def y_Si_bestToAsk : MethodName := ⟨"NearMarks$Sightings", "bestToAsk", "(LNearMarks$State;)I"⟩
abbrev c_Si_bestToAsk : ByteArray := prog_10_method_6_code
theorem wc_Si_bestToAsk : Cond.code y_Si_bestToAsk c_Si_bestToAsk 8 (some .int) ∈ gtbl := g_at 368 (by decide +kernel) (by decide +kernel)
def y_Si_greatestLeft : MethodName := ⟨"NearMarks$Sightings", "greatestLeft", "(LNearMarks$State;JI)I"⟩
abbrev c_Si_greatestLeft : ByteArray := prog_10_method_7_code
theorem wc_Si_greatestLeft : Cond.code y_Si_greatestLeft c_Si_greatestLeft 8 (some .int) ∈ gtbl := g_at 373 (by decide +kernel) (by decide +kernel)
def y_St_between : MethodName := ⟨"NearMarks$State", "between", "(II)I"⟩
abbrev c_St_between : ByteArray := prog_11_method_9_code
theorem wc_St_between : Cond.code y_St_between c_St_between 3 (some .int) ∈ gtbl := g_at 378 (by decide +kernel) (by decide +kernel)
def y_Ma_max : MethodName := ⟨"java/lang/Math", "max", "(II)I"⟩
abbrev c_Ma_max : ByteArray := prog_15_method_65_code
theorem wc_Ma_max : Cond.code y_Ma_max c_Ma_max 2 (some .int) ∈ gtbl := g_at 381 (by decide +kernel) (by decide +kernel)
def y_Bk_firstWrong : MethodName := ⟨"NearMarks$Book", "firstWrong", "(LNearMarks$State;)I"⟩
abbrev c_Bk_firstWrong : ByteArray := prog_2_method_3_code
theorem wc_Bk_firstWrong : Cond.code y_Bk_firstWrong c_Bk_firstWrong 3 (some .int) ∈ gtbl := g_at 385 (by decide +kernel) (by decide +kernel)
def y_Bk_isRight : MethodName := ⟨"NearMarks$Book", "isRight", "(LNearMarks$State;I)Z"⟩
abbrev c_Bk_isRight : ByteArray := prog_2_method_4_code
theorem wc_Bk_isRight : Cond.code y_Bk_isRight c_Bk_isRight 3 (some .boolean) ∈ gtbl := g_at 389 (by decide +kernel) (by decide +kernel)
def y_St_hasBoth : MethodName := ⟨"NearMarks$State", "hasBoth", "(II)Z"⟩
abbrev c_St_hasBoth : ByteArray := prog_11_method_4_code
theorem wc_St_hasBoth : Cond.code y_St_hasBoth c_St_hasBoth 3 (some .boolean) ∈ gtbl := g_at 393 (by decide +kernel) (by decide +kernel)
def y_Nm_hand : MethodName := ⟨"NearMarks", "hand", "()J"⟩
abbrev c_Nm_hand : ByteArray := prog_1_method_3_code
theorem wc_Nm_hand : Cond.code y_Nm_hand c_Nm_hand 1 (some .long) ∈ gtbl := g_at 400 (by decide +kernel) (by decide +kernel)
def y_Nm_markAt : MethodName := ⟨"NearMarks", "markAt", "(I)J"⟩
abbrev c_Nm_markAt : ByteArray := prog_1_method_4_code
theorem wc_Nm_markAt : Cond.code y_Nm_markAt c_Nm_markAt 2 (some .long) ∈ gtbl := g_at 404 (by decide +kernel) (by decide +kernel)
def y_Nm_mark : MethodName := ⟨"NearMarks", "mark", "(II)I"⟩
abbrev c_Nm_mark : ByteArray := prog_1_method_5_code
theorem wc_Nm_mark : Cond.code y_Nm_mark c_Nm_mark 3 (some .int) ∈ gtbl := g_at 408 (by decide +kernel) (by decide +kernel)
def y_Nm_countOthersWithin : MethodName := ⟨"NearMarks", "countOthersWithin", "(II)I"⟩
abbrev c_Nm_countOthersWithin : ByteArray := prog_1_method_9_code
theorem wc_Nm_countOthersWithin : Cond.code y_Nm_countOthersWithin c_Nm_countOthersWithin 5 (some .int) ∈ gtbl := g_at 413 (by decide +kernel) (by decide +kernel)
def y_Nm_part : MethodName := ⟨"NearMarks", "part", "(II)I"⟩
abbrev c_Nm_part : ByteArray := prog_1_method_6_code
theorem wc_Nm_part : Cond.code y_Nm_part c_Nm_part 3 (some .int) ∈ gtbl := g_at 418 (by decide +kernel) (by decide +kernel)
def y_Nm_countWithPart : MethodName := ⟨"NearMarks", "countWithPart", "(J)I"⟩
abbrev c_Nm_countWithPart : ByteArray := prog_1_method_10_code
theorem wc_Nm_countWithPart : Cond.code y_Nm_countWithPart c_Nm_countWithPart 5 (some .int) ∈ gtbl := g_at 422 (by decide +kernel) (by decide +kernel)
def y_Nm_type : MethodName := ⟨"NearMarks", "type", "(II)I"⟩
abbrev c_Nm_type : ByteArray := prog_1_method_11_code
theorem wc_Nm_type : Cond.code y_Nm_type c_Nm_type 3 (some .int) ∈ gtbl := g_at 426 (by decide +kernel) (by decide +kernel)
def y_Pa_remember : MethodName := ⟨"NearMarks$Past", "remember", "(LNearMarks$State;)V"⟩
abbrev c_Pa_remember : ByteArray := prog_8_method_2_code
theorem wc_Pa_remember : Cond.code y_Pa_remember c_Pa_remember 2 none ∈ gtbl := g_at 430 (by decide +kernel) (by decide +kernel)
def y_St_become : MethodName := ⟨"NearMarks$State", "become", "(LNearMarks$State;)V"⟩
abbrev c_St_become : ByteArray := prog_11_method_2_code
theorem wc_St_become : Cond.code y_St_become c_St_become 3 none ∈ gtbl := g_at 434 (by decide +kernel) (by decide +kernel)
def y_Ma_min : MethodName := ⟨"java/lang/Math", "min", "(II)I"⟩
abbrev c_Ma_min : ByteArray := prog_15_method_69_code
theorem wc_Ma_min : Cond.code y_Ma_min c_Ma_min 2 (some .int) ∈ gtbl := g_at 437 (by decide +kernel) (by decide +kernel)
def y_Pi_withRow : MethodName := ⟨"NearMarks$Picture", "withRow", "(JII)J"⟩
abbrev c_Pi_withRow : ByteArray := prog_9_method_3_code
theorem wc_Pi_withRow : Cond.code y_Pi_withRow c_Pi_withRow 5 (some .long) ∈ gtbl := g_at 440 (by decide +kernel) (by decide +kernel)
def y_Nm_flip : MethodName := ⟨"NearMarks", "flip", "(I)I"⟩
abbrev c_Nm_flip : ByteArray := prog_1_method_12_code
theorem wc_Nm_flip : Cond.code y_Nm_flip c_Nm_flip 2 (some .int) ∈ gtbl := g_at 446 (by decide +kernel) (by decide +kernel)
def y_Nm_turn : MethodName := ⟨"NearMarks", "turn", "()I"⟩
abbrev c_Nm_turn : ByteArray := prog_1_method_13_code
theorem wc_Nm_turn : Cond.code y_Nm_turn c_Nm_turn 1 (some .int) ∈ gtbl := g_at 450 (by decide +kernel) (by decide +kernel)
def y_Pi_turned : MethodName := ⟨"NearMarks$Picture", "turned", "(J)J"⟩
abbrev c_Pi_turned : ByteArray := prog_9_method_7_code
theorem wc_Pi_turned : Cond.code y_Pi_turned c_Pi_turned 6 (some .long) ∈ gtbl := g_at 453 (by decide +kernel) (by decide +kernel)
def y_Pi_hasDot : MethodName := ⟨"NearMarks$Picture", "hasDot", "(JII)Z"⟩
abbrev c_Pi_hasDot : ByteArray := prog_9_method_5_code
theorem wc_Pi_hasDot : Cond.code y_Pi_hasDot c_Pi_hasDot 4 (some .boolean) ∈ gtbl := g_at 456 (by decide +kernel) (by decide +kernel)
def y_Pi_dotAt : MethodName := ⟨"NearMarks$Picture", "dotAt", "(II)J"⟩
abbrev c_Pi_dotAt : ByteArray := prog_9_method_6_code
theorem wc_Pi_dotAt : Cond.code y_Pi_dotAt c_Pi_dotAt 2 (some .long) ∈ gtbl := g_at 460 (by decide +kernel) (by decide +kernel)
def y_Pi_firstRow : MethodName := ⟨"NearMarks$Picture", "firstRow", "(J)I"⟩
abbrev c_Pi_firstRow : ByteArray := prog_9_method_2_code
theorem wc_Pi_firstRow : Cond.code y_Pi_firstRow c_Pi_firstRow 2 (some .int) ∈ gtbl := g_at 463 (by decide +kernel) (by decide +kernel)
def y_Nm_mirror : MethodName := ⟨"NearMarks", "mirror", "()I"⟩
abbrev c_Nm_mirror : ByteArray := prog_1_method_14_code
theorem wc_Nm_mirror : Cond.code y_Nm_mirror c_Nm_mirror 1 (some .int) ∈ gtbl := g_at 467 (by decide +kernel) (by decide +kernel)
def y_Pi_mirrored : MethodName := ⟨"NearMarks$Picture", "mirrored", "(J)J"⟩
abbrev c_Pi_mirrored : ByteArray := prog_9_method_8_code
theorem wc_Pi_mirrored : Cond.code y_Pi_mirrored c_Pi_mirrored 6 (some .long) ∈ gtbl := g_at 470 (by decide +kernel) (by decide +kernel)
def y_Nm_hold : MethodName := ⟨"NearMarks", "hold", "(I)I"⟩
abbrev c_Nm_hold : ByteArray := prog_1_method_15_code
theorem wc_Nm_hold : Cond.code y_Nm_hold c_Nm_hold 3 (some .int) ∈ gtbl := g_at 474 (by decide +kernel) (by decide +kernel)
def y_Nm_put : MethodName := ⟨"NearMarks", "put", "(I)I"⟩
abbrev c_Nm_put : ByteArray := prog_1_method_16_code
theorem wc_Nm_put : Cond.code y_Nm_put c_Nm_put 2 (some .int) ∈ gtbl := g_at 478 (by decide +kernel) (by decide +kernel)
def y_Nm_isKind : MethodName := ⟨"NearMarks", "isKind", "(I)Z"⟩
abbrev c_Nm_isKind : ByteArray := prog_1_method_22_code
theorem wc_Nm_isKind : Cond.code y_Nm_isKind c_Nm_isKind 1 (some .boolean) ∈ gtbl := g_at 481 (by decide +kernel) (by decide +kernel)
def y_St_addHand : MethodName := ⟨"NearMarks$State", "addHand", "(I)V"⟩
abbrev c_St_addHand : ByteArray := prog_11_method_6_code
theorem wc_St_addHand : Cond.code y_St_addHand c_St_addHand 2 none ∈ gtbl := g_at 487 (by decide +kernel) (by decide +kernel)
def y_Nm_cut : MethodName := ⟨"NearMarks", "cut", "(J)I"⟩
abbrev c_Nm_cut : ByteArray := prog_1_method_17_code
theorem wc_Nm_cut : Cond.code y_Nm_cut c_Nm_cut 3 (some .int) ∈ gtbl := g_at 491 (by decide +kernel) (by decide +kernel)
def y_Nm_take : MethodName := ⟨"NearMarks", "take", "(I)I"⟩
abbrev c_Nm_take : ByteArray := prog_1_method_18_code
theorem wc_Nm_take : Cond.code y_Nm_take c_Nm_take 2 (some .int) ∈ gtbl := g_at 495 (by decide +kernel) (by decide +kernel)
def y_St_remove : MethodName := ⟨"NearMarks$State", "remove", "(I)V"⟩
abbrev c_St_remove : ByteArray := prog_11_method_7_code
theorem wc_St_remove : Cond.code y_St_remove c_St_remove 3 none ∈ gtbl := g_at 499 (by decide +kernel) (by decide +kernel)
def y_Nm_kind : MethodName := ⟨"NearMarks", "kind", "(II)I"⟩
abbrev c_Nm_kind : ByteArray := prog_1_method_19_code
theorem wc_Nm_kind : Cond.code y_Nm_kind c_Nm_kind 4 (some .int) ∈ gtbl := g_at 503 (by decide +kernel) (by decide +kernel)
def y_Nm_drift : MethodName := ⟨"NearMarks", "drift", "(I)I"⟩
abbrev c_Nm_drift : ByteArray := prog_1_method_20_code
theorem wc_Nm_drift : Cond.code y_Nm_drift c_Nm_drift 3 (some .int) ∈ gtbl := g_at 507 (by decide +kernel) (by decide +kernel)
def y_Nm_changeHandByDraws : MethodName := ⟨"NearMarks", "changeHandByDraws", "()V"⟩
abbrev c_Nm_changeHandByDraws : ByteArray := prog_1_method_23_code
theorem wc_Nm_changeHandByDraws : Cond.code y_Nm_changeHandByDraws c_Nm_changeHandByDraws 2 none ∈ gtbl := g_at 511 (by decide +kernel) (by decide +kernel)
def y_Dr_next : MethodName := ⟨"NearMarks$Draws", "next", "(I)I"⟩
abbrev c_Dr_next : ByteArray := prog_4_method_2_code
theorem wc_Dr_next : Cond.code y_Dr_next c_Dr_next 2 (some .int) ∈ gtbl := g_at 515 (by decide +kernel) (by decide +kernel)
def y_Pi_ofEqualRows : MethodName := ⟨"NearMarks$Picture", "ofEqualRows", "(I)J"⟩
abbrev c_Pi_ofEqualRows : ByteArray := prog_9_method_4_code
theorem wc_Pi_ofEqualRows : Cond.code y_Pi_ofEqualRows c_Pi_ofEqualRows 4 (some .long) ∈ gtbl := g_at 523 (by decide +kernel) (by decide +kernel)
def y_Nm_putIfUnlikeAll : MethodName := ⟨"NearMarks", "putIfUnlikeAll", "()V"⟩
abbrev c_Nm_putIfUnlikeAll : ByteArray := prog_1_method_24_code
theorem wc_Nm_putIfUnlikeAll : Cond.code y_Nm_putIfUnlikeAll c_Nm_putIfUnlikeAll 1 none ∈ gtbl := g_at 528 (by decide +kernel) (by decide +kernel)
def y_Nm_undo : MethodName := ⟨"NearMarks", "undo", "(I)I"⟩
abbrev c_Nm_undo : ByteArray := prog_1_method_21_code
theorem wc_Nm_undo : Cond.code y_Nm_undo c_Nm_undo 2 (some .int) ∈ gtbl := g_at 532 (by decide +kernel) (by decide +kernel)
def y_Pa_bringBack : MethodName := ⟨"NearMarks$Past", "bringBack", "(ILNearMarks$State;)V"⟩
abbrev c_Pa_bringBack : ByteArray := prog_8_method_3_code
theorem wc_Pa_bringBack : Cond.code y_Pa_bringBack c_Pa_bringBack 3 none ∈ gtbl := g_at 536 (by decide +kernel) (by decide +kernel)
def y_Nm_near : MethodName := ⟨"NearMarks", "near", "(I)J"⟩
abbrev c_Nm_near : ByteArray := prog_1_method_25_code
theorem wc_Nm_near : Cond.code y_Nm_near c_Nm_near 5 (some .long) ∈ gtbl := g_at 540 (by decide +kernel) (by decide +kernel)
def y_Nm_isDistance : MethodName := ⟨"NearMarks", "isDistance", "(I)Z"⟩
abbrev c_Nm_isDistance : ByteArray := prog_1_method_32_code
theorem wc_Nm_isDistance : Cond.code y_Nm_isDistance c_Nm_isDistance 1 (some .boolean) ∈ gtbl := g_at 543 (by decide +kernel) (by decide +kernel)
def y_Nm_isNear : MethodName := ⟨"NearMarks", "isNear", "(II)Z"⟩
abbrev c_Nm_isNear : ByteArray := prog_1_method_33_code
theorem wc_Nm_isNear : Cond.code y_Nm_isNear c_Nm_isNear 4 (some .boolean) ∈ gtbl := g_at 547 (by decide +kernel) (by decide +kernel)
def y_Nm_nearest : MethodName := ⟨"NearMarks", "nearest", "(I)I"⟩
abbrev c_Nm_nearest : ByteArray := prog_1_method_26_code
theorem wc_Nm_nearest : Cond.code y_Nm_nearest c_Nm_nearest 2 (some .int) ∈ gtbl := g_at 551 (by decide +kernel) (by decide +kernel)
def y_Nm_apart : MethodName := ⟨"NearMarks", "apart", "(II)I"⟩
abbrev c_Nm_apart : ByteArray := prog_1_method_27_code
theorem wc_Nm_apart : Cond.code y_Nm_apart c_Nm_apart 3 (some .int) ∈ gtbl := g_at 555 (by decide +kernel) (by decide +kernel)
def y_Nm_groups : MethodName := ⟨"NearMarks", "groups", "(I)I"⟩
abbrev c_Nm_groups : ByteArray := prog_1_method_28_code
theorem wc_Nm_groups : Cond.code y_Nm_groups c_Nm_groups 2 (some .int) ∈ gtbl := g_at 560 (by decide +kernel) (by decide +kernel)
def y_Gr_join : MethodName := ⟨"NearMarks$Grouping", "join", "(LNearMarks$State;I)V"⟩
abbrev c_Gr_join : ByteArray := prog_5_method_3_code
theorem wc_Gr_join : Cond.code y_Gr_join c_Gr_join 6 none ∈ gtbl := g_at 564 (by decide +kernel) (by decide +kernel)
def y_Gr_findClose : MethodName := ⟨"NearMarks$Grouping", "findClose", "(LNearMarks$State;I)V"⟩
abbrev c_Gr_findClose : ByteArray := prog_5_method_4_code
theorem wc_Gr_findClose : Cond.code y_Gr_findClose c_Gr_findClose 5 none ∈ gtbl := g_at 568 (by decide +kernel) (by decide +kernel)
def y_Gr_spread : MethodName := ⟨"NearMarks$Grouping", "spread", "(II)J"⟩
abbrev c_Gr_spread : ByteArray := prog_5_method_5_code
theorem wc_Gr_spread : Cond.code y_Gr_spread c_Gr_spread 9 (some .long) ∈ gtbl := g_at 574 (by decide +kernel) (by decide +kernel)
def y_Nm_group : MethodName := ⟨"NearMarks", "group", "(III)I"⟩
abbrev c_Nm_group : ByteArray := prog_1_method_29_code
theorem wc_Nm_group : Cond.code y_Nm_group c_Nm_group 4 (some .int) ∈ gtbl := g_at 578 (by decide +kernel) (by decide +kernel)
def y_Gr_has : MethodName := ⟨"NearMarks$Grouping", "has", "(I)Z"⟩
abbrev c_Gr_has : ByteArray := prog_5_method_2_code
theorem wc_Gr_has : Cond.code y_Gr_has c_Gr_has 2 (some .boolean) ∈ gtbl := g_at 582 (by decide +kernel) (by decide +kernel)
def y_St_widthOf : MethodName := ⟨"NearMarks$State", "widthOf", "(J)I"⟩
abbrev c_St_widthOf : ByteArray := prog_11_method_12_code
theorem wc_St_widthOf : Cond.code y_St_widthOf c_St_widthOf 6 (some .int) ∈ gtbl := g_at 587 (by decide +kernel) (by decide +kernel)
def y_Nm_middle : MethodName := ⟨"NearMarks", "middle", "(II)J"⟩
abbrev c_Nm_middle : ByteArray := prog_1_method_30_code
theorem wc_Nm_middle : Cond.code y_Nm_middle c_Nm_middle 3 (some .long) ∈ gtbl := g_at 594 (by decide +kernel) (by decide +kernel)
def y_Co_mostOf : MethodName := ⟨"NearMarks$Columns", "mostOf", "(LNearMarks$State;J)J"⟩
abbrev c_Co_mostOf : ByteArray := prog_3_method_7_code
theorem wc_Co_mostOf : Cond.code y_Co_mostOf c_Co_mostOf 8 (some .long) ∈ gtbl := g_at 598 (by decide +kernel) (by decide +kernel)
def y_Nm_fewest : MethodName := ⟨"NearMarks", "fewest", "(II)I"⟩
abbrev c_Nm_fewest : ByteArray := prog_1_method_31_code
theorem wc_Nm_fewest : Cond.code y_Nm_fewest c_Nm_fewest 7 (some .int) ∈ gtbl := g_at 603 (by decide +kernel) (by decide +kernel)
def y_Pt_beginEvenly : MethodName := ⟨"NearMarks$Parts", "beginEvenly", "(II)V"⟩
abbrev c_Pt_beginEvenly : ByteArray := prog_7_method_4_code
theorem wc_Pt_beginEvenly : Cond.code y_Pt_beginEvenly c_Pt_beginEvenly 9 none ∈ gtbl := g_at 607 (by decide +kernel) (by decide +kernel)
def y_Pt_turnOf : MethodName := ⟨"NearMarks$Parts", "turnOf", "(III)I"⟩
abbrev c_Pt_turnOf : ByteArray := prog_7_method_5_code
theorem wc_Pt_turnOf : Cond.code y_Pt_turnOf c_Pt_turnOf 3 (some .int) ∈ gtbl := g_at 611 (by decide +kernel) (by decide +kernel)
def y_Nm_countAllLooks : MethodName := ⟨"NearMarks", "countAllLooks", "(LNearMarks$Parts;)I"⟩
abbrev c_Nm_countAllLooks : ByteArray := prog_1_method_34_code
theorem wc_Nm_countAllLooks : Cond.code y_Nm_countAllLooks c_Nm_countAllLooks 5 (some .int) ∈ gtbl := g_at 616 (by decide +kernel) (by decide +kernel)
def y_Nm_see : MethodName := ⟨"NearMarks", "see", "(I)I"⟩
abbrev c_Nm_see : ByteArray := prog_1_method_38_code
theorem wc_Nm_see : Cond.code y_Nm_see c_Nm_see 2 (some .int) ∈ gtbl := g_at 620 (by decide +kernel) (by decide +kernel)
def y_Si_add : MethodName := ⟨"NearMarks$Sightings", "add", "(JI)V"⟩
abbrev c_Si_add : ByteArray := prog_10_method_2_code
theorem wc_Si_add : Cond.code y_Si_add c_Si_add 4 none ∈ gtbl := g_at 624 (by decide +kernel) (by decide +kernel)
def y_Nm_write : MethodName := ⟨"NearMarks", "write", "(III)I"⟩
abbrev c_Nm_write : ByteArray := prog_1_method_39_code
theorem wc_Nm_write : Cond.code y_Nm_write c_Nm_write 4 (some .int) ∈ gtbl := g_at 628 (by decide +kernel) (by decide +kernel)
def y_Bk_add : MethodName := ⟨"NearMarks$Book", "add", "(III)V"⟩
abbrev c_Bk_add : ByteArray := prog_2_method_2_code
theorem wc_Bk_add : Cond.code y_Bk_add c_Bk_add 4 none ∈ gtbl := g_at 632 (by decide +kernel) (by decide +kernel)
def y_Nm_tear : MethodName := ⟨"NearMarks", "tear", "()I"⟩
abbrev c_Nm_tear : ByteArray := prog_1_method_40_code
theorem wc_Nm_tear : Cond.code y_Nm_tear c_Nm_tear 2 (some .int) ∈ gtbl := g_at 636 (by decide +kernel) (by decide +kernel)
def y_Nm_seed : MethodName := ⟨"NearMarks", "seed", "(I)I"⟩
abbrev c_Nm_seed : ByteArray := prog_1_method_41_code
theorem wc_Nm_seed : Cond.code y_Nm_seed c_Nm_seed 3 (some .int) ∈ gtbl := g_at 640 (by decide +kernel) (by decide +kernel)
def y_Nm_keep : MethodName := ⟨"NearMarks", "keep", "(I)I"⟩
abbrev c_Nm_keep : ByteArray := prog_1_method_42_code
theorem wc_Nm_keep : Cond.code y_Nm_keep c_Nm_keep 2 (some .int) ∈ gtbl := g_at 644 (by decide +kernel) (by decide +kernel)
def y_Pa_forget : MethodName := ⟨"NearMarks$Past", "forget", "()V"⟩
abbrev c_Pa_forget : ByteArray := prog_8_method_4_code
theorem wc_Pa_forget : Cond.code y_Pa_forget c_Pa_forget 1 none ∈ gtbl := g_at 649 (by decide +kernel) (by decide +kernel)
def y_Nm_goBack : MethodName := ⟨"NearMarks", "goBack", "(I)I"⟩
abbrev c_Nm_goBack : ByteArray := prog_1_method_43_code
theorem wc_Nm_goBack : Cond.code y_Nm_goBack c_Nm_goBack 2 (some .int) ∈ gtbl := g_at 653 (by decide +kernel) (by decide +kernel)
def y_Mo_init : MethodName := ⟨"NearMarksModel", "<init>", "()V"⟩
abbrev c_Mo_init : ByteArray := prog_13_method_1_code
theorem wc_Mo_init : Cond.code y_Mo_init c_Mo_init 1 none ∈ gtbl := g_at 658 (by decide +kernel) (by decide +kernel)
def y_Mo_told : MethodName := ⟨"NearMarksModel", "told", "(I)I"⟩
abbrev c_Mo_told : ByteArray := prog_13_method_24_code
theorem wc_Mo_told : Cond.code y_Mo_told c_Mo_told 2 (some .int) ∈ gtbl := g_at 723 (by decide +kernel) (by decide +kernel)
def y_Mo_marks : MethodName := ⟨"NearMarksModel", "marks", "()I"⟩
abbrev c_Mo_marks : ByteArray := prog_13_method_5_code
theorem wc_Mo_marks : Cond.code y_Mo_marks c_Mo_marks 1 (some .int) ∈ gtbl := g_at 727 (by decide +kernel) (by decide +kernel)
def y_Mo_parts : MethodName := ⟨"NearMarksModel", "parts", "()I"⟩
abbrev c_Mo_parts : ByteArray := prog_13_method_9_code
theorem wc_Mo_parts : Cond.code y_Mo_parts c_Mo_parts 1 (some .int) ∈ gtbl := g_at 731 (by decide +kernel) (by decide +kernel)
def y_Mo_ones : MethodName := ⟨"NearMarksModel", "ones", "(J)I"⟩
abbrev c_Mo_ones : ByteArray := prog_13_method_3_code
theorem wc_Mo_ones : Cond.code y_Mo_ones c_Mo_ones 4 (some .int) ∈ gtbl := g_at 734 (by decide +kernel) (by decide +kernel)
def y_Mo_like : MethodName := ⟨"NearMarksModel", "like", "(J)I"⟩
abbrev c_Mo_like : ByteArray := prog_13_method_11_code
theorem wc_Mo_like : Cond.code y_Mo_like c_Mo_like 5 (some .int) ∈ gtbl := g_at 738 (by decide +kernel) (by decide +kernel)
def y_Mo_own : MethodName := ⟨"NearMarksModel", "own", "(I)J"⟩
abbrev c_Mo_own : ByteArray := prog_13_method_6_code
theorem wc_Mo_own : Cond.code y_Mo_own c_Mo_own 2 (some .long) ∈ gtbl := g_at 742 (by decide +kernel) (by decide +kernel)
def y_Mo_looked : MethodName := ⟨"NearMarksModel", "looked", "(Z)I"⟩
abbrev c_Mo_looked : ByteArray := prog_13_method_12_code
theorem wc_Mo_looked : Cond.code y_Mo_looked c_Mo_looked 5 (some .int) ∈ gtbl := g_at 746 (by decide +kernel) (by decide +kernel)
def y_Mo_isLooked : MethodName := ⟨"NearMarksModel", "isLooked", "(JJJ)Z"⟩
abbrev c_Mo_isLooked : ByteArray := prog_13_method_10_code
theorem wc_Mo_isLooked : Cond.code y_Mo_isLooked c_Mo_isLooked 11 (some .boolean) ∈ gtbl := g_at 749 (by decide +kernel) (by decide +kernel)
def y_Mo_has : MethodName := ⟨"NearMarksModel", "has", "(JI)Z"⟩
abbrev c_Mo_has : ByteArray := prog_13_method_4_code
theorem wc_Mo_has : Cond.code y_Mo_has c_Mo_has 3 (some .boolean) ∈ gtbl := g_at 752 (by decide +kernel) (by decide +kernel)
def y_Mo_off : MethodName := ⟨"NearMarksModel", "off", "(I)I"⟩
abbrev c_Mo_off : ByteArray := prog_13_method_8_code
theorem wc_Mo_off : Cond.code y_Mo_off c_Mo_off 2 (some .int) ∈ gtbl := g_at 756 (by decide +kernel) (by decide +kernel)
def y_Mo_first : MethodName := ⟨"NearMarksModel", "first", "(Z)I"⟩
abbrev c_Mo_first : ByteArray := prog_13_method_23_code
theorem wc_Mo_first : Cond.code y_Mo_first c_Mo_first 3 (some .int) ∈ gtbl := g_at 760 (by decide +kernel) (by decide +kernel)
def y_Mo_nearestOf : MethodName := ⟨"NearMarksModel", "nearestOf", "(I)I"⟩
abbrev c_Mo_nearestOf : ByteArray := prog_13_method_14_code
theorem wc_Mo_nearestOf : Cond.code y_Mo_nearestOf c_Mo_nearestOf 4 (some .int) ∈ gtbl := g_at 764 (by decide +kernel) (by decide +kernel)
def y_Mo_ahead : MethodName := ⟨"NearMarksModel", "ahead", "(I)I"⟩
abbrev c_Mo_ahead : ByteArray := prog_13_method_13_code
theorem wc_Mo_ahead : Cond.code y_Mo_ahead c_Mo_ahead 4 (some .int) ∈ gtbl := g_at 768 (by decide +kernel) (by decide +kernel)
def y_Mo_dead : MethodName := ⟨"NearMarksModel", "dead", "()I"⟩
abbrev c_Mo_dead : ByteArray := prog_13_method_16_code
theorem wc_Mo_dead : Cond.code y_Mo_dead c_Mo_dead 3 (some .int) ∈ gtbl := g_at 772 (by decide +kernel) (by decide +kernel)
def y_Mo_isDead : MethodName := ⟨"NearMarksModel", "isDead", "(I)Z"⟩
abbrev c_Mo_isDead : ByteArray := prog_13_method_15_code
theorem wc_Mo_isDead : Cond.code y_Mo_isDead c_Mo_isDead 4 (some .boolean) ∈ gtbl := g_at 776 (by decide +kernel) (by decide +kernel)
def y_Mo_together : MethodName := ⟨"NearMarksModel", "together", "()I"⟩
abbrev c_Mo_together : ByteArray := prog_13_method_18_code
theorem wc_Mo_together : Cond.code y_Mo_together c_Mo_together 3 (some .int) ∈ gtbl := g_at 780 (by decide +kernel) (by decide +kernel)
def y_Mo_areTogether : MethodName := ⟨"NearMarksModel", "areTogether", "(II)Z"⟩
abbrev c_Mo_areTogether : ByteArray := prog_13_method_17_code
theorem wc_Mo_areTogether : Cond.code y_Mo_areTogether c_Mo_areTogether 7 (some .boolean) ∈ gtbl := g_at 784 (by decide +kernel) (by decide +kernel)
def y_Mo_could : MethodName := ⟨"NearMarksModel", "could", "(Z)I"⟩
abbrev c_Mo_could : ByteArray := prog_13_method_20_code
theorem wc_Mo_could : Cond.code y_Mo_could c_Mo_could 5 (some .int) ∈ gtbl := g_at 788 (by decide +kernel) (by decide +kernel)
def y_Mo_couldBe : MethodName := ⟨"NearMarksModel", "couldBe", "(I)Z"⟩
abbrev c_Mo_couldBe : ByteArray := prog_13_method_19_code
theorem wc_Mo_couldBe : Cond.code y_Mo_couldBe c_Mo_couldBe 4 (some .boolean) ∈ gtbl := g_at 792 (by decide +kernel) (by decide +kernel)
def y_Mo_asked : MethodName := ⟨"NearMarksModel", "asked", "()I"⟩
abbrev c_Mo_asked : ByteArray := prog_13_method_21_code
theorem wc_Mo_asked : Cond.code y_Mo_asked c_Mo_asked 7 (some .int) ∈ gtbl := g_at 796 (by decide +kernel) (by decide +kernel)
def y_Mo_wrong : MethodName := ⟨"NearMarksModel", "wrong", "()I"⟩
abbrev c_Mo_wrong : ByteArray := prog_13_method_22_code
theorem wc_Mo_wrong : Cond.code y_Mo_wrong c_Mo_wrong 3 (some .int) ∈ gtbl := g_at 800 (by decide +kernel) (by decide +kernel)
def y_Mo_isMark : MethodName := ⟨"NearMarksModel", "isMark", "(I)Z"⟩
abbrev c_Mo_isMark : ByteArray := prog_13_method_7_code
theorem wc_Mo_isMark : Cond.code y_Mo_isMark c_Mo_isMark 2 (some .boolean) ∈ gtbl := g_at 804 (by decide +kernel) (by decide +kernel)
def y_Mo_in : MethodName := ⟨"NearMarksModel", "in", "(JJJ)Z"⟩
abbrev c_Mo_in : ByteArray := prog_13_method_2_code
theorem wc_Mo_in : Cond.code y_Mo_in c_Mo_in 6 (some .boolean) ∈ gtbl := g_at 807 (by decide +kernel) (by decide +kernel)
def y_Mo_hand : MethodName := ⟨"NearMarksModel", "hand", "()J"⟩
abbrev c_Mo_hand : ByteArray := prog_13_method_25_code
theorem wc_Mo_hand : Cond.code y_Mo_hand c_Mo_hand 1 (some .long) ∈ gtbl := g_at 812 (by decide +kernel) (by decide +kernel)
def y_Mo_markAt : MethodName := ⟨"NearMarksModel", "markAt", "(I)J"⟩
abbrev c_Mo_markAt : ByteArray := prog_13_method_26_code
theorem wc_Mo_markAt : Cond.code y_Mo_markAt c_Mo_markAt 2 (some .long) ∈ gtbl := g_at 816 (by decide +kernel) (by decide +kernel)
def y_Mo_mark : MethodName := ⟨"NearMarksModel", "mark", "(II)I"⟩
abbrev c_Mo_mark : ByteArray := prog_13_method_27_code
theorem wc_Mo_mark : Cond.code y_Mo_mark c_Mo_mark 5 (some .int) ∈ gtbl := g_at 820 (by decide +kernel) (by decide +kernel)
def y_Mo_part : MethodName := ⟨"NearMarksModel", "part", "(II)I"⟩
abbrev c_Mo_part : ByteArray := prog_13_method_31_code
theorem wc_Mo_part : Cond.code y_Mo_part c_Mo_part 3 (some .int) ∈ gtbl := g_at 825 (by decide +kernel) (by decide +kernel)
def y_Mo_beginOf : MethodName := ⟨"NearMarksModel", "beginOf", "(I)I"⟩
abbrev c_Mo_beginOf : ByteArray := prog_13_method_28_code
theorem wc_Mo_beginOf : Cond.code y_Mo_beginOf c_Mo_beginOf 4 (some .int) ∈ gtbl := g_at 829 (by decide +kernel) (by decide +kernel)
def y_Mo_endOf : MethodName := ⟨"NearMarksModel", "endOf", "(I)I"⟩
abbrev c_Mo_endOf : ByteArray := prog_13_method_29_code
theorem wc_Mo_endOf : Cond.code y_Mo_endOf c_Mo_endOf 2 (some .int) ∈ gtbl := g_at 833 (by decide +kernel) (by decide +kernel)
def y_Mo_have : MethodName := ⟨"NearMarksModel", "have", "(I)I"⟩
abbrev c_Mo_have : ByteArray := prog_13_method_30_code
theorem wc_Mo_have : Cond.code y_Mo_have c_Mo_have 6 (some .int) ∈ gtbl := g_at 837 (by decide +kernel) (by decide +kernel)
def y_Mo_type : MethodName := ⟨"NearMarksModel", "type", "(II)I"⟩
abbrev c_Mo_type : ByteArray := prog_13_method_35_code
theorem wc_Mo_type : Cond.code y_Mo_type c_Mo_type 3 (some .int) ∈ gtbl := g_at 841 (by decide +kernel) (by decide +kernel)
def y_Mo_note : MethodName := ⟨"NearMarksModel", "note", "()V"⟩
abbrev c_Mo_note : ByteArray := prog_13_method_32_code
theorem wc_Mo_note : Cond.code y_Mo_note c_Mo_note 2 none ∈ gtbl := g_at 847 (by decide +kernel) (by decide +kernel)
def y_Mo_lay : MethodName := ⟨"NearMarksModel", "lay", "([J[II)V"⟩
abbrev c_Mo_lay : ByteArray := prog_13_method_33_code
theorem wc_Mo_lay : Cond.code y_Mo_lay c_Mo_lay 5 none ∈ gtbl := g_at 851 (by decide +kernel) (by decide +kernel)
def y_Mo_flip : MethodName := ⟨"NearMarksModel", "flip", "(I)I"⟩
abbrev c_Mo_flip : ByteArray := prog_13_method_36_code
theorem wc_Mo_flip : Cond.code y_Mo_flip c_Mo_flip 2 (some .int) ∈ gtbl := g_at 856 (by decide +kernel) (by decide +kernel)
def y_Mo_turn : MethodName := ⟨"NearMarksModel", "turn", "()I"⟩
abbrev c_Mo_turn : ByteArray := prog_13_method_38_code
theorem wc_Mo_turn : Cond.code y_Mo_turn c_Mo_turn 4 (some .int) ∈ gtbl := g_at 861 (by decide +kernel) (by decide +kernel)
def y_Mo_row : MethodName := ⟨"NearMarksModel", "row", "()I"⟩
abbrev c_Mo_row : ByteArray := prog_13_method_37_code
theorem wc_Mo_row : Cond.code y_Mo_row c_Mo_row 1 (some .int) ∈ gtbl := g_at 865 (by decide +kernel) (by decide +kernel)
def y_Mo_mirror : MethodName := ⟨"NearMarksModel", "mirror", "()I"⟩
abbrev c_Mo_mirror : ByteArray := prog_13_method_39_code
theorem wc_Mo_mirror : Cond.code y_Mo_mirror c_Mo_mirror 4 (some .int) ∈ gtbl := g_at 869 (by decide +kernel) (by decide +kernel)
def y_Mo_hold : MethodName := ⟨"NearMarksModel", "hold", "(I)I"⟩
abbrev c_Mo_hold : ByteArray := prog_13_method_40_code
theorem wc_Mo_hold : Cond.code y_Mo_hold c_Mo_hold 3 (some .int) ∈ gtbl := g_at 873 (by decide +kernel) (by decide +kernel)
def y_Mo_put : MethodName := ⟨"NearMarksModel", "put", "(I)I"⟩
abbrev c_Mo_put : ByteArray := prog_13_method_42_code
theorem wc_Mo_put : Cond.code y_Mo_put c_Mo_put 2 (some .int) ∈ gtbl := g_at 877 (by decide +kernel) (by decide +kernel)
def y_Mo_add : MethodName := ⟨"NearMarksModel", "add", "(I)V"⟩
abbrev c_Mo_add : ByteArray := prog_13_method_41_code
theorem wc_Mo_add : Cond.code y_Mo_add c_Mo_add 2 none ∈ gtbl := g_at 884 (by decide +kernel) (by decide +kernel)
def y_Mo_cut : MethodName := ⟨"NearMarksModel", "cut", "(J)I"⟩
abbrev c_Mo_cut : ByteArray := prog_13_method_43_code
theorem wc_Mo_cut : Cond.code y_Mo_cut c_Mo_cut 3 (some .int) ∈ gtbl := g_at 888 (by decide +kernel) (by decide +kernel)
def y_Mo_take : MethodName := ⟨"NearMarksModel", "take", "(I)I"⟩
abbrev c_Mo_take : ByteArray := prog_13_method_44_code
theorem wc_Mo_take : Cond.code y_Mo_take c_Mo_take 4 (some .int) ∈ gtbl := g_at 892 (by decide +kernel) (by decide +kernel)
def y_Mo_kind : MethodName := ⟨"NearMarksModel", "kind", "(II)I"⟩
abbrev c_Mo_kind : ByteArray := prog_13_method_45_code
theorem wc_Mo_kind : Cond.code y_Mo_kind c_Mo_kind 4 (some .int) ∈ gtbl := g_at 896 (by decide +kernel) (by decide +kernel)
def y_Mo_drift : MethodName := ⟨"NearMarksModel", "drift", "(I)I"⟩
abbrev c_Mo_drift : ByteArray := prog_13_method_48_code
theorem wc_Mo_drift : Cond.code y_Mo_drift c_Mo_drift 3 (some .int) ∈ gtbl := g_at 900 (by decide +kernel) (by decide +kernel)
def y_Mo_lot : MethodName := ⟨"NearMarksModel", "lot", "()V"⟩
abbrev c_Mo_lot : ByteArray := prog_13_method_47_code
theorem wc_Mo_lot : Cond.code y_Mo_lot c_Mo_lot 8 none ∈ gtbl := g_at 905 (by decide +kernel) (by decide +kernel)
def y_Mo_draw : MethodName := ⟨"NearMarksModel", "draw", "(I)I"⟩
abbrev c_Mo_draw : ByteArray := prog_13_method_46_code
theorem wc_Mo_draw : Cond.code y_Mo_draw c_Mo_draw 2 (some .int) ∈ gtbl := g_at 909 (by decide +kernel) (by decide +kernel)
def y_Mo_undo : MethodName := ⟨"NearMarksModel", "undo", "(I)I"⟩
abbrev c_Mo_undo : ByteArray := prog_13_method_49_code
theorem wc_Mo_undo : Cond.code y_Mo_undo c_Mo_undo 2 (some .int) ∈ gtbl := g_at 917 (by decide +kernel) (by decide +kernel)
def y_Mo_become : MethodName := ⟨"NearMarksModel", "become", "([J[II)V"⟩
abbrev c_Mo_become : ByteArray := prog_13_method_34_code
theorem wc_Mo_become : Cond.code y_Mo_become c_Mo_become 5 none ∈ gtbl := g_at 921 (by decide +kernel) (by decide +kernel)
def y_Mo_near : MethodName := ⟨"NearMarksModel", "near", "(I)J"⟩
abbrev c_Mo_near : ByteArray := prog_13_method_50_code
theorem wc_Mo_near : Cond.code y_Mo_near c_Mo_near 7 (some .long) ∈ gtbl := g_at 925 (by decide +kernel) (by decide +kernel)
def y_Mo_nearest : MethodName := ⟨"NearMarksModel", "nearest", "(I)I"⟩
abbrev c_Mo_nearest : ByteArray := prog_13_method_51_code
theorem wc_Mo_nearest : Cond.code y_Mo_nearest c_Mo_nearest 2 (some .int) ∈ gtbl := g_at 930 (by decide +kernel) (by decide +kernel)
def y_Mo_apart : MethodName := ⟨"NearMarksModel", "apart", "(II)I"⟩
abbrev c_Mo_apart : ByteArray := prog_13_method_52_code
theorem wc_Mo_apart : Cond.code y_Mo_apart c_Mo_apart 3 (some .int) ∈ gtbl := g_at 934 (by decide +kernel) (by decide +kernel)
def y_Mo_groups : MethodName := ⟨"NearMarksModel", "groups", "(I)I"⟩
abbrev c_Mo_groups : ByteArray := prog_13_method_55_code
theorem wc_Mo_groups : Cond.code y_Mo_groups c_Mo_groups 2 (some .int) ∈ gtbl := g_at 938 (by decide +kernel) (by decide +kernel)
def y_Mo_layGroups : MethodName := ⟨"NearMarksModel", "layGroups", "(I)I"⟩
abbrev c_Mo_layGroups : ByteArray := prog_13_method_53_code
theorem wc_Mo_layGroups : Cond.code y_Mo_layGroups c_Mo_layGroups 5 (some .int) ∈ gtbl := g_at 942 (by decide +kernel) (by decide +kernel)
def y_Mo_group : MethodName := ⟨"NearMarksModel", "group", "(III)I"⟩
abbrev c_Mo_group : ByteArray := prog_13_method_58_code
theorem wc_Mo_group : Cond.code y_Mo_group c_Mo_group 5 (some .int) ∈ gtbl := g_at 946 (by decide +kernel) (by decide +kernel)
def y_Mo_leastOf : MethodName := ⟨"NearMarksModel", "leastOf", "(I)I"⟩
abbrev c_Mo_leastOf : ByteArray := prog_13_method_54_code
theorem wc_Mo_leastOf : Cond.code y_Mo_leastOf c_Mo_leastOf 4 (some .int) ∈ gtbl := g_at 950 (by decide +kernel) (by decide +kernel)
def y_Mo_manyOf : MethodName := ⟨"NearMarksModel", "manyOf", "(I)I"⟩
abbrev c_Mo_manyOf : ByteArray := prog_13_method_56_code
theorem wc_Mo_manyOf : Cond.code y_Mo_manyOf c_Mo_manyOf 4 (some .int) ∈ gtbl := g_at 954 (by decide +kernel) (by decide +kernel)
def y_Mo_wide : MethodName := ⟨"NearMarksModel", "wide", "(I)I"⟩
abbrev c_Mo_wide : ByteArray := prog_13_method_57_code
theorem wc_Mo_wide : Cond.code y_Mo_wide c_Mo_wide 6 (some .int) ∈ gtbl := g_at 958 (by decide +kernel) (by decide +kernel)
def y_Mo_middle : MethodName := ⟨"NearMarksModel", "middle", "(II)J"⟩
abbrev c_Mo_middle : ByteArray := prog_13_method_59_code
theorem wc_Mo_middle : Cond.code y_Mo_middle c_Mo_middle 9 (some .long) ∈ gtbl := g_at 962 (by decide +kernel) (by decide +kernel)
def y_Mo_fewest : MethodName := ⟨"NearMarksModel", "fewest", "(II)I"⟩
abbrev c_Mo_fewest : ByteArray := prog_13_method_62_code
theorem wc_Mo_fewest : Cond.code y_Mo_fewest c_Mo_fewest 9 (some .int) ∈ gtbl := g_at 966 (by decide +kernel) (by decide +kernel)
def y_Mo_cutBy : MethodName := ⟨"NearMarksModel", "cutBy", "(II)J"⟩
abbrev c_Mo_cutBy : ByteArray := prog_13_method_61_code
theorem wc_Mo_cutBy : Cond.code y_Mo_cutBy c_Mo_cutBy 6 (some .long) ∈ gtbl := g_at 970 (by decide +kernel) (by decide +kernel)
def y_Mo_isMore : MethodName := ⟨"NearMarksModel", "isMore", "(III)Z"⟩
abbrev c_Mo_isMore : ByteArray := prog_13_method_60_code
theorem wc_Mo_isMore : Cond.code y_Mo_isMore c_Mo_isMore 5 (some .boolean) ∈ gtbl := g_at 973 (by decide +kernel) (by decide +kernel)
def y_Mo_see : MethodName := ⟨"NearMarksModel", "see", "(I)I"⟩
abbrev c_Mo_see : ByteArray := prog_13_method_63_code
theorem wc_Mo_see : Cond.code y_Mo_see c_Mo_see 2 (some .int) ∈ gtbl := g_at 977 (by decide +kernel) (by decide +kernel)
def y_Mo_write : MethodName := ⟨"NearMarksModel", "write", "(III)I"⟩
abbrev c_Mo_write : ByteArray := prog_13_method_64_code
theorem wc_Mo_write : Cond.code y_Mo_write c_Mo_write 4 (some .int) ∈ gtbl := g_at 981 (by decide +kernel) (by decide +kernel)
def y_Mo_tear : MethodName := ⟨"NearMarksModel", "tear", "()I"⟩
abbrev c_Mo_tear : ByteArray := prog_13_method_65_code
theorem wc_Mo_tear : Cond.code y_Mo_tear c_Mo_tear 2 (some .int) ∈ gtbl := g_at 985 (by decide +kernel) (by decide +kernel)
def y_Mo_seed : MethodName := ⟨"NearMarksModel", "seed", "(I)I"⟩
abbrev c_Mo_seed : ByteArray := prog_13_method_66_code
theorem wc_Mo_seed : Cond.code y_Mo_seed c_Mo_seed 3 (some .int) ∈ gtbl := g_at 989 (by decide +kernel) (by decide +kernel)
def y_Mo_keep : MethodName := ⟨"NearMarksModel", "keep", "(I)I"⟩
abbrev c_Mo_keep : ByteArray := prog_13_method_67_code
theorem wc_Mo_keep : Cond.code y_Mo_keep c_Mo_keep 2 (some .int) ∈ gtbl := g_at 993 (by decide +kernel) (by decide +kernel)
def y_Mo_goBack : MethodName := ⟨"NearMarksModel", "goBack", "(I)I"⟩
abbrev c_Mo_goBack : ByteArray := prog_13_method_68_code
theorem wc_Mo_goBack : Cond.code y_Mo_goBack c_Mo_goBack 2 (some .int) ∈ gtbl := g_at 997 (by decide +kernel) (by decide +kernel)
end
section
/-! MY LAYER. One world of 111 cells behind one base address (NearMarks object and all that it holds: 0 .. 94; the reference: 95 .. 110), what they hold told by two maps: mi (ints, booleans: fields by slot, arrays by index) and ml (longs). References never change behind the constructors. -/
def OM : Type := Nat × va_G × (Nat → ClassId)
def ads (o : OM) (i : Nat) : Nat := o.1 + i
abbrev MI : Type := Nat → Nat → Int32
abbrev ML : Type := Nat → Nat → Int64
def uf {α : Type} (f : Nat → α) (k : Nat) (v : α) : Nat → α := fun b => if b = k then v else f b
def u2 {α : Type} (f : Nat → Nat → α) (i k : Nat) (v : α) : Nat → Nat → α := fun a => if a = i then uf (f i) k v else f a
theorem u2_s {α : Type} (f : Nat → Nat → α) (i k : Nat) (v : α) : u2 f i k v i = uf (f i) k v := by simp [u2]
theorem u2_n {α : Type} (f : Nat → Nat → α) {i j : Nat} (k : Nat) (v : α) (h : j ≠ i) : u2 f i k v j = f j := by simp [u2, h]
theorem uf_s {α : Type} (f : Nat → α) (k : Nat) (v : α) : uf f k v k = v := by simp [uf]
theorem uf_n {α : Type} (f : Nat → α) {k j : Nat} (v : α) (h : j ≠ k) : uf f k v j = f j := by simp [uf, h]
def aI (o : OM) (n : Nat) (f : Nat → Int32) : va_E := .inl (o.2.2 0, n, .inl f)
def aJ (o : OM) (n : Nat) (g : Nat → Int64) : va_E := .inl (o.2.2 1, n, .inr (.inl g))
def aZ (o : OM) (n : Nat) (f : Nat → Int32) : va_E := .inl (o.2.2 2, n, .inl f)
def aIm (o : OM) (n : Nat) (f : Nat → Option Nat) : va_E := .inl (o.2.2 3, n, .inr (.inr (.inr (.inr f))))
def aSt (o : OM) (n : Nat) (f : Nat → Option Nat) : va_E := .inl (o.2.2 4, n, .inr (.inr (.inr (.inr f))))
/-- fields of each class: what is held by slot, references by the cells' order -/
def fSt (o : OM) (i : Nat) (f : Nat → Int32) (g : Nat → Int64) : List Value := [.long (g 0), .long (g 1), .int (f 2), .ref (ads o (i + 1)), .ref (ads o (i + 2))]
def fPt (o : OM) (i : Nat) (f : Nat → Int32) (_ : Nat → Int64) : List Value := [.ref (ads o (i + 1)), .ref (ads o (i + 2)), .int (f 2)]
def fIm (o : OM) (i : Nat) (f : Nat → Int32) (_ : Nat → Int64) : List Value := [.ref (ads o (i + 1)), .int (f 1), .int (f 2)]
def fPa (o : OM) (i : Nat) (f : Nat → Int32) (_ : Nat → Int64) : List Value := [.ref (ads o (i + 1)), .int (f 1), .int (f 2)]
def fGr (o : OM) (i : Nat) (f : Nat → Int32) (_ : Nat → Int64) : List Value := [.ref (ads o (i + 1)), .ref (ads o (i + 2)), .int (f 2)]
def fCo (o : OM) (i : Nat) (_ : Nat → Int32) (g : Nat → Int64) : List Value := [.ref (ads o (i + 1)), .long (g 1)]
def fSi (o : OM) (i : Nat) (f : Nat → Int32) (_ : Nat → Int64) : List Value := [.ref (ads o (i + 1)), .ref (ads o (i + 2)), .ref (ads o (i + 3)), .int (f 3)]
def fBk (o : OM) (i : Nat) (f : Nat → Int32) (_ : Nat → Int64) : List Value := [.ref (ads o (i + 1)), .ref (ads o (i + 2)), .ref (ads o (i + 3)), .int (f 3)]
def fDr (_ : OM) (_ : Nat) (f : Nat → Int32) (_ : Nat → Int64) : List Value := [.int (f 0)]
def fNm (o : OM) (_ : Nat) (_ : Nat → Int32) (_ : Nat → Int64) : List Value := [.ref (ads o 1), .ref (ads o 4), .ref (ads o 66), .ref (ads o 75), .ref (ads o 78), .ref (ads o 81), .ref (ads o 84), .ref (ads o 86), .ref (ads o 90), .ref (ads o 94)]
def fMo (o : OM) (_ : Nat) (f : Nat → Int32) (_ : Nat → Int64) : List Value := [.ref (ads o 96), .ref (ads o 97), .int (f 2), .ref (ads o 98), .ref (ads o 99), .ref (ads o 100), .ref (ads o 101), .ref (ads o 102), .ref (ads o 103), .int (f 9), .int (f 10), .ref (ads o 104), .ref (ads o 105), .int (f 13), .ref (ads o 106), .ref (ads o 107), .ref (ads o 108), .ref (ads o 109), .ref (ads o 110)]
def cE (o : OM) (f : Nat → Int32) (g : Nat → Int64) (i : Nat) : va_E :=
  if 6 ≤ i ∧ i < 66 then (if i % 3 = 0 then .inr (8, fSt o i f g) else if i % 3 = 1 then aJ o 40 g else aI o 40 f)
  else if i = 0 then .inr (9, fNm o i f g) else if i = 1 then .inr (8, fSt o i f g) else if i = 2 then aJ o 40 g else if i = 3 then aI o 40 f
  else if i = 4 then .inr (6, fPa o i f g) else if i = 5 then aSt o 20 (fun k => some (ads o (6 + 3 * k)))
  else if i = 66 then aIm o 2 (fun k => some (ads o (67 + 4 * k)))
  else if i = 67 then .inr (4, fIm o i f g) else if i = 68 then .inr (8, fSt o i f g) else if i = 69 then aJ o 40 g else if i = 70 then aI o 40 f
  else if i = 71 then .inr (4, fIm o i f g) else if i = 72 then .inr (8, fSt o i f g) else if i = 73 then aJ o 40 g else if i = 74 then aI o 40 f
  else if i = 75 then .inr (5, fPt o i f g) else if i = 76 then aI o 8 f else if i = 77 then aJ o 8 g
  else if i = 78 then .inr (5, fPt o i f g) else if i = 79 then aI o 8 f else if i = 80 then aJ o 8 g
  else if i = 81 then .inr (3, fGr o i f g) else if i = 82 then aJ o 40 g else if i = 83 then aJ o 40 g
  else if i = 84 then .inr (1, fCo o i f g) else if i = 85 then aJ o 64 g
  else if i = 86 then .inr (7, fSi o i f g) else if i = 87 then aJ o 6 g else if i = 88 then aI o 6 f else if i = 89 then aI o 65 f
  else if i = 90 then .inr (0, fBk o i f g) else if i = 91 then aI o 20 f else if i = 92 then aI o 20 f else if i = 93 then aI o 20 f
  else if i = 94 then .inr (2, fDr o i f g)
  else if i = 95 then .inr (10, fMo o i f g) else if i = 96 then aJ o 43 g else if i = 97 then aI o 40 f else if i = 98 then aJ o 860 g else if i = 99 then aI o 800 f
  else if i = 100 then aJ o 86 g else if i = 101 then aI o 80 f else if i = 102 then aI o 2 f else if i = 103 then aZ o 2 f
  else if i = 104 then aJ o 6 g else if i = 105 then aI o 6 f else if i = 106 then aI o 20 f else if i = 107 then aI o 20 f else if i = 108 then aI o 20 f
  else if i = 109 then aI o 40 f else aI o 65 f
def cellsL (o : OM) (mi : MI) (ml : ML) : va_W := (List.range 111).map (fun i => (ads o i, cE o (mi i) (ml i) i))
def Wp (o : OM) (mi : MI) (ml : ML) (H : Heap) : Prop := va_P o.2.1 vcl (cellsL o mi ml) H
def isA (o : OM) (q : Nat) : Prop := o.1 ≤ q ∧ q < o.1 + 111
theorem cells_at (o : OM) (mi : MI) (ml : ML) {i : Nat} (h : i < 111) : (cellsL o mi ml)[i]? = some (ads o i, cE o (mi i) (ml i) i) := by
  simp [cellsL, h]
theorem cells_inv {o : OM} {mi : MI} {ml : ML} {i : Nat} {q : Nat × va_E} (h : (cellsL o mi ml)[i]? = some q) : i < 111 ∧ q = (ads o i, cE o (mi i) (ml i) i) := by
  have hl : i < 111 := by
    have := (List.getElem?_eq_some_iff.mp h).1
    simpa [cellsL] using this
  rw [cells_at o mi ml hl] at h
  exact ⟨hl, (Option.some.inj h).symm⟩
theorem cells_D (o : OM) (mi : MI) (ml : ML) : va_D (isA o) (cellsL o mi ml) := by
  refine ⟨fun i j p q hi hj e => ?_, fun k q hk => ?_⟩
  · obtain ⟨h1, rfl⟩ := cells_inv hi
    obtain ⟨h2, rfl⟩ := cells_inv hj
    have e' : o.1 + i = o.1 + j := e
    omega
  · obtain ⟨h1, rfl⟩ := cells_inv hk
    exact ⟨by show o.1 ≤ o.1 + k; omega, by show o.1 + k < o.1 + 111; omega⟩
theorem cells_set (o : OM) {mi mi' : MI} {ml ml' : ML} {i : Nat} {e : va_E} (hi : i < 111) (h1 : ∀ j, j ≠ i → mi' j = mi j ∧ ml' j = ml j) (h2 : cE o (mi' i) (ml' i) i = e) : (cellsL o mi ml).set i (ads o i, e) = cellsL o mi' ml' := by
  apply List.ext_getElem?
  intro j
  by_cases hj : j < 111
  · by_cases hji : j = i
    · subst hji
      rw [List.getElem?_set_self (by simp [cellsL]; exact hj), cells_at o mi' ml' hj, h2]
    · rw [List.getElem?_set_ne (Ne.symm hji), cells_at o mi ml hj, cells_at o mi' ml' hj, (h1 j hji).1, (h1 j hji).2]
  · rw [List.getElem?_eq_none (by simp [cellsL]; omega), List.getElem?_eq_none (by simp [cellsL]; omega)]
/-- which private methods are called across the nest -/
def nst : List (String × Nat × MethodName × String) := [("NearMarks$Parts", 23, y_Nm_hasBit, "NearMarks"), ("NearMarks$State", 36, y_Nm_distanceOf, "NearMarks"), ("NearMarks$Sightings", 26, y_Nm_distanceOf, "NearMarks"), ("NearMarks$Sightings", 44, y_Nm_leastOf, "NearMarks"), ("NearMarks$Sightings", 57, y_Nm_hasBit, "NearMarks"), ("NearMarks$Picture", 19, y_Nm_hasBit, "NearMarks"), ("NearMarks$Grouping", 29, y_Nm_hasBit, "NearMarks"), ("NearMarks$State", 47, y_Nm_hasBit, "NearMarks"), ("NearMarks", 78, y_Dr_init, "NearMarks")]
def Nst (U : State) : Prop := ∀ q ∈ nst, va_Nw (.methodLinkNest q.1 q.2.1 q.2.2.1 q.2.2.2) U
theorem Nst.warm {s U : State} (hW : s.WarmedH U.vm) (h : Nst s) : Nst U := fun q hq => va_Nw.warmM hW (h q hq)
def vtys (o : OM) : List (ClassId × FieldType) := [(o.2.2 0, .int), (o.2.2 1, .long), (o.2.2 2, .boolean), (o.2.2 3, .object "NearMarks$Image"), (o.2.2 4, .object "NearMarks$State")]
def Kp (o : OM) (U : State) : Prop := va_K o.2.1 vcl (vtys o) U ∧ Nst U
theorem Kp.warm {o : OM} {s U : State} (hW : s.WarmedH U.vm) (h : Kp o s) : Kp o U := ⟨va_K.moved hW.alike h.1, h.2.warm hW⟩
def wsY (y : MethodName) (cc : ByteArray) (n : Nat) (r : Option FieldType) : List Cond := .code y cc n r :: gtbl
theorem gtbl_good : GoodIn gtbl gtbl := fun _ hw => ⟨hw, good_of_word (List.mem_filter.mp hw).2⟩
theorem wsY_good {y : MethodName} {cc : ByteArray} {n : Nat} {r : Option FieldType} (h : Cond.code y cc n r ∈ gtbl) : GoodIn gtbl (wsY y cc n r) := fun w hw => (List.mem_cons.mp hw).elim (fun e => e ▸ gtbl_good _ h) (fun h2 => gtbl_good _ h2)
/-- CONTRACTS -/
def Qof (o : OM) (P : Option Value → MI → ML → Prop) : Array Value → State → Outcome → State → Prop := fun _ st oc t => (∃ (v : Option Value) (mi : MI) (ml : ML), oc = .returned v ∧ P v mi ml ∧ Wp o mi ml t.heap) ∧ va_F (isA o) st t
def Pof (o : OM) (A : List Value) (mi : MI) (ml : ML) : Array Value → State → Prop := va_Pc A (fun U => Wp o mi ml U.heap ∧ Kp o U)
def Con (l : Launch) (y : MethodName) (cc : ByteArray) (n : Nat) (r : Option FieldType) (fr lo : Nat) (o : OM) (A : List Value) (mi : MI) (ml : ML) (P : Option Value → MI → ML → Prop) : Prop :=
  Met l y (wsY y cc n r) { frames := fr, cells := 0, slots := 0, locals := lo } (Pof o A mi ml) (Qof o P) 0 0 (isA o)
/-- the walk's surroundings: all that stays while a method runs -/
def GT : Type := Program × Launch × Env × Room × State × MethodId × Array Value × List Frame × Method × Code × (State → Prop)
abbrev GT.p (γ : GT) : Program := γ.1
abbrev GT.l (γ : GT) : Launch := γ.2.1
abbrev GT.e (γ : GT) : Env := γ.2.2.1
abbrev GT.R (γ : GT) : Room := γ.2.2.2.1
abbrev GT.s (γ : GT) : State := γ.2.2.2.2.1
abbrev GT.m (γ : GT) : MethodId := γ.2.2.2.2.2.1
abbrev GT.a (γ : GT) : Array Value := γ.2.2.2.2.2.2.1
abbrev GT.b (γ : GT) : List Frame := γ.2.2.2.2.2.2.2.1
abbrev GT.me (γ : GT) : Method := γ.2.2.2.2.2.2.2.2.1
abbrev GT.c (γ : GT) : Code := γ.2.2.2.2.2.2.2.2.2.1
abbrev GT.Q (γ : GT) : State → Prop := γ.2.2.2.2.2.2.2.2.2.2
def V (γ : GT) (o : OM) (n : Nat) (mi : MI) (ml : ML) (pc : Nat) (lv : List (Nat × Value)) (st : List Value) : Prop :=
  ∀ (H : Heap) (locs : List Loc) (ls : Array Slot), Wp o mi ml H → va_S (isA o) γ.s.heap H locs → lv_has ls n lv → W γ.p γ.l γ.e γ.R γ.s γ.m γ.a γ.b γ.me γ.c H locs 0 0 γ.Q (F0 γ.m pc ls st)
def Cx (γ : GT) (l : Launch) (o : OM) (own : String) (cc : ByteArray) (n : Nat) (r : Option FieldType) (fr lo : Nat) (P : Option Value → MI → ML → Prop) : Prop :=
  γ.p.tables.exec = Jvm.exec ∧ γ.c.code = cc ∧ γ.c.maxLocals = n ∧ γ.s.vm.findClass own = some γ.m.cls ∧ (∀ w ∈ gtbl, w.before γ.a γ.s = true) ∧ Kp o γ.s ∧ γ.me.sig.returnType = r ∧ γ.me.locks = false ∧ γ.R.frames = fr ∧ γ.R.locals = lo ∧ γ.l = l ∧ γ.Q = MQ γ.b (Qof o P) γ.a γ.s 0 0 (isA o)
theorem Con.mk {l : Launch} {y : MethodName} {cc : ByteArray} {n : Nat} {r : Option FieldType} {fr lo : Nat} {o : OM} {A : List Value} {mi : MI} {ml : ML} {P : Option Value → MI → ML → Prop} (hy : plainName y.cls = true) (hlen : (lg_sl A).length ≤ n)
    (h : ∀ γ : GT, Cx γ l o y.cls cc n r fr lo P → V γ o n mi ml 0 (lv_args 0 A) []) : Con l y cc n r fr lo o A mi ml P := by
  refine Met.ofW (cc := cc) (maxL := n) (ret := r) hy rfl ?_
  intro p e s m args below meth c s₁ B hml hv
  obtain ⟨rfl, hP, hK⟩ := hv
  have hts := atoms_spec (ws := wsY y cc n r) B.pre
  rw [lg_entry_eq]
  exact h (p, l, e, _, s, m, _, below, meth, c, _) ⟨B.exec, B.bytes, hml, findClass_of_methodNamed B.named, fun w hw => hts w (List.mem_cons_of_mem _ hw), hK, B.returns, B.notSynchronized, rfl, rfl, rfl, rfl⟩ s.heap [] _ hP va_S.rf (lv_entry A hlen)
section ROWS
variable {γ : GT} {l : Launch} {o : OM} {own : String} {cc : ByteArray} {n : Nat} {r : Option FieldType} {fr lo : Nat} {P : Option Value → MI → ML → Prop}
variable {mi : MI} {ml : ML} {pc : Nat} {lv : List (Nat × Value)} {st rest : List Value}
/-- other words for the same -/
theorem V.eq {mi' : MI} {ml' : ML} {lv' : List (Nat × Value)} {st' : List Value} (k : V γ o n mi' ml' pc lv' st') (h1 : mi' = mi) (h2 : ml' = ml) (h3 : lv' = lv) (h4 : st' = st) : V γ o n mi ml pc lv st := by
  subst h1; subst h2; subst h3; subst h4; exact k
theorem V.wk {lv' : List (Nat × Value)} (ks : List Nat) (k : V γ o n mi ml pc lv' st) (h : lv_pick lv ks = lv') : V γ o n mi ml pc lv st := fun H locs ls h1 h2 h3 => k H locs ls h1 h2 (lv_sub h3 ks h)
theorem V.at {pc' : Nat} (h : pc = pc') (k : V γ o n mi ml pc lv st) : V γ o n mi ml pc' lv st := h ▸ k
/-- constants -/
theorem r_iconst (X : Cx γ l o own cc n r fr lo P) {z : Int} {v : Int32} (d : decode cc pc = .ok (.iconst z, 1)) (hv : Int32.ofInt z = v) (k : V γ o n mi ml (pc + 1) lv (.int v :: rest)) : V γ o n mi ml pc lv rest := fun H locs ls h1 h2 h3 => lv_iconst X.1 X.2.1 d hv (k H locs ls h1 h2 h3)
theorem r_bipush (X : Cx γ l o own cc n r fr lo P) {z : Int} {v : Int32} (d : decode cc pc = .ok (.bipush z, 2)) (hv : (Int8.ofInt z).toInt32 = v) (k : V γ o n mi ml (pc + 2) lv (.int v :: rest)) : V γ o n mi ml pc lv rest := fun H locs ls h1 h2 h3 => lv_bipush X.1 X.2.1 d hv (k H locs ls h1 h2 h3)
theorem r_sipush (X : Cx γ l o own cc n r fr lo P) {z : Int} {v : Int32} (d : decode cc pc = .ok (.sipush z, 3)) (hv : (Int16.ofInt z).toInt32 = v) (k : V γ o n mi ml (pc + 3) lv (.int v :: rest)) : V γ o n mi ml pc lv rest := fun H locs ls h1 h2 h3 => lv_sipush X.1 X.2.1 d hv (k H locs ls h1 h2 h3)
theorem r_lconst (X : Cx γ l o own cc n r fr lo P) {z : Fin 2} {v : Int64} (d : decode cc pc = .ok (.lconst z, 1)) (hv : Int64.ofNat (z : Nat) = v) (k : V γ o n mi ml (pc + 1) lv (.long v :: rest)) : V γ o n mi ml pc lv rest := fun H locs ls h1 h2 h3 => lv_lconst X.1 X.2.1 d hv (k H locs ls h1 h2 h3)
theorem r_ldc (X : Cx γ l o own cc n r fr lo P) {ix : Nat} {v0 v : Int32} (w : Cond.constant own ix v0 ∈ gtbl) (hv : v0 = v) (d : decode cc pc = .ok (.ldc ix, 2)) (k : V γ o n mi ml (pc + 2) lv (.int v :: rest)) : V γ o n mi ml pc lv rest := fun H locs ls h1 h2 h3 => lv_ldc X.1 X.2.1 X.2.2.2.1 (hv ▸ X.2.2.2.2.1 _ w) d (k H locs ls h1 h2 h3)
theorem r_ldc2 (X : Cx γ l o own cc n r fr lo P) {ix : Nat} {v : Int64} (w : Cond.constantLong own ix v ∈ gtbl) (d : decode cc pc = .ok (.ldc2_w ix, 3)) (k : V γ o n mi ml (pc + 3) lv (.long v :: rest)) : V γ o n mi ml pc lv rest := fun H locs ls h1 h2 h3 => lv_ldc2 X.1 X.2.1 X.2.2.2.1 (X.2.2.2.2.1 _ w) d (k H locs ls h1 h2 h3)
/-- locals -/
theorem r_iload_n (X : Cx γ l o own cc n r fr lo P) {q : Fin 4} {i : Nat} {x : Int32} (k0 : Nat) (d : decode cc pc = .ok (.iload_n q, 1)) (hi : (q : Nat) = i) (hl : lv[k0]? = some (i, .int x)) (k : V γ o n mi ml (pc + 1) lv (.int x :: rest)) : V γ o n mi ml pc lv rest := fun H locs ls h1 h2 h3 => lv_iload_n X.1 X.2.1 d hi (lv_at h3 k0 hl) (k H locs ls h1 h2 h3)
theorem r_iload (X : Cx γ l o own cc n r fr lo P) {i : Nat} {x : Int32} (k0 : Nat) (d : decode cc pc = .ok (.iload i, 2)) (hl : lv[k0]? = some (i, .int x)) (k : V γ o n mi ml (pc + 2) lv (.int x :: rest)) : V γ o n mi ml pc lv rest := fun H locs ls h1 h2 h3 => lv_iload X.1 X.2.1 d (lv_at h3 k0 hl) (k H locs ls h1 h2 h3)
theorem r_lload_n (X : Cx γ l o own cc n r fr lo P) {q : Fin 4} {i : Nat} {x : Int64} (k0 : Nat) (d : decode cc pc = .ok (.lload_n q, 1)) (hi : (q : Nat) = i) (hl : lv[k0]? = some (i, .long x)) (k : V γ o n mi ml (pc + 1) lv (.long x :: rest)) : V γ o n mi ml pc lv rest := fun H locs ls h1 h2 h3 => lv_lload_n X.1 X.2.1 d hi (lv_at h3 k0 hl) (k H locs ls h1 h2 h3)
theorem r_lload (X : Cx γ l o own cc n r fr lo P) {i : Nat} {x : Int64} (k0 : Nat) (d : decode cc pc = .ok (.lload i, 2)) (hl : lv[k0]? = some (i, .long x)) (k : V γ o n mi ml (pc + 2) lv (.long x :: rest)) : V γ o n mi ml pc lv rest := fun H locs ls h1 h2 h3 => lv_lload X.1 X.2.1 d (lv_at h3 k0 hl) (k H locs ls h1 h2 h3)
theorem r_aload_n (X : Cx γ l o own cc n r fr lo P) {q : Fin 4} {i : Nat} {x : Nat} (k0 : Nat) (d : decode cc pc = .ok (.aload_n q, 1)) (hi : (q : Nat) = i) (hl : lv[k0]? = some (i, .ref x)) (k : V γ o n mi ml (pc + 1) lv (.ref x :: rest)) : V γ o n mi ml pc lv rest := fun H locs ls h1 h2 h3 => lv_aload_n X.1 X.2.1 d hi (lv_at h3 k0 hl) (k H locs ls h1 h2 h3)
theorem r_istore_n (X : Cx γ l o own cc n r fr lo P) {q : Fin 4} {i : Nat} {x : Int32} (lv' : List (Nat × Value)) (d : decode cc pc = .ok (.istore_n q, 1)) (hi : (q : Nat) = i) (hn : i < n) (hl : (i, Value.int x) :: lv.filter (fun q => !(q.1 == i) && !(q.1 + 1 == i && q.2.category == 2)) = lv') (k : V γ o n mi ml (pc + 1) lv' rest) : V γ o n mi ml pc lv (.int x :: rest) := fun H locs ls h1 h2 h3 => lv_istore_n X.1 X.2.1 d hi h3 hn hl (fun ls2 h4 => k H locs ls2 h1 h2 h4)
theorem r_istore (X : Cx γ l o own cc n r fr lo P) {i : Nat} {x : Int32} (lv' : List (Nat × Value)) (d : decode cc pc = .ok (.istore i, 2)) (hn : i < n) (hl : (i, Value.int x) :: lv.filter (fun q => !(q.1 == i) && !(q.1 + 1 == i && q.2.category == 2)) = lv') (k : V γ o n mi ml (pc + 2) lv' rest) : V γ o n mi ml pc lv (.int x :: rest) := fun H locs ls h1 h2 h3 => lv_istore X.1 X.2.1 d h3 hn hl (fun ls2 h4 => k H locs ls2 h1 h2 h4)
theorem r_lstore_n (X : Cx γ l o own cc n r fr lo P) {q : Fin 4} {i : Nat} {x : Int64} (lv' : List (Nat × Value)) (d : decode cc pc = .ok (.lstore_n q, 1)) (hi : (q : Nat) = i) (hn : i + 1 < n) (hl : (i, Value.long x) :: lv.filter (fun q => !(q.1 == i) && (!(q.1 == i + 1) && !(q.1 + 1 == i && q.2.category == 2))) = lv') (k : V γ o n mi ml (pc + 1) lv' rest) : V γ o n mi ml pc lv (.long x :: rest) := fun H locs ls h1 h2 h3 => lv_lstore_n X.1 X.2.1 d hi h3 hn hl (fun ls2 h4 => k H locs ls2 h1 h2 h4)
theorem r_lstore (X : Cx γ l o own cc n r fr lo P) {i : Nat} {x : Int64} (lv' : List (Nat × Value)) (d : decode cc pc = .ok (.lstore i, 2)) (hn : i + 1 < n) (hl : (i, Value.long x) :: lv.filter (fun q => !(q.1 == i) && (!(q.1 == i + 1) && !(q.1 + 1 == i && q.2.category == 2))) = lv') (k : V γ o n mi ml (pc + 2) lv' rest) : V γ o n mi ml pc lv (.long x :: rest) := fun H locs ls h1 h2 h3 => lv_lstore X.1 X.2.1 d h3 hn hl (fun ls2 h4 => k H locs ls2 h1 h2 h4)
theorem r_iinc (X : Cx γ l o own cc n r fr lo P) {i : Nat} {z : Int} {x v : Int32} (k0 : Nat) (lv' : List (Nat × Value)) (d : decode cc pc = .ok (.iinc i z, 3)) (hk : lv[k0]? = some (i, .int x)) (hv : x + Int32.ofInt z = v) (hn : i < n) (hl : (i, Value.int v) :: lv.filter (fun q => !(q.1 == i) && !(q.1 + 1 == i && q.2.category == 2)) = lv') (k : V γ o n mi ml (pc + 3) lv' rest) : V γ o n mi ml pc lv rest := fun H locs ls h1 h2 h3 => lv_iinc X.1 X.2.1 d h3 hk hv hn hl (fun ls2 h4 => k H locs ls2 h1 h2 h4)
end ROWS
end
section
/-! rows of my layer: arithmetic, branches, fields, arrays, calls, ends -/
def bI (b : Bool) : Int32 := if b then 1 else 0
theorem bI_eq0 (b : Bool) : bI b = 0 ↔ b = false := by cases b <;> decide
theorem bI_t : bI true = 1 := rfl
theorem bI_f : bI false = 0 := rfl
theorem bI_nar (b : Bool) : narrow .boolean (.int (bI b)) = .int (bI b) := by cases b <;> rfl
def shl (x : Int64) (k : Nat) : Int64 := x <<< ((nI k).toInt64 &&& 63)
def shr (x : Int64) (k : Nat) : Int64 := x >>> ((nI k).toInt64 &&& 63)
def ushr (x : Int64) (k : Nat) : Int64 := (x.toUInt64 >>> ((nI k).toInt64.toUInt64 &&& Int64.toUInt64 63)).toInt64
section ROWS2
variable {γ : GT} {l : Launch} {o : OM} {own : String} {cc : ByteArray} {n : Nat} {r : Option FieldType} {fr lo : Nat} {P : Option Value → MI → ML → Prop}
variable {mi : MI} {ml : ML} {pc : Nat} {lv : List (Nat × Value)} {st rest : List Value}
theorem r_iadd (X : Cx γ l o own cc n r fr lo P) {x y v : Int32} (d : decode cc pc = .ok (.iadd, 1)) (hv : x + y = v) (k : V γ o n mi ml (pc + 1) lv (.int v :: rest)) : V γ o n mi ml (pc) lv (.int y :: .int x :: rest) := fun H locs ls h1 h2 h3 => lv_iadd X.1 X.2.1 d (by rw [hv]; exact k H locs ls h1 h2 h3)
theorem r_isub (X : Cx γ l o own cc n r fr lo P) {x y v : Int32} (d : decode cc pc = .ok (.isub, 1)) (hv : x - y = v) (k : V γ o n mi ml (pc + 1) lv (.int v :: rest)) : V γ o n mi ml (pc) lv (.int y :: .int x :: rest) := fun H locs ls h1 h2 h3 => lv_isub X.1 X.2.1 d (by rw [hv]; exact k H locs ls h1 h2 h3)
theorem r_imul (X : Cx γ l o own cc n r fr lo P) {x y v : Int32} (d : decode cc pc = .ok (.imul, 1)) (hv : x * y = v) (k : V γ o n mi ml (pc + 1) lv (.int v :: rest)) : V γ o n mi ml (pc) lv (.int y :: .int x :: rest) := fun H locs ls h1 h2 h3 => lv_imul X.1 X.2.1 d (by rw [hv]; exact k H locs ls h1 h2 h3)
theorem r_iand (X : Cx γ l o own cc n r fr lo P) {x y v : Int32} (d : decode cc pc = .ok (.iand, 1)) (hv : x &&& y = v) (k : V γ o n mi ml (pc + 1) lv (.int v :: rest)) : V γ o n mi ml (pc) lv (.int y :: .int x :: rest) := fun H locs ls h1 h2 h3 => lv_iand X.1 X.2.1 d (by rw [hv]; exact k H locs ls h1 h2 h3)
theorem r_idiv (X : Cx γ l o own cc n r fr lo P) {x y v : Int32} (d : decode cc pc = .ok (.idiv, 1)) (hne : ¬ y = 0) (hv : x / y = v) (k : V γ o n mi ml (pc + 1) lv (.int v :: rest)) : V γ o n mi ml (pc) lv (.int y :: .int x :: rest) := fun H locs ls h1 h2 h3 => lv_idiv X.1 X.2.1 d hne (by rw [hv]; exact k H locs ls h1 h2 h3)
theorem r_irem (X : Cx γ l o own cc n r fr lo P) {x y v : Int32} (d : decode cc pc = .ok (.irem, 1)) (hne : ¬ y = 0) (hv : x - x / y * y = v) (k : V γ o n mi ml (pc + 1) lv (.int v :: rest)) : V γ o n mi ml (pc) lv (.int y :: .int x :: rest) := fun H locs ls h1 h2 h3 => lv_irem X.1 X.2.1 d hne (by rw [hv]; exact k H locs ls h1 h2 h3)
theorem r_ladd (X : Cx γ l o own cc n r fr lo P) {x y v : Int64} (d : decode cc pc = .ok (.ladd, 1)) (hv : x + y = v) (k : V γ o n mi ml (pc + 1) lv (.long v :: rest)) : V γ o n mi ml (pc) lv (.long y :: .long x :: rest) := fun H locs ls h1 h2 h3 => lv_ladd X.1 X.2.1 d (by rw [hv]; exact k H locs ls h1 h2 h3)
theorem r_lsub (X : Cx γ l o own cc n r fr lo P) {x y v : Int64} (d : decode cc pc = .ok (.lsub, 1)) (hv : x - y = v) (k : V γ o n mi ml (pc + 1) lv (.long v :: rest)) : V γ o n mi ml (pc) lv (.long y :: .long x :: rest) := fun H locs ls h1 h2 h3 => lv_lsub X.1 X.2.1 d (by rw [hv]; exact k H locs ls h1 h2 h3)
theorem r_lmul (X : Cx γ l o own cc n r fr lo P) {x y v : Int64} (d : decode cc pc = .ok (.lmul, 1)) (hv : x * y = v) (k : V γ o n mi ml (pc + 1) lv (.long v :: rest)) : V γ o n mi ml (pc) lv (.long y :: .long x :: rest) := fun H locs ls h1 h2 h3 => lv_lmul X.1 X.2.1 d (by rw [hv]; exact k H locs ls h1 h2 h3)
theorem r_land (X : Cx γ l o own cc n r fr lo P) {x y v : Int64} (d : decode cc pc = .ok (.land, 1)) (hv : x &&& y = v) (k : V γ o n mi ml (pc + 1) lv (.long v :: rest)) : V γ o n mi ml (pc) lv (.long y :: .long x :: rest) := fun H locs ls h1 h2 h3 => lv_land X.1 X.2.1 d (by rw [hv]; exact k H locs ls h1 h2 h3)
theorem r_lor (X : Cx γ l o own cc n r fr lo P) {x y v : Int64} (d : decode cc pc = .ok (.lor, 1)) (hv : x ||| y = v) (k : V γ o n mi ml (pc + 1) lv (.long v :: rest)) : V γ o n mi ml (pc) lv (.long y :: .long x :: rest) := fun H locs ls h1 h2 h3 => lv_lor X.1 X.2.1 d (by rw [hv]; exact k H locs ls h1 h2 h3)
theorem r_lxor (X : Cx γ l o own cc n r fr lo P) {x y v : Int64} (d : decode cc pc = .ok (.lxor, 1)) (hv : x ^^^ y = v) (k : V γ o n mi ml (pc + 1) lv (.long v :: rest)) : V γ o n mi ml (pc) lv (.long y :: .long x :: rest) := fun H locs ls h1 h2 h3 => lv_lxor X.1 X.2.1 d (by rw [hv]; exact k H locs ls h1 h2 h3)
theorem r_lrem (X : Cx γ l o own cc n r fr lo P) {x y v : Int64} (d : decode cc pc = .ok (.lrem, 1)) (hne : ¬ y = 0) (hv : x - x / y * y = v) (k : V γ o n mi ml (pc + 1) lv (.long v :: rest)) : V γ o n mi ml (pc) lv (.long y :: .long x :: rest) := fun H locs ls h1 h2 h3 => lv_lrem X.1 X.2.1 d hne (by rw [hv]; exact k H locs ls h1 h2 h3)
theorem r_i2l (X : Cx γ l o own cc n r fr lo P) {x : Int32} {v : Int64} (d : decode cc pc = .ok (.i2l, 1)) (hv : x.toInt64 = v) (k : V γ o n mi ml (pc + 1) lv (.long v :: rest)) : V γ o n mi ml (pc) lv (.int x :: rest) := fun H locs ls h1 h2 h3 => lv_i2l X.1 X.2.1 d hv (k H locs ls h1 h2 h3)
theorem r_l2i (X : Cx γ l o own cc n r fr lo P) {x : Int64} {v : Int32} (d : decode cc pc = .ok (.l2i, 1)) (hv : x.toInt32 = v) (k : V γ o n mi ml (pc + 1) lv (.int v :: rest)) : V γ o n mi ml (pc) lv (.long x :: rest) := fun H locs ls h1 h2 h3 => lv_l2i X.1 X.2.1 d hv (k H locs ls h1 h2 h3)
theorem r_lushr (X : Cx γ l o own cc n r fr lo P) {x v : Int64} {y : Int32} (d : decode cc pc = .ok (.lushr, 1)) (hv : (x.toUInt64 >>> (y.toInt64.toUInt64 &&& Int64.toUInt64 63)).toInt64 = v) (k : V γ o n mi ml (pc + 1) lv (.long v :: rest)) : V γ o n mi ml (pc) lv (.int y :: .long x :: rest) := fun H locs ls h1 h2 h3 => lv_lushr X.1 X.2.1 d hv (k H locs ls h1 h2 h3)
theorem r_lshl (X : Cx γ l o own cc n r fr lo P) {x v : Int64} {y : Int32} (d : decode cc pc = .ok (.lshl, 1)) (hv : x <<< (y.toInt64 &&& 63) = v) (k : V γ o n mi ml (pc + 1) lv (.long v :: rest)) : V γ o n mi ml (pc) lv (.int y :: .long x :: rest) := fun H locs ls h1 h2 h3 => lv_lshl X.1 X.2.1 d hv (k H locs ls h1 h2 h3)
theorem r_lshr (X : Cx γ l o own cc n r fr lo P) {x v : Int64} {y : Int32} (d : decode cc pc = .ok (.lshr, 1)) (hv : x >>> (y.toInt64 &&& 63) = v) (k : V γ o n mi ml (pc + 1) lv (.long v :: rest)) : V γ o n mi ml (pc) lv (.int y :: .long x :: rest) := fun H locs ls h1 h2 h3 => lv_lshr X.1 X.2.1 d hv (k H locs ls h1 h2 h3)
theorem r_dup (X : Cx γ l o own cc n r fr lo P) {a : Value} (d : decode cc pc = .ok (.dup, 1)) (ha : a.category = 1) (k : V γ o n mi ml (pc + 1) lv (a :: a :: rest)) : V γ o n mi ml (pc) lv (a :: rest) := fun H locs ls h1 h2 h3 => lv_dup X.1 X.2.1 d ha (k H locs ls h1 h2 h3)
theorem r_pop (X : Cx γ l o own cc n r fr lo P) {a : Value} (d : decode cc pc = .ok (.pop, 1)) (ha : a.category = 1) (k : V γ o n mi ml (pc + 1) lv (rest)) : V γ o n mi ml (pc) lv (a :: rest) := fun H locs ls h1 h2 h3 => lv_pop X.1 X.2.1 d ha (k H locs ls h1 h2 h3)
theorem r_dup2_2 (X : Cx γ l o own cc n r fr lo P) {a : Value} (d : decode cc pc = .ok (.dup2, 1)) (ha : a.category = 2) (k : V γ o n mi ml (pc + 1) lv (a :: a :: rest)) : V γ o n mi ml (pc) lv (a :: rest) := fun H locs ls h1 h2 h3 => lv_dup2_2 X.1 X.2.1 d ha (k H locs ls h1 h2 h3)
theorem r_dup2_11 (X : Cx γ l o own cc n r fr lo P) {a b : Value} (d : decode cc pc = .ok (.dup2, 1)) (ha : a.category = 1) (hb : b.category = 1) (k : V γ o n mi ml (pc + 1) lv (a :: b :: a :: b :: rest)) : V γ o n mi ml (pc) lv (a :: b :: rest) := fun H locs ls h1 h2 h3 => lv_dup2_11 X.1 X.2.1 d ha hb (k H locs ls h1 h2 h3)
theorem r_lcmp (X : Cx γ l o own cc n r fr lo P) {x y : Int64} (d : decode cc pc = .ok (.lcmp, 1)) (k : V γ o n mi ml (pc + 1) lv (.int (lg_cmp x y) :: rest)) : V γ o n mi ml (pc) lv (.long y :: .long x :: rest) := fun H locs ls h1 h2 h3 => W.lcmp X.1 X.2.1 d (k H locs ls h1 h2 h3)
theorem r_goto (X : Cx γ l o own cc n r fr lo P) {off : Int} {tgt : Nat} (d : decode cc pc = .ok (.goto off, 3)) (ht : (pc : Int) + off = (tgt : Int)) (k : V γ o n mi ml (tgt) lv (rest)) : V γ o n mi ml (pc) lv (rest) := fun H locs ls h1 h2 h3 => lv_goto X.1 X.2.1 d ht (k H locs ls h1 h2 h3)
theorem r_ifeq (X : Cx γ l o own cc n r fr lo P) {x : Int32} {c : Prop} {off : Int} {tgt : Nat} (d : decode cc pc = .ok (.ifCond .eq off, 3)) (ht : (pc : Int) + off = (tgt : Int)) (hc : (x = 0) ↔ c) (kt : c → V γ o n mi ml (tgt) lv (rest)) (kf : ¬ c → V γ o n mi ml (pc + 3) lv (rest)) : V γ o n mi ml (pc) lv (.int x :: rest) := fun H locs ls h1 h2 h3 => lv_if_eq X.1 X.2.1 d ht (fun q => kt (hc.mp q) H locs ls h1 h2 h3) (fun q => kf (fun z => q (hc.mpr z)) H locs ls h1 h2 h3)
theorem r_iceq (X : Cx γ l o own cc n r fr lo P) {x y : Int32} {c : Prop} {off : Int} {tgt : Nat} (d : decode cc pc = .ok (.if_icmp .eq off, 3)) (ht : (pc : Int) + off = (tgt : Int)) (hc : (x = y) ↔ c) (kt : c → V γ o n mi ml (tgt) lv (rest)) (kf : ¬ c → V γ o n mi ml (pc + 3) lv (rest)) : V γ o n mi ml (pc) lv (.int y :: .int x :: rest) := fun H locs ls h1 h2 h3 => lv_icmp_eq X.1 X.2.1 d ht (fun q => kt (hc.mp q) H locs ls h1 h2 h3) (fun q => kf (fun z => q (hc.mpr z)) H locs ls h1 h2 h3)
theorem r_ifne (X : Cx γ l o own cc n r fr lo P) {x : Int32} {c : Prop} {off : Int} {tgt : Nat} (d : decode cc pc = .ok (.ifCond .ne off, 3)) (ht : (pc : Int) + off = (tgt : Int)) (hc : (¬ x = 0) ↔ c) (kt : c → V γ o n mi ml (tgt) lv (rest)) (kf : ¬ c → V γ o n mi ml (pc + 3) lv (rest)) : V γ o n mi ml (pc) lv (.int x :: rest) := fun H locs ls h1 h2 h3 => lv_if_ne X.1 X.2.1 d ht (fun q => kt (hc.mp q) H locs ls h1 h2 h3) (fun q => kf (fun z => hc.mpr z q) H locs ls h1 h2 h3)
theorem r_icne (X : Cx γ l o own cc n r fr lo P) {x y : Int32} {c : Prop} {off : Int} {tgt : Nat} (d : decode cc pc = .ok (.if_icmp .ne off, 3)) (ht : (pc : Int) + off = (tgt : Int)) (hc : (¬ x = y) ↔ c) (kt : c → V γ o n mi ml (tgt) lv (rest)) (kf : ¬ c → V γ o n mi ml (pc + 3) lv (rest)) : V γ o n mi ml (pc) lv (.int y :: .int x :: rest) := fun H locs ls h1 h2 h3 => lv_icmp_ne X.1 X.2.1 d ht (fun q => kt (hc.mp q) H locs ls h1 h2 h3) (fun q => kf (fun z => hc.mpr z q) H locs ls h1 h2 h3)
theorem r_iflt (X : Cx γ l o own cc n r fr lo P) {x : Int32} {c : Prop} {off : Int} {tgt : Nat} (d : decode cc pc = .ok (.ifCond .lt off, 3)) (ht : (pc : Int) + off = (tgt : Int)) (hc : (x < 0) ↔ c) (kt : c → V γ o n mi ml (tgt) lv (rest)) (kf : ¬ c → V γ o n mi ml (pc + 3) lv (rest)) : V γ o n mi ml (pc) lv (.int x :: rest) := fun H locs ls h1 h2 h3 => lv_if_lt X.1 X.2.1 d ht (fun q => kt (hc.mp q) H locs ls h1 h2 h3) (fun q => kf (fun z => q (hc.mpr z)) H locs ls h1 h2 h3)
theorem r_iclt (X : Cx γ l o own cc n r fr lo P) {x y : Int32} {c : Prop} {off : Int} {tgt : Nat} (d : decode cc pc = .ok (.if_icmp .lt off, 3)) (ht : (pc : Int) + off = (tgt : Int)) (hc : (x < y) ↔ c) (kt : c → V γ o n mi ml (tgt) lv (rest)) (kf : ¬ c → V γ o n mi ml (pc + 3) lv (rest)) : V γ o n mi ml (pc) lv (.int y :: .int x :: rest) := fun H locs ls h1 h2 h3 => lv_icmp_lt X.1 X.2.1 d ht (fun q => kt (hc.mp q) H locs ls h1 h2 h3) (fun q => kf (fun z => q (hc.mpr z)) H locs ls h1 h2 h3)
theorem r_ifge (X : Cx γ l o own cc n r fr lo P) {x : Int32} {c : Prop} {off : Int} {tgt : Nat} (d : decode cc pc = .ok (.ifCond .ge off, 3)) (ht : (pc : Int) + off = (tgt : Int)) (hc : (0 ≤ x) ↔ c) (kt : c → V γ o n mi ml (tgt) lv (rest)) (kf : ¬ c → V γ o n mi ml (pc + 3) lv (rest)) : V γ o n mi ml (pc) lv (.int x :: rest) := fun H locs ls h1 h2 h3 => lv_if_ge X.1 X.2.1 d ht (fun q => kt (hc.mp q) H locs ls h1 h2 h3) (fun q => kf (fun z => q (hc.mpr z)) H locs ls h1 h2 h3)
theorem r_icge (X : Cx γ l o own cc n r fr lo P) {x y : Int32} {c : Prop} {off : Int} {tgt : Nat} (d : decode cc pc = .ok (.if_icmp .ge off, 3)) (ht : (pc : Int) + off = (tgt : Int)) (hc : (y ≤ x) ↔ c) (kt : c → V γ o n mi ml (tgt) lv (rest)) (kf : ¬ c → V γ o n mi ml (pc + 3) lv (rest)) : V γ o n mi ml (pc) lv (.int y :: .int x :: rest) := fun H locs ls h1 h2 h3 => lv_icmp_ge X.1 X.2.1 d ht (fun q => kt (hc.mp q) H locs ls h1 h2 h3) (fun q => kf (fun z => q (hc.mpr z)) H locs ls h1 h2 h3)
theorem r_ifgt (X : Cx γ l o own cc n r fr lo P) {x : Int32} {c : Prop} {off : Int} {tgt : Nat} (d : decode cc pc = .ok (.ifCond .gt off, 3)) (ht : (pc : Int) + off = (tgt : Int)) (hc : (0 < x) ↔ c) (kt : c → V γ o n mi ml (tgt) lv (rest)) (kf : ¬ c → V γ o n mi ml (pc + 3) lv (rest)) : V γ o n mi ml (pc) lv (.int x :: rest) := fun H locs ls h1 h2 h3 => lv_if_gt X.1 X.2.1 d ht (fun q => kt (hc.mp q) H locs ls h1 h2 h3) (fun q => kf (fun z => q (hc.mpr z)) H locs ls h1 h2 h3)
theorem r_icgt (X : Cx γ l o own cc n r fr lo P) {x y : Int32} {c : Prop} {off : Int} {tgt : Nat} (d : decode cc pc = .ok (.if_icmp .gt off, 3)) (ht : (pc : Int) + off = (tgt : Int)) (hc : (y < x) ↔ c) (kt : c → V γ o n mi ml (tgt) lv (rest)) (kf : ¬ c → V γ o n mi ml (pc + 3) lv (rest)) : V γ o n mi ml (pc) lv (.int y :: .int x :: rest) := fun H locs ls h1 h2 h3 => lv_icmp_gt X.1 X.2.1 d ht (fun q => kt (hc.mp q) H locs ls h1 h2 h3) (fun q => kf (fun z => q (hc.mpr z)) H locs ls h1 h2 h3)
theorem r_ifle (X : Cx γ l o own cc n r fr lo P) {x : Int32} {c : Prop} {off : Int} {tgt : Nat} (d : decode cc pc = .ok (.ifCond .le off, 3)) (ht : (pc : Int) + off = (tgt : Int)) (hc : (x ≤ 0) ↔ c) (kt : c → V γ o n mi ml (tgt) lv (rest)) (kf : ¬ c → V γ o n mi ml (pc + 3) lv (rest)) : V γ o n mi ml (pc) lv (.int x :: rest) := fun H locs ls h1 h2 h3 => lv_if_le X.1 X.2.1 d ht (fun q => kt (hc.mp q) H locs ls h1 h2 h3) (fun q => kf (fun z => q (hc.mpr z)) H locs ls h1 h2 h3)
theorem r_icle (X : Cx γ l o own cc n r fr lo P) {x y : Int32} {c : Prop} {off : Int} {tgt : Nat} (d : decode cc pc = .ok (.if_icmp .le off, 3)) (ht : (pc : Int) + off = (tgt : Int)) (hc : (x ≤ y) ↔ c) (kt : c → V γ o n mi ml (tgt) lv (rest)) (kf : ¬ c → V γ o n mi ml (pc + 3) lv (rest)) : V γ o n mi ml (pc) lv (.int y :: .int x :: rest) := fun H locs ls h1 h2 h3 => lv_icmp_le X.1 X.2.1 d ht (fun q => kt (hc.mp q) H locs ls h1 h2 h3) (fun q => kf (fun z => q (hc.mpr z)) H locs ls h1 h2 h3)
theorem r_ifeqB (X : Cx γ l o own cc n r fr lo P) {b : Bool} {off : Int} {tgt : Nat} (d : decode cc pc = .ok (.ifCond .eq off, 3)) (ht : (pc : Int) + off = (tgt : Int)) (kt : b = false → V γ o n mi ml (tgt) lv (rest)) (kf : b = true → V γ o n mi ml (pc + 3) lv (rest)) : V γ o n mi ml (pc) lv (.int (bI b) :: rest) := r_ifeq X d ht (bI_eq0 b) kt (fun q => kf (by simpa using q))
theorem r_ifneB (X : Cx γ l o own cc n r fr lo P) {b : Bool} {off : Int} {tgt : Nat} (d : decode cc pc = .ok (.ifCond .ne off, 3)) (ht : (pc : Int) + off = (tgt : Int)) (kt : b = true → V γ o n mi ml (tgt) lv (rest)) (kf : b = false → V γ o n mi ml (pc + 3) lv (rest)) : V γ o n mi ml (pc) lv (.int (bI b) :: rest) := r_ifne X d ht (c := b = true) (by rw [bI_eq0]; simp) kt (fun q => kf (by simpa using q))
theorem r_end_i (X : Cx γ l o own cc n (some .int) fr lo P) {v : Int32} (d : decode cc pc = .ok (.ireturn, 1)) (h : P (some (.int v)) mi ml) : V γ o n mi ml pc lv [.int v] := by
  intro H locs ls h1 h2 h3
  rw [X.2.2.2.2.2.2.2.2.2.2.2]
  exact W.iret (Qc := Qof o P) X.1 X.2.1 X.2.2.2.2.2.2.1 (fun t ht _ => ⟨⟨_, mi, ml, rfl, h, by rw [ht]; exact h1⟩, h2.F ht⟩) h2.2.2 d X.2.2.2.2.2.2.2.1
theorem r_end_z (X : Cx γ l o own cc n (some .boolean) fr lo P) {v : Int32} (hn : narrow .boolean (.int v) = .int v) (d : decode cc pc = .ok (.ireturn, 1)) (h : P (some (.int v)) mi ml) : V γ o n mi ml pc lv [.int v] := by
  intro H locs ls h1 h2 h3
  rw [X.2.2.2.2.2.2.2.2.2.2.2]
  exact W.zret (Qc := Qof o P) X.1 X.2.1 X.2.2.2.2.2.2.1 hn (fun t ht _ => ⟨⟨_, mi, ml, rfl, h, by rw [ht]; exact h1⟩, h2.F ht⟩) h2.2.2 d X.2.2.2.2.2.2.2.1
theorem r_end_l (X : Cx γ l o own cc n (some .long) fr lo P) {v : Int64} (d : decode cc pc = .ok (.lreturn, 1)) (h : P (some (.long v)) mi ml) : V γ o n mi ml pc lv [.long v] := by
  intro H locs ls h1 h2 h3
  rw [X.2.2.2.2.2.2.2.2.2.2.2]
  exact W.lret (Qc := Qof o P) X.1 X.2.1 X.2.2.2.2.2.2.1 (fun t ht _ => ⟨⟨_, mi, ml, rfl, h, by rw [ht]; exact h1⟩, h2.F ht⟩) h2.2.2 d X.2.2.2.2.2.2.2.1
theorem r_end_v (X : Cx γ l o own cc n none fr lo P) (d : decode cc pc = .ok (.return_, 1)) (h : P none mi ml) : V γ o n mi ml pc lv [] := by
  intro H locs ls h1 h2 h3
  rw [X.2.2.2.2.2.2.2.2.2.2.2]
  exact W.vret (Qc := Qof o P) X.1 X.2.1 X.2.2.2.2.2.2.1 (fun t ht _ => ⟨⟨_, mi, ml, rfl, h, by rw [ht]; exact h1⟩, h2.F ht⟩) h2.2.2 d X.2.2.2.2.2.2.2.1
/-- a field's site: class number, slot -/
def FOK (own : String) (ix ci k : Nat) : Prop := ∃ (C : String) (T : u_T) (N : Nat), vcl[ci]? = some (C, T, N) ∧ (∀ w ∈ u_ws C T N, w ∈ gtbl) ∧ k < N ∧ Cond.fieldLink own ix (T k).1 (T k).2.1 (T k).2.2.1 ∈ gtbl
def FOKw (own : String) (ix ci k : Nat) (ty : FieldType) : Prop := ∃ (C : String) (T : u_T) (N : Nat) (ty0 : Nat → FieldType), vcl[ci]? = some (C, T, N) ∧ (∀ w ∈ u_ws C T N, w ∈ gtbl) ∧ k < N ∧ Cond.fieldLink own ix (T k).1 (T k).2.1 (T k).2.2.1 ∈ gtbl ∧ (∀ k, k < N → parseFieldDescriptor (T k).2.2.1 = some (ty0 k)) ∧ (∀ a, a < N → ∀ b, b < N → a ≠ b → (T a).2.1 ≠ (T b).2.1) ∧ (T k).2.2.2 = false ∧ parseFieldDescriptor (T k).2.2.1 = some ty
theorem r_get (X : Cx γ l o own cc n r fr lo P) {i ix ci : Nat} {k : Nat} {F : (Nat → Int32) → (Nat → Int64) → List Value} (f : FOK own ix ci k) (hi : i < 111) (hc : ∀ f g, cE o f g i = .inr (ci, F f g)) {v : Value} (hv : (F (mi i) (ml i))[k]? = some v) (d : decode cc pc = .ok (.getfield ix, 3)) (kk : V γ o n mi ml (pc + 3) lv (v :: rest)) : V γ o n mi ml pc lv (.ref (ads o i) :: rest) := by
  intro H locs ls h1 h2 h3
  obtain ⟨C, T, N, e1, e2, e3, e4⟩ := f
  exact va_get X.1 X.2.1 X.2.2.2.2.1 e2 X.2.2.2.1 X.2.2.2.2.2.1.1 h1 i (by rw [cells_at o mi ml hi, hc]) e1 k e3 (X.2.2.2.2.1 _ e4) (fun _ h => h) hv d (kk H locs ls h1 h2 h3)
theorem r_put (X : Cx γ l o own cc n r fr lo P) {i ix ci : Nat} {k : Nat} {F : (Nat → Int32) → (Nat → Int64) → List Value} {ty : FieldType} (f : FOKw own ix ci k ty) (hi : i < 111) (hc : ∀ f g, cE o f g i = .inr (ci, F f g)) {v : Value} {mi' : MI} {ml' : ML} (hm : ∀ j, j ≠ i → mi' j = mi j ∧ ml' j = ml j) (hs : F (mi' i) (ml' i) = (F (mi i) (ml i)).set k v) (hl : k < (F (mi i) (ml i)).length) (hn : narrow ty v = v) (hf : fits ty v = true) (d : decode cc pc = .ok (.putfield ix, 3)) (kk : V γ o n mi' ml' (pc + 3) lv rest) : V γ o n mi ml pc lv (v :: .ref (ads o i) :: rest) := by
  intro H locs ls h1 h2 h3
  obtain ⟨C, T, N, ty0, e1, e2, e3, e4, e5, e6, e7, e8⟩ := f
  refine va_put X.1 X.2.1 X.2.2.2.2.1 e2 ty0 e5 e6 X.2.2.2.1 X.2.2.2.2.2.1.1 h1 (cells_D o mi ml) h2 i (by rw [cells_at o mi ml hi, hc]) e1 k e3 (X.2.2.2.2.1 _ e4) (fun _ h => h) e7 e8 hn hf hl d (fun H1 locs1 g1 g2 g3 => ?_)
  rw [cells_set o (mi' := mi') (ml' := ml') hi hm (by rw [hc, hs])] at g1
  exact kk H1 locs1 ls g1 g3 h3
theorem r_putI (X : Cx γ l o own cc n r fr lo P) {i ix ci : Nat} {k : Nat} {F : (Nat → Int32) → (Nat → Int64) → List Value} (f : FOKw own ix ci k .int) (hi : i < 111) (hc : ∀ f g, cE o f g i = .inr (ci, F f g)) {x : Int32} (hs : ∀ f g, F (uf f k x) g = (F f g).set k (.int x)) (hl : k < (F (mi i) (ml i)).length) (d : decode cc pc = .ok (.putfield ix, 3)) (kk : V γ o n (u2 mi i k x) ml (pc + 3) lv rest) : V γ o n mi ml pc lv (.int x :: .ref (ads o i) :: rest) :=
  r_put X f hi hc (fun j hj => ⟨u2_n mi k x hj, rfl⟩) (by rw [u2_s]; exact hs _ _) hl rfl rfl d kk
theorem r_putZ (X : Cx γ l o own cc n r fr lo P) {i ix ci : Nat} {k : Nat} {F : (Nat → Int32) → (Nat → Int64) → List Value} (f : FOKw own ix ci k .boolean) (hi : i < 111) (hc : ∀ f g, cE o f g i = .inr (ci, F f g)) {x : Int32} (hs : ∀ f g, F (uf f k x) g = (F f g).set k (.int x)) (hl : k < (F (mi i) (ml i)).length) (hn : narrow .boolean (.int x) = .int x) (hf : fits .boolean (.int x) = true) (d : decode cc pc = .ok (.putfield ix, 3)) (kk : V γ o n (u2 mi i k x) ml (pc + 3) lv rest) : V γ o n mi ml pc lv (.int x :: .ref (ads o i) :: rest) :=
  r_put X f hi hc (fun j hj => ⟨u2_n mi k x hj, rfl⟩) (by rw [u2_s]; exact hs _ _) hl hn hf d kk
theorem r_putL (X : Cx γ l o own cc n r fr lo P) {i ix ci : Nat} {k : Nat} {F : (Nat → Int32) → (Nat → Int64) → List Value} (f : FOKw own ix ci k .long) (hi : i < 111) (hc : ∀ f g, cE o f g i = .inr (ci, F f g)) {x : Int64} (hs : ∀ f g, F f (uf g k x) = (F f g).set k (.long x)) (hl : k < (F (mi i) (ml i)).length) (d : decode cc pc = .ok (.putfield ix, 3)) (kk : V γ o n mi (u2 ml i k x) (pc + 3) lv rest) : V γ o n mi ml pc lv (.long x :: .ref (ads o i) :: rest) :=
  r_put X f hi hc (fun j hj => ⟨rfl, u2_n ml k x hj⟩) (by rw [u2_s]; exact hs _ _) hl rfl rfl d kk
/-- arrays -/
theorem r_iald (X : Cx γ l o own cc n r fr lo P) {i m j : Nat} {v : Int32} (hi : i < 111) (hc : ∀ f g, cE o f g i = aI o m f) (hm : m < 2 ^ 31) (hj : j < m) (hv : mi i j = v) (d : decode cc pc = .ok (.iaload, 1)) (k : V γ o n mi ml (pc + 1) lv (.int v :: rest)) : V γ o n mi ml pc lv (.int (nI j) :: .ref (ads o i) :: rest) := by
  intro H locs ls h1 h2 h3
  refine va_iald X.1 X.2.1 X.2.2.2.2.2.1.1 h1 i 0 (f := mi i) (n := m) (cA := o.2.2 0) (by rw [cells_at o mi ml hi, hc]; rfl) rfl (vp_in_nI hj hm) d ?_
  rw [nI_clamp (Nat.lt_trans hj hm), hv]
  exact k H locs ls h1 h2 h3
theorem r_zald (X : Cx γ l o own cc n r fr lo P) {i m j : Nat} {v : Int32} (hi : i < 111) (hc : ∀ f g, cE o f g i = aZ o m f) (hm : m < 2 ^ 31) (hj : j < m) (hv : mi i j = v) (d : decode cc pc = .ok (.baload, 1)) (k : V γ o n mi ml (pc + 1) lv (.int v :: rest)) : V γ o n mi ml pc lv (.int (nI j) :: .ref (ads o i) :: rest) := by
  intro H locs ls h1 h2 h3
  refine va_zald X.1 X.2.1 X.2.2.2.2.2.1.1 h1 i 2 (f := mi i) (n := m) (cA := o.2.2 2) (by rw [cells_at o mi ml hi, hc]; rfl) rfl (vp_in_nI hj hm) d ?_
  rw [nI_clamp (Nat.lt_trans hj hm), hv]
  exact k H locs ls h1 h2 h3
theorem r_lald (X : Cx γ l o own cc n r fr lo P) {i m j : Nat} {v : Int64} (hi : i < 111) (hc : ∀ f g, cE o f g i = aJ o m g) (hm : m < 2 ^ 31) (hj : j < m) (hv : ml i j = v) (d : decode cc pc = .ok (.laload, 1)) (k : V γ o n mi ml (pc + 1) lv (.long v :: rest)) : V γ o n mi ml pc lv (.int (nI j) :: .ref (ads o i) :: rest) := by
  intro H locs ls h1 h2 h3
  refine va_lald X.1 X.2.1 X.2.2.2.2.2.1.1 h1 i 1 (f := ml i) (n := m) (cA := o.2.2 1) (by rw [cells_at o mi ml hi, hc]; rfl) rfl (vp_in_nI hj hm) d ?_
  rw [nI_clamp (Nat.lt_trans hj hm), hv]
  exact k H locs ls h1 h2 h3
theorem r_aaldS (X : Cx γ l o own cc n r fr lo P) {i m j a : Nat} {F : Nat → Option Nat} (hi : i < 111) (hc : ∀ f g, cE o f g i = aSt o m F) (hm : m < 2 ^ 31) (hj : j < m) (hv : F j = some a) (d : decode cc pc = .ok (.aaload, 1)) (k : V γ o n mi ml (pc + 1) lv (.ref a :: rest)) : V γ o n mi ml pc lv (.int (nI j) :: .ref (ads o i) :: rest) := by
  intro H locs ls h1 h2 h3
  refine va_aldq X.1 X.2.1 X.2.2.2.2.2.1.1 h1 i 4 (f := F) (n := m) (cA := o.2.2 4) (C := "NearMarks$State") (by rw [cells_at o mi ml hi, hc]; rfl) rfl (vp_in_nI hj hm) d ?_
  rw [nI_clamp (Nat.lt_trans hj hm), hv]
  exact k H locs ls h1 h2 h3
theorem r_aaldI (X : Cx γ l o own cc n r fr lo P) {i m j a : Nat} {F : Nat → Option Nat} (hi : i < 111) (hc : ∀ f g, cE o f g i = aIm o m F) (hm : m < 2 ^ 31) (hj : j < m) (hv : F j = some a) (d : decode cc pc = .ok (.aaload, 1)) (k : V γ o n mi ml (pc + 1) lv (.ref a :: rest)) : V γ o n mi ml pc lv (.int (nI j) :: .ref (ads o i) :: rest) := by
  intro H locs ls h1 h2 h3
  refine va_aldq X.1 X.2.1 X.2.2.2.2.2.1.1 h1 i 3 (f := F) (n := m) (cA := o.2.2 3) (C := "NearMarks$Image") (by rw [cells_at o mi ml hi, hc]; rfl) rfl (vp_in_nI hj hm) d ?_
  rw [nI_clamp (Nat.lt_trans hj hm), hv]
  exact k H locs ls h1 h2 h3
theorem r_iast (X : Cx γ l o own cc n r fr lo P) {i m j : Nat} {x : Int32} (hi : i < 111) (hc : ∀ f g, cE o f g i = aI o m f) (hm : m < 2 ^ 31) (hj : j < m) (d : decode cc pc = .ok (.iastore, 1)) (k : V γ o n (u2 mi i j x) ml (pc + 1) lv rest) : V γ o n mi ml pc lv (.int x :: .int (nI j) :: .ref (ads o i) :: rest) := by
  intro H locs ls h1 h2 h3
  refine va_iast X.1 X.2.1 X.2.2.2.2.2.1.1 h1 (cells_D o mi ml) h2 i 0 (f := mi i) (n := m) (cA := o.2.2 0) (by rw [cells_at o mi ml hi, hc]; rfl) rfl (vp_in_nI hj hm) d (fun H1 locs1 g1 g2 g3 => ?_)
  rw [nI_clamp (Nat.lt_trans hj hm), cells_set o (mi' := u2 mi i j x) (ml' := ml) hi (fun q hq => ⟨u2_n mi j x hq, rfl⟩) (by rw [hc, u2_s]; rfl)] at g1
  exact k H1 locs1 ls g1 g3 h3
theorem r_zast (X : Cx γ l o own cc n r fr lo P) {i m j : Nat} {x : Int32} (hx : vp_nar .boolean x = x) (hi : i < 111) (hc : ∀ f g, cE o f g i = aZ o m f) (hm : m < 2 ^ 31) (hj : j < m) (d : decode cc pc = .ok (.bastore, 1)) (k : V γ o n (u2 mi i j x) ml (pc + 1) lv rest) : V γ o n mi ml pc lv (.int x :: .int (nI j) :: .ref (ads o i) :: rest) := by
  intro H locs ls h1 h2 h3
  refine va_zast X.1 X.2.1 X.2.2.2.2.2.1.1 h1 (cells_D o mi ml) h2 i 2 (f := mi i) (n := m) (cA := o.2.2 2) (by rw [cells_at o mi ml hi, hc]; rfl) rfl (vp_in_nI hj hm) d (fun H1 locs1 g1 g2 g3 => ?_)
  rw [nI_clamp (Nat.lt_trans hj hm), hx, cells_set o (mi' := u2 mi i j x) (ml' := ml) hi (fun q hq => ⟨u2_n mi j x hq, rfl⟩) (by rw [hc, u2_s]; rfl)] at g1
  exact k H1 locs1 ls g1 g3 h3
theorem r_last (X : Cx γ l o own cc n r fr lo P) {i m j : Nat} {x : Int64} (hi : i < 111) (hc : ∀ f g, cE o f g i = aJ o m g) (hm : m < 2 ^ 31) (hj : j < m) (d : decode cc pc = .ok (.lastore, 1)) (k : V γ o n mi (u2 ml i j x) (pc + 1) lv rest) : V γ o n mi ml pc lv (.long x :: .int (nI j) :: .ref (ads o i) :: rest) := by
  intro H locs ls h1 h2 h3
  refine va_last X.1 X.2.1 X.2.2.2.2.2.1.1 h1 (cells_D o mi ml) h2 i 1 (f := ml i) (n := m) (cA := o.2.2 1) (by rw [cells_at o mi ml hi, hc]; rfl) rfl (vp_in_nI hj hm) d (fun H1 locs1 g1 g2 g3 => ?_)
  rw [nI_clamp (Nat.lt_trans hj hm), cells_set o (mi' := mi) (ml' := u2 ml i j x) hi (fun q hq => ⟨rfl, u2_n ml j x hq⟩) (by rw [hc, u2_s]; rfl)] at g1
  exact k H1 locs1 ls g1 g3 h3
/-- switches -/
theorem r_tswIn (X : Cx γ l o own cc n r fr lo P) {dflt lo0 hi0 : Int} {offs : Array Int} {len : Nat} {x : Int32} {off : Int} {tgt : Nat} (d : decode cc pc = .ok (.tableswitch dflt lo0 hi0 offs, len)) (a1 : ¬ x.toInt < lo0) (a2 : ¬ hi0 < x.toInt) (ho : offs[(x.toInt - lo0).toNat]? = some off) (ht : (pc : Int) + off = (tgt : Int)) (k : V γ o n mi ml tgt lv rest) : V γ o n mi ml pc lv (.int x :: rest) := fun H locs ls h1 h2 h3 => lv_tableIn X.1 X.2.1 d a1 a2 ho ht (k H locs ls h1 h2 h3)
theorem r_tswOut (X : Cx γ l o own cc n r fr lo P) {dflt lo0 hi0 : Int} {offs : Array Int} {len : Nat} {x : Int32} {tgt : Nat} (d : decode cc pc = .ok (.tableswitch dflt lo0 hi0 offs, len)) (h : x.toInt < lo0 ∨ hi0 < x.toInt) (ht : (pc : Int) + dflt = (tgt : Int)) (k : V γ o n mi ml tgt lv rest) : V γ o n mi ml pc lv (.int x :: rest) := fun H locs ls h1 h2 h3 => lv_tableOut X.1 X.2.1 d h ht (k H locs ls h1 h2 h3)
/-- calls -/
theorem Pof.blind {A : List Value} : FrameBlind (Pof o A mi ml) := fun a U g mk q => by
  obtain ⟨q0, q1, q2⟩ := q
  exact ⟨q0, q1, Kp.warm (s := U) (U := U.calling g mk a) (State.WarmedH.refl U) q2⟩
theorem V.run {P' : Option Value → MI → ML → Prop} {a : Array Value} (hr : ∀ (H : Heap) (locs : List Loc) (ls : Array Slot), Wp o mi ml H → va_S (isA o) γ.s.heap H locs → lv_has ls n lv → va_Run γ.p γ.l γ.e γ.R γ.s γ.m γ.a γ.b γ.me γ.c H locs 0 0 0 0 (F0 γ.m pc ls st) rest (Qof o P' a) (isA o))
    (kk : ∀ (v : Option Value) (mi' : MI) (ml' : ML), P' v mi' ml' → V γ o n mi' ml' (pc + 3) lv (v.toList ++ rest)) : V γ o n mi ml pc lv st := by
  intro H locs ls h1 h2 h3 T hT Z
  obtain ⟨v, st₀, t, T', L, h0, Z', hL, e1, e2, ⟨⟨v', mi', ml', hv, hp, hw⟩, hz, hk⟩, sg⟩ := hr H locs ls h1 h2 h3 T hT Z
  cases hv
  rw [h0] at hz hk
  obtain ⟨t2, a1, b1⟩ := kk v mi' ml' hp T'.heap (locs ++ L) ls (by rw [e1]; exact hw)
    ⟨Nat.le_trans h2.1 (by rw [e1]; exact hz), fun q g1 g2 => by rw [e1, hk q (Nat.lt_of_lt_of_le g1 h2.1) g2]; exact h2.2.1 q g1 g2, fun q hq => by
      rcases List.mem_append.mp hq with h | h
      · exact h2.2.2 q h
      · exact hL q h⟩ h3 T' rfl Z'
  exact ⟨t2, sg t2 a1, b1⟩
def SOK (y : MethodName) (cc : ByteArray) (n : Nat) (r : Option FieldType) (k : Nat) : Prop := Cond.static y ∈ gtbl ∧ Cond.initialized y.cls ∈ gtbl ∧ Cond.code y cc n r ∈ gtbl ∧ (y.cls ≠ "java/lang/invoke/MethodHandle" ∧ y.cls ≠ "java/lang/invoke/VarHandle" ∧ (parseMethodDescriptor y.desc).map (fun d => d.parameters.length) = some k)
def VOK (y : MethodName) (cc : ByteArray) (n : Nat) (r : Option FieldType) (k : Nat) : Prop := Cond.instanceMethod y ∈ gtbl ∧ Cond.selects y.cls y y ∈ gtbl ∧ Cond.initialized y.cls ∈ gtbl ∧ Cond.code y cc n r ∈ gtbl ∧ (y.cls ≠ "java/lang/invoke/MethodHandle" ∧ y.cls ≠ "java/lang/invoke/VarHandle" ∧ (parseMethodDescriptor y.desc).map (fun d => d.parameters.length) = some k)
theorem r_callS (X : Cx γ l o own cc n r fr lo P) {y : MethodName} {cc' : ByteArray} {n' : Nat} {r' : Option FieldType} {fr' lo' k ix : Nat} {As : List Value} {P' : Option Value → MI → ML → Prop} (hC : Con l y cc' n' r' fr' lo' o As mi ml P') (Y : SOK y cc' n' r' k) (w : Cond.methodLink own ix y ∈ gtbl) (hk : As.length = k) (hR : fr' + 1 ≤ fr ∧ 8 + (n' + 11) + lo' ≤ lo) (hst : st = As.reverse ++ rest) (hW : (rest.map fun v => v.category).sum ≤ 8) (d : decode cc pc = .ok (.invokestatic ix, 3))
    (kk : ∀ (v : Option Value) (mi' : MI) (ml' : ML), P' v mi' ml' → V γ o n mi' ml' (pc + 3) lv (v.toList ++ rest)) : V γ o n mi ml pc lv st := by
  obtain ⟨x1, x2, x3, x4, x5, x6, x7, x8, x9, x10, x11, x12⟩ := X
  subst x9; subst x10; subst x11
  obtain ⟨y1, y2, y3, y4⟩ := Y
  refine V.run (fun H locs ls h1 h2 h3 => va_runS (As := As) (g := F0 γ.m pc ls st) ⟨x1, x2, x3, x4, x5⟩ hC (va_cwS k x5 ?_ rfl rfl rfl y4 hR) ⟨Pof.blind, fun U hU hWu => ⟨rfl, by rw [hU]; exact h1, x6.warm hWu⟩⟩ rfl hk h3.1 hst (lv_room hW) d ⟨Nat.zero_le _, Nat.zero_le _⟩) kk
  intro w' hw'
  rcases List.mem_append.mp hw' with h | h
  · have h' : w' = .methodLink own ix y ∨ w' = .static y ∨ w' = .initialized y.cls := by simpa using h
    rcases h' with rfl | rfl | rfl
    · exact gtbl_good _ w
    · exact gtbl_good _ y1
    · exact gtbl_good _ y2
  · exact wsY_good y3 _ h
theorem r_callN (X : Cx γ l o own cc n r fr lo P) {y : MethodName} {cc' : ByteArray} {n' : Nat} {r' : Option FieldType} {fr' lo' k ix : Nat} {host : String} {As : List Value} {P' : Option Value → MI → ML → Prop} (hC : Con l y cc' n' r' fr' lo' o As mi ml P') (Y : SOK y cc' n' r' k) (w : (own, ix, y, host) ∈ nst) (hk : As.length = k) (hR : fr' + 1 ≤ fr ∧ 8 + (n' + 11) + lo' ≤ lo) (hst : st = As.reverse ++ rest) (hW : (rest.map fun v => v.category).sum ≤ 8) (d : decode cc pc = .ok (.invokestatic ix, 3))
    (kk : ∀ (v : Option Value) (mi' : MI) (ml' : ML), P' v mi' ml' → V γ o n mi' ml' (pc + 3) lv (v.toList ++ rest)) : V γ o n mi ml pc lv st := by
  obtain ⟨x1, x2, x3, x4, x5, x6, x7, x8, x9, x10, x11, x12⟩ := X
  subst x9; subst x10; subst x11
  obtain ⟨y1, y2, y3, y4⟩ := Y
  exact V.run (fun H locs ls h1 h2 h3 => va_runSN (As := As) (g := F0 γ.m pc ls st) (host := host) ⟨x1, x2, x3, x4, x5⟩ hC ⟨va_cnB k x5 (wsY_good y3) rfl rfl rfl (x6.2 _ w) (x5 _ y2) y4 hR, x5 _ y1, trivial⟩ ⟨Pof.blind, fun U hU hWu => ⟨rfl, by rw [hU]; exact h1, x6.warm hWu⟩⟩ rfl hk h3.1 hst (lv_room hW) d ⟨Nat.zero_le _, Nat.zero_le _⟩) kk
theorem r_callV (X : Cx γ l o own cc n r fr lo P) {y : MethodName} {cc' : ByteArray} {n' : Nat} {r' : Option FieldType} {fr' lo' k ix i ci : Nat} {F : (Nat → Int32) → (Nat → Int64) → List Value} {T : u_T} {N : Nat} {As : List Value} {P' : Option Value → MI → ML → Prop} (hC : Con l y cc' n' r' fr' lo' o (.ref (ads o i) :: As) mi ml P') (Y : VOK y cc' n' r' k) (w : Cond.methodLink own ix y ∈ gtbl) (hk : As.length = k) (hi : i < 111) (hc : ∀ f g, cE o f g i = .inr (ci, F f g)) (hcl : vcl[ci]? = some (y.cls, T, N)) (hR : fr' + 1 ≤ fr ∧ 8 + (n' + 11) + lo' ≤ lo) (hst : st = As.reverse ++ .ref (ads o i) :: rest) (hW : (rest.map fun v => v.category).sum ≤ 8) (d : decode cc pc = .ok (.invokevirtual ix, 3))
    (kk : ∀ (v : Option Value) (mi' : MI) (ml' : ML), P' v mi' ml' → V γ o n mi' ml' (pc + 3) lv (v.toList ++ rest)) : V γ o n mi ml pc lv st := by
  obtain ⟨x1, x2, x3, x4, x5, x6, x7, x8, x9, x10, x11, x12⟩ := X
  subst x9; subst x10; subst x11
  obtain ⟨y1, y2, y3, y4, y5⟩ := Y
  refine V.run (fun H locs ls h1 h2 h3 => va_runV (C := y.cls) (As := As) (g := F0 γ.m pc ls st) ⟨x1, x2, x3, x4, x5⟩ hC (cwV k x5 ?_ rfl rfl rfl ⟨rfl, y5⟩ hR) ⟨Pof.blind, va_recv x6.1 h1 (q0 := i) hcl (by rw [cells_at o mi ml hi, hc]), fun U hU hWu => ⟨rfl, by rw [hU]; exact h1, x6.warm hWu⟩⟩ rfl hk h3.1 hst (lv_room hW) d ⟨Nat.zero_le _, Nat.zero_le _⟩) kk
  intro w' hw'
  rcases List.mem_append.mp hw' with h | h
  · have h' : w' = .methodLink own ix y ∨ w' = .instanceMethod y ∨ w' = .selects y.cls y y ∨ w' = .initialized y.cls := by simpa using h
    rcases h' with rfl | rfl | rfl | rfl
    · exact gtbl_good _ w
    · exact gtbl_good _ y1
    · exact gtbl_good _ y2
    · exact gtbl_good _ y3
  · exact wsY_good y4 _ h
/-- answers without a change: I int, L long, D any answer and new maps -/
def ConD (l : Launch) (y : MethodName) (cc : ByteArray) (n : Nat) (r : Option FieldType) (fr lo : Nat) (o : OM) (A : List Value) (mi : MI) (ml : ML) (v : Option Value) (mi' : MI) (ml' : ML) : Prop := Con l y cc n r fr lo o A mi ml (fun v0 a b => v0 = v ∧ a = mi' ∧ b = ml')
theorem kD {mi' : MI} {ml' : ML} {v : Option Value} {st' : List Value} (h : v.toList ++ rest = st') (k : V γ o n mi' ml' (pc + 3) lv st') : ∀ (v0 : Option Value) (a : MI) (b : ML), v0 = v ∧ a = mi' ∧ b = ml' → V γ o n a b (pc + 3) lv (v0.toList ++ rest) := by
  rintro _ _ _ ⟨rfl, rfl, rfl⟩
  rw [h]; exact k
end ROWS2
end
