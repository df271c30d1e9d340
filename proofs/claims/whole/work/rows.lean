section
/-- a private method of a class that the tables say can be made, by its rows of tables_1 -/
def lw_okq (q : MethodName × Nat) : Prop := (q.1.cls ≠ "java/lang/invoke/MethodHandle" ∧ q.1.cls ≠ "java/lang/invoke/VarHandle") ∧ Cond.instantiable q.1.cls q.2 ∈ tables_1 ∧ Cond.privateMethod q.1 ∈ tables_1 ∧ Cond.instanceMethod q.1 ∈ tables_1
theorem lw_p0 : lw_okq (⟨"NearMarks", "countLookedAt", "(I)I"⟩, 10) := ⟨⟨by decide +kernel, by decide +kernel⟩, List.mem_of_getElem? (i := 16) (by decide +kernel), List.mem_of_getElem? (i := 252) (by decide +kernel), List.mem_of_getElem? (i := 253) (by decide +kernel)⟩
theorem lw_p1 : lw_okq (⟨"NearMarks", "leastDistance", "()I"⟩, 10) := ⟨⟨by decide +kernel, by decide +kernel⟩, List.mem_of_getElem? (i := 16) (by decide +kernel), List.mem_of_getElem? (i := 280) (by decide +kernel), List.mem_of_getElem? (i := 281) (by decide +kernel)⟩
theorem lw_p2 : lw_okq (⟨"NearMarks", "countOthersWithin", "(II)I"⟩, 10) := ⟨⟨by decide +kernel, by decide +kernel⟩, List.mem_of_getElem? (i := 16) (by decide +kernel), List.mem_of_getElem? (i := 371) (by decide +kernel), List.mem_of_getElem? (i := 372) (by decide +kernel)⟩
theorem lw_p3 : lw_okq (⟨"NearMarks", "countWithPart", "(J)I"⟩, 10) := ⟨⟨by decide +kernel, by decide +kernel⟩, List.mem_of_getElem? (i := 16) (by decide +kernel), List.mem_of_getElem? (i := 380) (by decide +kernel), List.mem_of_getElem? (i := 381) (by decide +kernel)⟩
theorem lw_p4 : lw_okq (⟨"NearMarks", "changeHandByDraws", "()V"⟩, 10) := ⟨⟨by decide +kernel, by decide +kernel⟩, List.mem_of_getElem? (i := 16) (by decide +kernel), List.mem_of_getElem? (i := 469) (by decide +kernel), List.mem_of_getElem? (i := 470) (by decide +kernel)⟩
theorem lw_p5 : lw_okq (⟨"NearMarks", "putIfUnlikeAll", "()V"⟩, 10) := ⟨⟨by decide +kernel, by decide +kernel⟩, List.mem_of_getElem? (i := 16) (by decide +kernel), List.mem_of_getElem? (i := 486) (by decide +kernel), List.mem_of_getElem? (i := 487) (by decide +kernel)⟩
theorem lw_p6 : lw_okq (⟨"NearMarks", "isNear", "(II)Z"⟩, 10) := ⟨⟨by decide +kernel, by decide +kernel⟩, List.mem_of_getElem? (i := 16) (by decide +kernel), List.mem_of_getElem? (i := 505) (by decide +kernel), List.mem_of_getElem? (i := 506) (by decide +kernel)⟩
theorem lw_p7 : lw_okq (⟨"NearMarks", "countAllLooks", "(LNearMarks$Parts;)I"⟩, 10) := ⟨⟨by decide +kernel, by decide +kernel⟩, List.mem_of_getElem? (i := 16) (by decide +kernel), List.mem_of_getElem? (i := 574) (by decide +kernel), List.mem_of_getElem? (i := 575) (by decide +kernel)⟩
theorem lw_p8 : lw_okq (⟨"NearMarksModel", "marks", "()I"⟩, 19) := ⟨⟨by decide +kernel, by decide +kernel⟩, List.mem_of_getElem? (i := 615) (by decide +kernel), List.mem_of_getElem? (i := 685) (by decide +kernel), List.mem_of_getElem? (i := 686) (by decide +kernel)⟩
theorem lw_p9 : lw_okq (⟨"NearMarksModel", "parts", "()I"⟩, 19) := ⟨⟨by decide +kernel, by decide +kernel⟩, List.mem_of_getElem? (i := 615) (by decide +kernel), List.mem_of_getElem? (i := 689) (by decide +kernel), List.mem_of_getElem? (i := 690) (by decide +kernel)⟩
theorem lw_p10 : lw_okq (⟨"NearMarksModel", "like", "(J)I"⟩, 19) := ⟨⟨by decide +kernel, by decide +kernel⟩, List.mem_of_getElem? (i := 615) (by decide +kernel), List.mem_of_getElem? (i := 696) (by decide +kernel), List.mem_of_getElem? (i := 697) (by decide +kernel)⟩
theorem lw_p11 : lw_okq (⟨"NearMarksModel", "own", "(I)J"⟩, 19) := ⟨⟨by decide +kernel, by decide +kernel⟩, List.mem_of_getElem? (i := 615) (by decide +kernel), List.mem_of_getElem? (i := 700) (by decide +kernel), List.mem_of_getElem? (i := 701) (by decide +kernel)⟩
theorem lw_p12 : lw_okq (⟨"NearMarksModel", "looked", "(Z)I"⟩, 19) := ⟨⟨by decide +kernel, by decide +kernel⟩, List.mem_of_getElem? (i := 615) (by decide +kernel), List.mem_of_getElem? (i := 704) (by decide +kernel), List.mem_of_getElem? (i := 705) (by decide +kernel)⟩
theorem lw_p13 : lw_okq (⟨"NearMarksModel", "off", "(I)I"⟩, 19) := ⟨⟨by decide +kernel, by decide +kernel⟩, List.mem_of_getElem? (i := 615) (by decide +kernel), List.mem_of_getElem? (i := 714) (by decide +kernel), List.mem_of_getElem? (i := 715) (by decide +kernel)⟩
theorem lw_p14 : lw_okq (⟨"NearMarksModel", "first", "(Z)I"⟩, 19) := ⟨⟨by decide +kernel, by decide +kernel⟩, List.mem_of_getElem? (i := 615) (by decide +kernel), List.mem_of_getElem? (i := 718) (by decide +kernel), List.mem_of_getElem? (i := 719) (by decide +kernel)⟩
theorem lw_p15 : lw_okq (⟨"NearMarksModel", "nearestOf", "(I)I"⟩, 19) := ⟨⟨by decide +kernel, by decide +kernel⟩, List.mem_of_getElem? (i := 615) (by decide +kernel), List.mem_of_getElem? (i := 722) (by decide +kernel), List.mem_of_getElem? (i := 723) (by decide +kernel)⟩
def lw_privs_1 : List (MethodName × Nat) := [(⟨"NearMarks", "countLookedAt", "(I)I"⟩, 10), (⟨"NearMarks", "leastDistance", "()I"⟩, 10), (⟨"NearMarks", "countOthersWithin", "(II)I"⟩, 10), (⟨"NearMarks", "countWithPart", "(J)I"⟩, 10), (⟨"NearMarks", "changeHandByDraws", "()V"⟩, 10), (⟨"NearMarks", "putIfUnlikeAll", "()V"⟩, 10), (⟨"NearMarks", "isNear", "(II)Z"⟩, 10), (⟨"NearMarks", "countAllLooks", "(LNearMarks$Parts;)I"⟩, 10), (⟨"NearMarksModel", "marks", "()I"⟩, 19), (⟨"NearMarksModel", "parts", "()I"⟩, 19), (⟨"NearMarksModel", "like", "(J)I"⟩, 19), (⟨"NearMarksModel", "own", "(I)J"⟩, 19), (⟨"NearMarksModel", "looked", "(Z)I"⟩, 19), (⟨"NearMarksModel", "off", "(I)I"⟩, 19), (⟨"NearMarksModel", "first", "(Z)I"⟩, 19), (⟨"NearMarksModel", "nearestOf", "(I)I"⟩, 19)]
theorem lw_r1 : ∀ q ∈ lw_privs_1, lw_okq q := List.forall_mem_cons.mpr ⟨lw_p0, List.forall_mem_cons.mpr ⟨lw_p1, List.forall_mem_cons.mpr ⟨lw_p2, List.forall_mem_cons.mpr ⟨lw_p3, List.forall_mem_cons.mpr ⟨lw_p4, List.forall_mem_cons.mpr ⟨lw_p5, List.forall_mem_cons.mpr ⟨lw_p6, List.forall_mem_cons.mpr ⟨lw_p7, List.forall_mem_cons.mpr ⟨lw_p8, List.forall_mem_cons.mpr ⟨lw_p9, List.forall_mem_cons.mpr ⟨lw_p10, List.forall_mem_cons.mpr ⟨lw_p11, List.forall_mem_cons.mpr ⟨lw_p12, List.forall_mem_cons.mpr ⟨lw_p13, List.forall_mem_cons.mpr ⟨lw_p14, List.forall_mem_cons.mpr ⟨lw_p15, fun _ h => absurd h List.not_mem_nil⟩⟩⟩⟩⟩⟩⟩⟩⟩⟩⟩⟩⟩⟩⟩⟩
theorem lw_p16 : lw_okq (⟨"NearMarksModel", "ahead", "(I)I"⟩, 19) := ⟨⟨by decide +kernel, by decide +kernel⟩, List.mem_of_getElem? (i := 615) (by decide +kernel), List.mem_of_getElem? (i := 726) (by decide +kernel), List.mem_of_getElem? (i := 727) (by decide +kernel)⟩
theorem lw_p17 : lw_okq (⟨"NearMarksModel", "dead", "()I"⟩, 19) := ⟨⟨by decide +kernel, by decide +kernel⟩, List.mem_of_getElem? (i := 615) (by decide +kernel), List.mem_of_getElem? (i := 730) (by decide +kernel), List.mem_of_getElem? (i := 731) (by decide +kernel)⟩
theorem lw_p18 : lw_okq (⟨"NearMarksModel", "isDead", "(I)Z"⟩, 19) := ⟨⟨by decide +kernel, by decide +kernel⟩, List.mem_of_getElem? (i := 615) (by decide +kernel), List.mem_of_getElem? (i := 734) (by decide +kernel), List.mem_of_getElem? (i := 735) (by decide +kernel)⟩
theorem lw_p19 : lw_okq (⟨"NearMarksModel", "together", "()I"⟩, 19) := ⟨⟨by decide +kernel, by decide +kernel⟩, List.mem_of_getElem? (i := 615) (by decide +kernel), List.mem_of_getElem? (i := 738) (by decide +kernel), List.mem_of_getElem? (i := 739) (by decide +kernel)⟩
theorem lw_p20 : lw_okq (⟨"NearMarksModel", "areTogether", "(II)Z"⟩, 19) := ⟨⟨by decide +kernel, by decide +kernel⟩, List.mem_of_getElem? (i := 615) (by decide +kernel), List.mem_of_getElem? (i := 742) (by decide +kernel), List.mem_of_getElem? (i := 743) (by decide +kernel)⟩
theorem lw_p21 : lw_okq (⟨"NearMarksModel", "could", "(Z)I"⟩, 19) := ⟨⟨by decide +kernel, by decide +kernel⟩, List.mem_of_getElem? (i := 615) (by decide +kernel), List.mem_of_getElem? (i := 746) (by decide +kernel), List.mem_of_getElem? (i := 747) (by decide +kernel)⟩
theorem lw_p22 : lw_okq (⟨"NearMarksModel", "couldBe", "(I)Z"⟩, 19) := ⟨⟨by decide +kernel, by decide +kernel⟩, List.mem_of_getElem? (i := 615) (by decide +kernel), List.mem_of_getElem? (i := 750) (by decide +kernel), List.mem_of_getElem? (i := 751) (by decide +kernel)⟩
theorem lw_p23 : lw_okq (⟨"NearMarksModel", "asked", "()I"⟩, 19) := ⟨⟨by decide +kernel, by decide +kernel⟩, List.mem_of_getElem? (i := 615) (by decide +kernel), List.mem_of_getElem? (i := 754) (by decide +kernel), List.mem_of_getElem? (i := 755) (by decide +kernel)⟩
theorem lw_p24 : lw_okq (⟨"NearMarksModel", "wrong", "()I"⟩, 19) := ⟨⟨by decide +kernel, by decide +kernel⟩, List.mem_of_getElem? (i := 615) (by decide +kernel), List.mem_of_getElem? (i := 758) (by decide +kernel), List.mem_of_getElem? (i := 759) (by decide +kernel)⟩
theorem lw_p25 : lw_okq (⟨"NearMarksModel", "isMark", "(I)Z"⟩, 19) := ⟨⟨by decide +kernel, by decide +kernel⟩, List.mem_of_getElem? (i := 615) (by decide +kernel), List.mem_of_getElem? (i := 762) (by decide +kernel), List.mem_of_getElem? (i := 763) (by decide +kernel)⟩
theorem lw_p26 : lw_okq (⟨"NearMarksModel", "beginOf", "(I)I"⟩, 19) := ⟨⟨by decide +kernel, by decide +kernel⟩, List.mem_of_getElem? (i := 615) (by decide +kernel), List.mem_of_getElem? (i := 787) (by decide +kernel), List.mem_of_getElem? (i := 788) (by decide +kernel)⟩
theorem lw_p27 : lw_okq (⟨"NearMarksModel", "endOf", "(I)I"⟩, 19) := ⟨⟨by decide +kernel, by decide +kernel⟩, List.mem_of_getElem? (i := 615) (by decide +kernel), List.mem_of_getElem? (i := 791) (by decide +kernel), List.mem_of_getElem? (i := 792) (by decide +kernel)⟩
theorem lw_p28 : lw_okq (⟨"NearMarksModel", "have", "(I)I"⟩, 19) := ⟨⟨by decide +kernel, by decide +kernel⟩, List.mem_of_getElem? (i := 615) (by decide +kernel), List.mem_of_getElem? (i := 795) (by decide +kernel), List.mem_of_getElem? (i := 796) (by decide +kernel)⟩
theorem lw_p29 : lw_okq (⟨"NearMarksModel", "note", "()V"⟩, 19) := ⟨⟨by decide +kernel, by decide +kernel⟩, List.mem_of_getElem? (i := 615) (by decide +kernel), List.mem_of_getElem? (i := 805) (by decide +kernel), List.mem_of_getElem? (i := 806) (by decide +kernel)⟩
theorem lw_p30 : lw_okq (⟨"NearMarksModel", "lay", "([J[II)V"⟩, 19) := ⟨⟨by decide +kernel, by decide +kernel⟩, List.mem_of_getElem? (i := 615) (by decide +kernel), List.mem_of_getElem? (i := 809) (by decide +kernel), List.mem_of_getElem? (i := 810) (by decide +kernel)⟩
theorem lw_p31 : lw_okq (⟨"NearMarksModel", "row", "()I"⟩, 19) := ⟨⟨by decide +kernel, by decide +kernel⟩, List.mem_of_getElem? (i := 615) (by decide +kernel), List.mem_of_getElem? (i := 823) (by decide +kernel), List.mem_of_getElem? (i := 824) (by decide +kernel)⟩
def lw_privs_2 : List (MethodName × Nat) := [(⟨"NearMarksModel", "ahead", "(I)I"⟩, 19), (⟨"NearMarksModel", "dead", "()I"⟩, 19), (⟨"NearMarksModel", "isDead", "(I)Z"⟩, 19), (⟨"NearMarksModel", "together", "()I"⟩, 19), (⟨"NearMarksModel", "areTogether", "(II)Z"⟩, 19), (⟨"NearMarksModel", "could", "(Z)I"⟩, 19), (⟨"NearMarksModel", "couldBe", "(I)Z"⟩, 19), (⟨"NearMarksModel", "asked", "()I"⟩, 19), (⟨"NearMarksModel", "wrong", "()I"⟩, 19), (⟨"NearMarksModel", "isMark", "(I)Z"⟩, 19), (⟨"NearMarksModel", "beginOf", "(I)I"⟩, 19), (⟨"NearMarksModel", "endOf", "(I)I"⟩, 19), (⟨"NearMarksModel", "have", "(I)I"⟩, 19), (⟨"NearMarksModel", "note", "()V"⟩, 19), (⟨"NearMarksModel", "lay", "([J[II)V"⟩, 19), (⟨"NearMarksModel", "row", "()I"⟩, 19)]
theorem lw_r2 : ∀ q ∈ lw_privs_2, lw_okq q := List.forall_mem_cons.mpr ⟨lw_p16, List.forall_mem_cons.mpr ⟨lw_p17, List.forall_mem_cons.mpr ⟨lw_p18, List.forall_mem_cons.mpr ⟨lw_p19, List.forall_mem_cons.mpr ⟨lw_p20, List.forall_mem_cons.mpr ⟨lw_p21, List.forall_mem_cons.mpr ⟨lw_p22, List.forall_mem_cons.mpr ⟨lw_p23, List.forall_mem_cons.mpr ⟨lw_p24, List.forall_mem_cons.mpr ⟨lw_p25, List.forall_mem_cons.mpr ⟨lw_p26, List.forall_mem_cons.mpr ⟨lw_p27, List.forall_mem_cons.mpr ⟨lw_p28, List.forall_mem_cons.mpr ⟨lw_p29, List.forall_mem_cons.mpr ⟨lw_p30, List.forall_mem_cons.mpr ⟨lw_p31, fun _ h => absurd h List.not_mem_nil⟩⟩⟩⟩⟩⟩⟩⟩⟩⟩⟩⟩⟩⟩⟩⟩
theorem lw_p32 : lw_okq (⟨"NearMarksModel", "add", "(I)V"⟩, 19) := ⟨⟨by decide +kernel, by decide +kernel⟩, List.mem_of_getElem? (i := 615) (by decide +kernel), List.mem_of_getElem? (i := 842) (by decide +kernel), List.mem_of_getElem? (i := 843) (by decide +kernel)⟩
theorem lw_p33 : lw_okq (⟨"NearMarksModel", "lot", "()V"⟩, 19) := ⟨⟨by decide +kernel, by decide +kernel⟩, List.mem_of_getElem? (i := 615) (by decide +kernel), List.mem_of_getElem? (i := 863) (by decide +kernel), List.mem_of_getElem? (i := 864) (by decide +kernel)⟩
theorem lw_p34 : lw_okq (⟨"NearMarksModel", "draw", "(I)I"⟩, 19) := ⟨⟨by decide +kernel, by decide +kernel⟩, List.mem_of_getElem? (i := 615) (by decide +kernel), List.mem_of_getElem? (i := 867) (by decide +kernel), List.mem_of_getElem? (i := 868) (by decide +kernel)⟩
theorem lw_p35 : lw_okq (⟨"NearMarksModel", "become", "([J[II)V"⟩, 19) := ⟨⟨by decide +kernel, by decide +kernel⟩, List.mem_of_getElem? (i := 615) (by decide +kernel), List.mem_of_getElem? (i := 879) (by decide +kernel), List.mem_of_getElem? (i := 880) (by decide +kernel)⟩
theorem lw_p36 : lw_okq (⟨"NearMarksModel", "layGroups", "(I)I"⟩, 19) := ⟨⟨by decide +kernel, by decide +kernel⟩, List.mem_of_getElem? (i := 615) (by decide +kernel), List.mem_of_getElem? (i := 900) (by decide +kernel), List.mem_of_getElem? (i := 901) (by decide +kernel)⟩
theorem lw_p37 : lw_okq (⟨"NearMarksModel", "leastOf", "(I)I"⟩, 19) := ⟨⟨by decide +kernel, by decide +kernel⟩, List.mem_of_getElem? (i := 615) (by decide +kernel), List.mem_of_getElem? (i := 908) (by decide +kernel), List.mem_of_getElem? (i := 909) (by decide +kernel)⟩
theorem lw_p38 : lw_okq (⟨"NearMarksModel", "manyOf", "(I)I"⟩, 19) := ⟨⟨by decide +kernel, by decide +kernel⟩, List.mem_of_getElem? (i := 615) (by decide +kernel), List.mem_of_getElem? (i := 912) (by decide +kernel), List.mem_of_getElem? (i := 913) (by decide +kernel)⟩
theorem lw_p39 : lw_okq (⟨"NearMarksModel", "wide", "(I)I"⟩, 19) := ⟨⟨by decide +kernel, by decide +kernel⟩, List.mem_of_getElem? (i := 615) (by decide +kernel), List.mem_of_getElem? (i := 916) (by decide +kernel), List.mem_of_getElem? (i := 917) (by decide +kernel)⟩
def lw_privs_3 : List (MethodName × Nat) := [(⟨"NearMarksModel", "add", "(I)V"⟩, 19), (⟨"NearMarksModel", "lot", "()V"⟩, 19), (⟨"NearMarksModel", "draw", "(I)I"⟩, 19), (⟨"NearMarksModel", "become", "([J[II)V"⟩, 19), (⟨"NearMarksModel", "layGroups", "(I)I"⟩, 19), (⟨"NearMarksModel", "leastOf", "(I)I"⟩, 19), (⟨"NearMarksModel", "manyOf", "(I)I"⟩, 19), (⟨"NearMarksModel", "wide", "(I)I"⟩, 19)]
theorem lw_r3 : ∀ q ∈ lw_privs_3, lw_okq q := List.forall_mem_cons.mpr ⟨lw_p32, List.forall_mem_cons.mpr ⟨lw_p33, List.forall_mem_cons.mpr ⟨lw_p34, List.forall_mem_cons.mpr ⟨lw_p35, List.forall_mem_cons.mpr ⟨lw_p36, List.forall_mem_cons.mpr ⟨lw_p37, List.forall_mem_cons.mpr ⟨lw_p38, List.forall_mem_cons.mpr ⟨lw_p39, fun _ h => absurd h List.not_mem_nil⟩⟩⟩⟩⟩⟩⟩⟩
def lw_privs : List (MethodName × Nat) := lw_privs_1 ++ (lw_privs_2 ++ (lw_privs_3))
def lw_tbl : List Cond := k2_sels lw_privs ++ tables_1
theorem lw_privs_ok : ∀ q ∈ lw_privs, lw_okq q := by
  show ∀ q ∈ lw_privs_1 ++ (lw_privs_2 ++ (lw_privs_3)), lw_okq q
  exact List.forall_mem_append.mpr ⟨lw_r1, List.forall_mem_append.mpr ⟨lw_r2, lw_r3⟩⟩
end
section
/-! my words: those of the tables that go with a call -/
def gtbl : List Cond := lw_tbl.filter goodWord
theorem g_in {w : Cond} (h : w ∈ lw_tbl) (hg : goodWord w = true) : w ∈ gtbl := List.mem_filter.mpr ⟨h, hg⟩
theorem g_at {w : Cond} (i : Nat) (h : lw_tbl[i]? = some w) (hg : goodWord w = true) : w ∈ gtbl := g_in (List.mem_of_getElem? h) hg
def CR0 : String := "NearMarks$Book"
def CT0 : u_T := fun k => match k with
  | 0 => ("NearMarks$Book", "ones", "[I", true)
  | 1 => ("NearMarks$Book", "others", "[I", true)
  | 2 => ("NearMarks$Book", "distances", "[I", true)
  | _ => ("NearMarks$Book", "count", "I", false)
def CY0 : Nat → FieldType := fun k => match k with
  | 0 => .array .int
  | 1 => .array .int
  | 2 => .array .int
  | _ => .int
theorem CN0 : ∀ a, a < 4 → ∀ b, b < 4 → a ≠ b → (CT0 a).2.1 ≠ (CT0 b).2.1 := by decide +kernel
theorem CYok0 : ∀ k, k < 4 → parseFieldDescriptor (CT0 k).2.2.1 = some (CY0 k) := by decide +kernel
theorem CW0_0 : u_lay CR0 CT0 0 ∈ gtbl := g_at 226 (by decide +kernel) (by decide +kernel)
theorem CW0_1 : u_lay CR0 CT0 1 ∈ gtbl := g_at 228 (by decide +kernel) (by decide +kernel)
theorem CW0_2 : u_lay CR0 CT0 2 ∈ gtbl := g_at 230 (by decide +kernel) (by decide +kernel)
theorem CW0_3 : u_lay CR0 CT0 3 ∈ gtbl := g_at 232 (by decide +kernel) (by decide +kernel)
theorem CI0 : ∀ w ∈ u_ws CR0 CT0 4, w ∈ gtbl := by
  intro w hw
  obtain ⟨k, hk, rfl⟩ := List.mem_map.mp hw
  have hk := List.mem_range.mp hk
  match k, hk with
  | 0, _ => exact CW0_0
  | 1, _ => exact CW0_1
  | 2, _ => exact CW0_2
  | 3, _ => exact CW0_3
def CR1 : String := "NearMarks$Columns"
def CT1 : u_T := fun k => match k with
  | 0 => ("NearMarks$Columns", "sets", "[J", true)
  | _ => ("NearMarks$Columns", "all", "J", false)
def CY1 : Nat → FieldType := fun k => match k with
  | 0 => .array .long
  | _ => .long
theorem CN1 : ∀ a, a < 2 → ∀ b, b < 2 → a ≠ b → (CT1 a).2.1 ≠ (CT1 b).2.1 := by decide +kernel
theorem CYok1 : ∀ k, k < 2 → parseFieldDescriptor (CT1 k).2.2.1 = some (CY1 k) := by decide +kernel
theorem CW1_0 : u_lay CR1 CT1 0 ∈ gtbl := g_at 190 (by decide +kernel) (by decide +kernel)
theorem CW1_1 : u_lay CR1 CT1 1 ∈ gtbl := g_at 192 (by decide +kernel) (by decide +kernel)
theorem CI1 : ∀ w ∈ u_ws CR1 CT1 2, w ∈ gtbl := by
  intro w hw
  obtain ⟨k, hk, rfl⟩ := List.mem_map.mp hw
  have hk := List.mem_range.mp hk
  match k, hk with
  | 0, _ => exact CW1_0
  | 1, _ => exact CW1_1
def CR2 : String := "NearMarks$Draws"
def CT2 : u_T := fun k => match k with
  | _ => ("NearMarks$Draws", "state", "I", false)
def CY2 : Nat → FieldType := fun k => match k with
  | _ => .int
theorem CN2 : ∀ a, a < 1 → ∀ b, b < 1 → a ≠ b → (CT2 a).2.1 ≠ (CT2 b).2.1 := by decide +kernel
theorem CYok2 : ∀ k, k < 1 → parseFieldDescriptor (CT2 k).2.2.1 = some (CY2 k) := by decide +kernel
theorem CW2_0 : u_lay CR2 CT2 0 ∈ gtbl := g_at 243 (by decide +kernel) (by decide +kernel)
theorem CI2 : ∀ w ∈ u_ws CR2 CT2 1, w ∈ gtbl := by
  intro w hw
  obtain ⟨k, hk, rfl⟩ := List.mem_map.mp hw
  have hk := List.mem_range.mp hk
  match k, hk with
  | 0, _ => exact CW2_0
def CR3 : String := "NearMarks$Grouping"
def CT3 : u_T := fun k => match k with
  | 0 => ("NearMarks$Grouping", "sets", "[J", true)
  | 1 => ("NearMarks$Grouping", "close", "[J", true)
  | _ => ("NearMarks$Grouping", "count", "I", false)
def CY3 : Nat → FieldType := fun k => match k with
  | 0 => .array .long
  | 1 => .array .long
  | _ => .int
theorem CN3 : ∀ a, a < 3 → ∀ b, b < 3 → a ≠ b → (CT3 a).2.1 ≠ (CT3 b).2.1 := by decide +kernel
theorem CYok3 : ∀ k, k < 3 → parseFieldDescriptor (CT3 k).2.2.1 = some (CY3 k) := by decide +kernel
theorem CW3_0 : u_lay CR3 CT3 0 ∈ gtbl := g_at 175 (by decide +kernel) (by decide +kernel)
theorem CW3_1 : u_lay CR3 CT3 1 ∈ gtbl := g_at 177 (by decide +kernel) (by decide +kernel)
theorem CW3_2 : u_lay CR3 CT3 2 ∈ gtbl := g_at 179 (by decide +kernel) (by decide +kernel)
theorem CI3 : ∀ w ∈ u_ws CR3 CT3 3, w ∈ gtbl := by
  intro w hw
  obtain ⟨k, hk, rfl⟩ := List.mem_map.mp hw
  have hk := List.mem_range.mp hk
  match k, hk with
  | 0, _ => exact CW3_0
  | 1, _ => exact CW3_1
  | 2, _ => exact CW3_2
def CR4 : String := "NearMarks$Image"
def CT4 : u_T := fun k => match k with
  | 0 => ("NearMarks$Image", "state", "LNearMarks$State;", true)
  | 1 => ("NearMarks$Image", "draws", "I", false)
  | _ => ("NearMarks$Image", "kept", "Z", false)
def CY4 : Nat → FieldType := fun k => match k with
  | 0 => .object "NearMarks$State"
  | 1 => .int
  | _ => .boolean
theorem CN4 : ∀ a, a < 3 → ∀ b, b < 3 → a ≠ b → (CT4 a).2.1 ≠ (CT4 b).2.1 := by decide +kernel
theorem CYok4 : ∀ k, k < 3 → parseFieldDescriptor (CT4 k).2.2.1 = some (CY4 k) := by decide +kernel
theorem CW4_0 : u_lay CR4 CT4 0 ∈ gtbl := g_at 131 (by decide +kernel) (by decide +kernel)
theorem CW4_1 : u_lay CR4 CT4 1 ∈ gtbl := g_at 133 (by decide +kernel) (by decide +kernel)
theorem CW4_2 : u_lay CR4 CT4 2 ∈ gtbl := g_at 135 (by decide +kernel) (by decide +kernel)
theorem CI4 : ∀ w ∈ u_ws CR4 CT4 3, w ∈ gtbl := by
  intro w hw
  obtain ⟨k, hk, rfl⟩ := List.mem_map.mp hw
  have hk := List.mem_range.mp hk
  match k, hk with
  | 0, _ => exact CW4_0
  | 1, _ => exact CW4_1
  | 2, _ => exact CW4_2
def CR5 : String := "NearMarks$Parts"
def CT5 : u_T := fun k => match k with
  | 0 => ("NearMarks$Parts", "firsts", "[I", true)
  | 1 => ("NearMarks$Parts", "masks", "[J", true)
  | _ => ("NearMarks$Parts", "count", "I", false)
def CY5 : Nat → FieldType := fun k => match k with
  | 0 => .array .int
  | 1 => .array .long
  | _ => .int
theorem CN5 : ∀ a, a < 3 → ∀ b, b < 3 → a ≠ b → (CT5 a).2.1 ≠ (CT5 b).2.1 := by decide +kernel
theorem CYok5 : ∀ k, k < 3 → parseFieldDescriptor (CT5 k).2.2.1 = some (CY5 k) := by decide +kernel
theorem CW5_0 : u_lay CR5 CT5 0 ∈ gtbl := g_at 150 (by decide +kernel) (by decide +kernel)
theorem CW5_1 : u_lay CR5 CT5 1 ∈ gtbl := g_at 152 (by decide +kernel) (by decide +kernel)
theorem CW5_2 : u_lay CR5 CT5 2 ∈ gtbl := g_at 154 (by decide +kernel) (by decide +kernel)
theorem CI5 : ∀ w ∈ u_ws CR5 CT5 3, w ∈ gtbl := by
  intro w hw
  obtain ⟨k, hk, rfl⟩ := List.mem_map.mp hw
  have hk := List.mem_range.mp hk
  match k, hk with
  | 0, _ => exact CW5_0
  | 1, _ => exact CW5_1
  | 2, _ => exact CW5_2
def CR6 : String := "NearMarks$Past"
def CT6 : u_T := fun k => match k with
  | 0 => ("NearMarks$Past", "ring", "[LNearMarks$State;", true)
  | 1 => ("NearMarks$Past", "next", "I", false)
  | _ => ("NearMarks$Past", "count", "I", false)
def CY6 : Nat → FieldType := fun k => match k with
  | 0 => .array (.object "NearMarks$State")
  | 1 => .int
  | _ => .int
theorem CN6 : ∀ a, a < 3 → ∀ b, b < 3 → a ≠ b → (CT6 a).2.1 ≠ (CT6 b).2.1 := by decide +kernel
theorem CYok6 : ∀ k, k < 3 → parseFieldDescriptor (CT6 k).2.2.1 = some (CY6 k) := by decide +kernel
theorem CW6_0 : u_lay CR6 CT6 0 ∈ gtbl := g_at 111 (by decide +kernel) (by decide +kernel)
theorem CW6_1 : u_lay CR6 CT6 1 ∈ gtbl := g_at 113 (by decide +kernel) (by decide +kernel)
theorem CW6_2 : u_lay CR6 CT6 2 ∈ gtbl := g_at 115 (by decide +kernel) (by decide +kernel)
theorem CI6 : ∀ w ∈ u_ws CR6 CT6 3, w ∈ gtbl := by
  intro w hw
  obtain ⟨k, hk, rfl⟩ := List.mem_map.mp hw
  have hk := List.mem_range.mp hk
  match k, hk with
  | 0, _ => exact CW6_0
  | 1, _ => exact CW6_1
  | 2, _ => exact CW6_2
def CR7 : String := "NearMarks$Sightings"
def CT7 : u_T := fun k => match k with
  | 0 => ("NearMarks$Sightings", "from", "[J", true)
  | 1 => ("NearMarks$Sightings", "distances", "[I", true)
  | 2 => ("NearMarks$Sightings", "tally", "[I", true)
  | _ => ("NearMarks$Sightings", "count", "I", false)
def CY7 : Nat → FieldType := fun k => match k with
  | 0 => .array .long
  | 1 => .array .int
  | 2 => .array .int
  | _ => .int
theorem CN7 : ∀ a, a < 4 → ∀ b, b < 4 → a ≠ b → (CT7 a).2.1 ≠ (CT7 b).2.1 := by decide +kernel
theorem CYok7 : ∀ k, k < 4 → parseFieldDescriptor (CT7 k).2.2.1 = some (CY7 k) := by decide +kernel
theorem CW7_0 : u_lay CR7 CT7 0 ∈ gtbl := g_at 206 (by decide +kernel) (by decide +kernel)
theorem CW7_1 : u_lay CR7 CT7 1 ∈ gtbl := g_at 208 (by decide +kernel) (by decide +kernel)
theorem CW7_2 : u_lay CR7 CT7 2 ∈ gtbl := g_at 210 (by decide +kernel) (by decide +kernel)
theorem CW7_3 : u_lay CR7 CT7 3 ∈ gtbl := g_at 212 (by decide +kernel) (by decide +kernel)
theorem CI7 : ∀ w ∈ u_ws CR7 CT7 4, w ∈ gtbl := by
  intro w hw
  obtain ⟨k, hk, rfl⟩ := List.mem_map.mp hw
  have hk := List.mem_range.mp hk
  match k, hk with
  | 0, _ => exact CW7_0
  | 1, _ => exact CW7_1
  | 2, _ => exact CW7_2
  | 3, _ => exact CW7_3
def CR8 : String := "NearMarks$State"
def CT8 : u_T := fun k => match k with
  | 0 => ("NearMarks$State", "inHand", "J", false)
  | 1 => ("NearMarks$State", "begins", "J", false)
  | 2 => ("NearMarks$State", "count", "I", false)
  | 3 => ("NearMarks$State", "marks", "[J", true)
  | _ => ("NearMarks$State", "kinds", "[I", true)
def CY8 : Nat → FieldType := fun k => match k with
  | 0 => .long
  | 1 => .long
  | 2 => .int
  | 3 => .array .long
  | _ => .array .int
theorem CN8 : ∀ a, a < 5 → ∀ b, b < 5 → a ≠ b → (CT8 a).2.1 ≠ (CT8 b).2.1 := by decide +kernel
theorem CYok8 : ∀ k, k < 5 → parseFieldDescriptor (CT8 k).2.2.1 = some (CY8 k) := by decide +kernel
theorem CW8_0 : u_lay CR8 CT8 0 ∈ gtbl := g_at 85 (by decide +kernel) (by decide +kernel)
theorem CW8_1 : u_lay CR8 CT8 1 ∈ gtbl := g_at 87 (by decide +kernel) (by decide +kernel)
theorem CW8_2 : u_lay CR8 CT8 2 ∈ gtbl := g_at 89 (by decide +kernel) (by decide +kernel)
theorem CW8_3 : u_lay CR8 CT8 3 ∈ gtbl := g_at 91 (by decide +kernel) (by decide +kernel)
theorem CW8_4 : u_lay CR8 CT8 4 ∈ gtbl := g_at 93 (by decide +kernel) (by decide +kernel)
theorem CI8 : ∀ w ∈ u_ws CR8 CT8 5, w ∈ gtbl := by
  intro w hw
  obtain ⟨k, hk, rfl⟩ := List.mem_map.mp hw
  have hk := List.mem_range.mp hk
  match k, hk with
  | 0, _ => exact CW8_0
  | 1, _ => exact CW8_1
  | 2, _ => exact CW8_2
  | 3, _ => exact CW8_3
  | 4, _ => exact CW8_4
def CR9 : String := "NearMarks"
def CT9 : u_T := fun k => match k with
  | 0 => ("NearMarks", "now", "LNearMarks$State;", true)
  | 1 => ("NearMarks", "past", "LNearMarks$Past;", true)
  | 2 => ("NearMarks", "images", "[LNearMarks$Image;", true)
  | 3 => ("NearMarks", "parts", "LNearMarks$Parts;", true)
  | 4 => ("NearMarks", "trial", "LNearMarks$Parts;", true)
  | 5 => ("NearMarks", "grouping", "LNearMarks$Grouping;", true)
  | 6 => ("NearMarks", "columns", "LNearMarks$Columns;", true)
  | 7 => ("NearMarks", "sightings", "LNearMarks$Sightings;", true)
  | 8 => ("NearMarks", "book", "LNearMarks$Book;", true)
  | _ => ("NearMarks", "draws", "LNearMarks$Draws;", true)
def CY9 : Nat → FieldType := fun k => match k with
  | 0 => .object "NearMarks$State"
  | 1 => .object "NearMarks$Past"
  | 2 => .array (.object "NearMarks$Image")
  | 3 => .object "NearMarks$Parts"
  | 4 => .object "NearMarks$Parts"
  | 5 => .object "NearMarks$Grouping"
  | 6 => .object "NearMarks$Columns"
  | 7 => .object "NearMarks$Sightings"
  | 8 => .object "NearMarks$Book"
  | _ => .object "NearMarks$Draws"
theorem CN9 : ∀ a, a < 10 → ∀ b, b < 10 → a ≠ b → (CT9 a).2.1 ≠ (CT9 b).2.1 := by decide +kernel
theorem CYok9 : ∀ k, k < 10 → parseFieldDescriptor (CT9 k).2.2.1 = some (CY9 k) := by decide +kernel
theorem CW9_0 : u_lay CR9 CT9 0 ∈ gtbl := g_at 256 (by decide +kernel) (by decide +kernel)
theorem CW9_1 : u_lay CR9 CT9 1 ∈ gtbl := g_at 258 (by decide +kernel) (by decide +kernel)
theorem CW9_2 : u_lay CR9 CT9 2 ∈ gtbl := g_at 260 (by decide +kernel) (by decide +kernel)
theorem CW9_3 : u_lay CR9 CT9 3 ∈ gtbl := g_at 262 (by decide +kernel) (by decide +kernel)
theorem CW9_4 : u_lay CR9 CT9 4 ∈ gtbl := g_at 264 (by decide +kernel) (by decide +kernel)
theorem CW9_5 : u_lay CR9 CT9 5 ∈ gtbl := g_at 266 (by decide +kernel) (by decide +kernel)
theorem CW9_6 : u_lay CR9 CT9 6 ∈ gtbl := g_at 268 (by decide +kernel) (by decide +kernel)
theorem CW9_7 : u_lay CR9 CT9 7 ∈ gtbl := g_at 270 (by decide +kernel) (by decide +kernel)
theorem CW9_8 : u_lay CR9 CT9 8 ∈ gtbl := g_at 272 (by decide +kernel) (by decide +kernel)
theorem CW9_9 : u_lay CR9 CT9 9 ∈ gtbl := g_at 274 (by decide +kernel) (by decide +kernel)
theorem CI9 : ∀ w ∈ u_ws CR9 CT9 10, w ∈ gtbl := by
  intro w hw
  obtain ⟨k, hk, rfl⟩ := List.mem_map.mp hw
  have hk := List.mem_range.mp hk
  match k, hk with
  | 0, _ => exact CW9_0
  | 1, _ => exact CW9_1
  | 2, _ => exact CW9_2
  | 3, _ => exact CW9_3
  | 4, _ => exact CW9_4
  | 5, _ => exact CW9_5
  | 6, _ => exact CW9_6
  | 7, _ => exact CW9_7
  | 8, _ => exact CW9_8
  | 9, _ => exact CW9_9
def CR10 : String := "NearMarksModel"
def CT10 : u_T := fun k => match k with
  | 0 => ("NearMarksModel", "now", "[J", true)
  | 1 => ("NearMarksModel", "kinds", "[I", true)
  | 2 => ("NearMarksModel", "backs", "I", false)
  | 3 => ("NearMarksModel", "back", "[J", true)
  | 4 => ("NearMarksModel", "backKind", "[I", true)
  | 5 => ("NearMarksModel", "image", "[J", true)
  | 6 => ("NearMarksModel", "imageKind", "[I", true)
  | 7 => ("NearMarksModel", "imageSeed", "[I", true)
  | 8 => ("NearMarksModel", "isKept", "[Z", true)
  | 9 => ("NearMarksModel", "seed", "I", false)
  | 10 => ("NearMarksModel", "seen", "I", false)
  | 11 => ("NearMarksModel", "seenMark", "[J", true)
  | 12 => ("NearMarksModel", "seenApart", "[I", true)
  | 13 => ("NearMarksModel", "entries", "I", false)
  | 14 => ("NearMarksModel", "bookOne", "[I", true)
  | 15 => ("NearMarksModel", "bookOther", "[I", true)
  | 16 => ("NearMarksModel", "bookApart", "[I", true)
  | 17 => ("NearMarksModel", "groupOf", "[I", true)
  | _ => ("NearMarksModel", "many", "[I", true)
def CY10 : Nat → FieldType := fun k => match k with
  | 0 => .array .long
  | 1 => .array .int
  | 2 => .int
  | 3 => .array .long
  | 4 => .array .int
  | 5 => .array .long
  | 6 => .array .int
  | 7 => .array .int
  | 8 => .array .boolean
  | 9 => .int
  | 10 => .int
  | 11 => .array .long
  | 12 => .array .int
  | 13 => .int
  | 14 => .array .int
  | 15 => .array .int
  | 16 => .array .int
  | 17 => .array .int
  | _ => .array .int
theorem CN10 : ∀ a, a < 19 → ∀ b, b < 19 → a ≠ b → (CT10 a).2.1 ≠ (CT10 b).2.1 := by decide +kernel
theorem CYok10 : ∀ k, k < 19 → parseFieldDescriptor (CT10 k).2.2.1 = some (CY10 k) := by decide +kernel
theorem CW10_0 : u_lay CR10 CT10 0 ∈ gtbl := g_at 680 (by decide +kernel) (by decide +kernel)
theorem CW10_1 : u_lay CR10 CT10 1 ∈ gtbl := g_at 682 (by decide +kernel) (by decide +kernel)
theorem CW10_2 : u_lay CR10 CT10 2 ∈ gtbl := g_at 684 (by decide +kernel) (by decide +kernel)
theorem CW10_3 : u_lay CR10 CT10 3 ∈ gtbl := g_at 686 (by decide +kernel) (by decide +kernel)
theorem CW10_4 : u_lay CR10 CT10 4 ∈ gtbl := g_at 688 (by decide +kernel) (by decide +kernel)
theorem CW10_5 : u_lay CR10 CT10 5 ∈ gtbl := g_at 690 (by decide +kernel) (by decide +kernel)
theorem CW10_6 : u_lay CR10 CT10 6 ∈ gtbl := g_at 692 (by decide +kernel) (by decide +kernel)
theorem CW10_7 : u_lay CR10 CT10 7 ∈ gtbl := g_at 694 (by decide +kernel) (by decide +kernel)
theorem CW10_8 : u_lay CR10 CT10 8 ∈ gtbl := g_at 696 (by decide +kernel) (by decide +kernel)
theorem CW10_9 : u_lay CR10 CT10 9 ∈ gtbl := g_at 698 (by decide +kernel) (by decide +kernel)
theorem CW10_10 : u_lay CR10 CT10 10 ∈ gtbl := g_at 700 (by decide +kernel) (by decide +kernel)
theorem CW10_11 : u_lay CR10 CT10 11 ∈ gtbl := g_at 702 (by decide +kernel) (by decide +kernel)
theorem CW10_12 : u_lay CR10 CT10 12 ∈ gtbl := g_at 704 (by decide +kernel) (by decide +kernel)
theorem CW10_13 : u_lay CR10 CT10 13 ∈ gtbl := g_at 706 (by decide +kernel) (by decide +kernel)
theorem CW10_14 : u_lay CR10 CT10 14 ∈ gtbl := g_at 708 (by decide +kernel) (by decide +kernel)
theorem CW10_15 : u_lay CR10 CT10 15 ∈ gtbl := g_at 710 (by decide +kernel) (by decide +kernel)
theorem CW10_16 : u_lay CR10 CT10 16 ∈ gtbl := g_at 712 (by decide +kernel) (by decide +kernel)
theorem CW10_17 : u_lay CR10 CT10 17 ∈ gtbl := g_at 714 (by decide +kernel) (by decide +kernel)
theorem CW10_18 : u_lay CR10 CT10 18 ∈ gtbl := g_at 716 (by decide +kernel) (by decide +kernel)
theorem CI10 : ∀ w ∈ u_ws CR10 CT10 19, w ∈ gtbl := by
  intro w hw
  obtain ⟨k, hk, rfl⟩ := List.mem_map.mp hw
  have hk := List.mem_range.mp hk
  match k, hk with
  | 0, _ => exact CW10_0
  | 1, _ => exact CW10_1
  | 2, _ => exact CW10_2
  | 3, _ => exact CW10_3
  | 4, _ => exact CW10_4
  | 5, _ => exact CW10_5
  | 6, _ => exact CW10_6
  | 7, _ => exact CW10_7
  | 8, _ => exact CW10_8
  | 9, _ => exact CW10_9
  | 10, _ => exact CW10_10
  | 11, _ => exact CW10_11
  | 12, _ => exact CW10_12
  | 13, _ => exact CW10_13
  | 14, _ => exact CW10_14
  | 15, _ => exact CW10_15
  | 16, _ => exact CW10_16
  | 17, _ => exact CW10_17
  | 18, _ => exact CW10_18
  | q + 19, hq => exact absurd hq (by omega)
abbrev vcl : List vw_C := [(CR0, CT0, 4), (CR1, CT1, 2), (CR2, CT2, 1), (CR3, CT3, 3), (CR4, CT4, 3), (CR5, CT5, 3), (CR6, CT6, 3), (CR7, CT7, 4), (CR8, CT8, 5), (CR9, CT9, 10), (CR10, CT10, 19)]
/-! methods: name, code, its words -/
def y_Nm_init : MethodName := ⟨"NearMarks", "<init>", "()V"⟩
abbrev c_Nm_init : ByteArray := prog_1_method_1_code
theorem wc_Nm_init : Cond.code y_Nm_init c_Nm_init 2 none ∈ gtbl := g_at 59 (by decide +kernel) (by decide +kernel)
def y_St_init : MethodName := ⟨"NearMarks$State", "<init>", "()V"⟩
abbrev c_St_init : ByteArray := prog_11_method_1_code
theorem wc_St_init : Cond.code y_St_init c_St_init 1 none ∈ gtbl := g_at 67 (by decide +kernel) (by decide +kernel)
def y_Pa_init : MethodName := ⟨"NearMarks$Past", "<init>", "()V"⟩
abbrev c_Pa_init : ByteArray := prog_8_method_1_code
theorem wc_Pa_init : Cond.code y_Pa_init c_Pa_init 2 none ∈ gtbl := g_at 102 (by decide +kernel) (by decide +kernel)
def y_Im_init : MethodName := ⟨"NearMarks$Image", "<init>", "()V"⟩
abbrev c_Im_init : ByteArray := prog_6_method_1_code
theorem wc_Im_init : Cond.code y_Im_init c_Im_init 1 none ∈ gtbl := g_at 123 (by decide +kernel) (by decide +kernel)
def y_Pt_init : MethodName := ⟨"NearMarks$Parts", "<init>", "()V"⟩
abbrev c_Pt_init : ByteArray := prog_7_method_1_code
theorem wc_Pt_init : Cond.code y_Pt_init c_Pt_init 1 none ∈ gtbl := g_at 142 (by decide +kernel) (by decide +kernel)
def y_Pt_beginAt : MethodName := ⟨"NearMarks$Parts", "beginAt", "(J)V"⟩
abbrev c_Pt_beginAt : ByteArray := prog_7_method_3_code
theorem wc_Pt_beginAt : Cond.code y_Pt_beginAt c_Pt_beginAt 4 none ∈ gtbl := g_at 160 (by decide +kernel) (by decide +kernel)
def y_Nm_hasBit : MethodName := ⟨"NearMarks", "hasBit", "(JI)Z"⟩
abbrev c_Nm_hasBit : ByteArray := prog_1_method_36_code
theorem wc_Nm_hasBit : Cond.code y_Nm_hasBit c_Nm_hasBit 3 (some .boolean) ∈ gtbl := g_at 163 (by decide +kernel) (by decide +kernel)
def y_Gr_init : MethodName := ⟨"NearMarks$Grouping", "<init>", "()V"⟩
abbrev c_Gr_init : ByteArray := prog_5_method_1_code
theorem wc_Gr_init : Cond.code y_Gr_init c_Gr_init 1 none ∈ gtbl := g_at 168 (by decide +kernel) (by decide +kernel)
def y_Co_init : MethodName := ⟨"NearMarks$Columns", "<init>", "()V"⟩
abbrev c_Co_init : ByteArray := prog_3_method_1_code
theorem wc_Co_init : Cond.code y_Co_init c_Co_init 1 none ∈ gtbl := g_at 186 (by decide +kernel) (by decide +kernel)
def y_Si_init : MethodName := ⟨"NearMarks$Sightings", "<init>", "()V"⟩
abbrev c_Si_init : ByteArray := prog_10_method_1_code
theorem wc_Si_init : Cond.code y_Si_init c_Si_init 1 none ∈ gtbl := g_at 199 (by decide +kernel) (by decide +kernel)
def y_Bk_init : MethodName := ⟨"NearMarks$Book", "<init>", "()V"⟩
abbrev c_Bk_init : ByteArray := prog_2_method_1_code
theorem wc_Bk_init : Cond.code y_Bk_init c_Bk_init 1 none ∈ gtbl := g_at 219 (by decide +kernel) (by decide +kernel)
def y_Dr_init : MethodName := ⟨"NearMarks$Draws", "<init>", "()V"⟩
abbrev c_Dr_init : ByteArray := prog_4_method_1_code
theorem wc_Dr_init : Cond.code y_Dr_init c_Dr_init 1 none ∈ gtbl := g_at 239 (by decide +kernel) (by decide +kernel)
def y_Nm_told : MethodName := ⟨"NearMarks", "told", "(I)I"⟩
abbrev c_Nm_told : ByteArray := prog_1_method_2_code
theorem wc_Nm_told : Cond.code y_Nm_told c_Nm_told 2 (some .int) ∈ gtbl := g_at 280 (by decide +kernel) (by decide +kernel)
def y_Lg_bitCount : MethodName := ⟨"java/lang/Long", "bitCount", "(J)I"⟩
abbrev c_Lg_bitCount : ByteArray := prog_14_method_50_code
theorem wc_Lg_bitCount : Cond.code y_Lg_bitCount c_Lg_bitCount 2 (some .int) ∈ gtbl := g_at 283 (by decide +kernel) (by decide +kernel)
def y_St_numberOf : MethodName := ⟨"NearMarks$State", "numberOf", "(J)I"⟩
abbrev c_St_numberOf : ByteArray := prog_11_method_5_code
theorem wc_St_numberOf : Cond.code y_St_numberOf c_St_numberOf 4 (some .int) ∈ gtbl := g_at 290 (by decide +kernel) (by decide +kernel)
def y_Nm_countLookedAt : MethodName := ⟨"NearMarks", "countLookedAt", "(I)I"⟩
abbrev c_Nm_countLookedAt : ByteArray := prog_1_method_7_code
theorem wc_Nm_countLookedAt : Cond.code y_Nm_countLookedAt c_Nm_countLookedAt 4 (some .int) ∈ gtbl := g_at 294 (by decide +kernel) (by decide +kernel)
def y_St_fromHand : MethodName := ⟨"NearMarks$State", "fromHand", "(I)I"⟩
abbrev c_St_fromHand : ByteArray := prog_11_method_8_code
theorem wc_St_fromHand : Cond.code y_St_fromHand c_St_fromHand 2 (some .int) ∈ gtbl := g_at 298 (by decide +kernel) (by decide +kernel)
def y_Nm_distanceOf : MethodName := ⟨"NearMarks", "distanceOf", "(JJ)I"⟩
abbrev c_Nm_distanceOf : ByteArray := prog_1_method_37_code
theorem wc_Nm_distanceOf : Cond.code y_Nm_distanceOf c_Nm_distanceOf 4 (some .int) ∈ gtbl := g_at 301 (by decide +kernel) (by decide +kernel)
def y_Pt_anyAlike : MethodName := ⟨"NearMarks$Parts", "anyAlike", "(J)Z"⟩
abbrev c_Pt_anyAlike : ByteArray := prog_7_method_6_code
theorem wc_Pt_anyAlike : Cond.code y_Pt_anyAlike c_Pt_anyAlike 4 (some .boolean) ∈ gtbl := g_at 305 (by decide +kernel) (by decide +kernel)
def y_Pt_reach : MethodName := ⟨"NearMarks$Parts", "reach", "()I"⟩
abbrev c_Pt_reach : ByteArray := prog_7_method_2_code
theorem wc_Pt_reach : Cond.code y_Pt_reach c_Pt_reach 1 (some .int) ∈ gtbl := g_at 309 (by decide +kernel) (by decide +kernel)
def y_St_byDistance : MethodName := ⟨"NearMarks$State", "byDistance", "(I)I"⟩
abbrev c_St_byDistance : ByteArray := prog_11_method_10_code
theorem wc_St_byDistance : Cond.code y_St_byDistance c_St_byDistance 3 (some .int) ∈ gtbl := g_at 313 (by decide +kernel) (by decide +kernel)
def y_St_countNearerThan : MethodName := ⟨"NearMarks$State", "countNearerThan", "(I)I"⟩
abbrev c_St_countNearerThan : ByteArray := prog_11_method_11_code
theorem wc_St_countNearerThan : Cond.code y_St_countNearerThan c_St_countNearerThan 6 (some .int) ∈ gtbl := g_at 317 (by decide +kernel) (by decide +kernel)
def y_Nm_leastDistance : MethodName := ⟨"NearMarks", "leastDistance", "()I"⟩
abbrev c_Nm_leastDistance : ByteArray := prog_1_method_8_code
theorem wc_Nm_leastDistance : Cond.code y_Nm_leastDistance c_Nm_leastDistance 2 (some .int) ∈ gtbl := g_at 322 (by decide +kernel) (by decide +kernel)
def y_St_has : MethodName := ⟨"NearMarks$State", "has", "(I)Z"⟩
abbrev c_St_has : ByteArray := prog_11_method_3_code
theorem wc_St_has : Cond.code y_St_has c_St_has 2 (some .boolean) ∈ gtbl := g_at 326 (by decide +kernel) (by decide +kernel)
def y_Co_countDead : MethodName := ⟨"NearMarks$Columns", "countDead", "(LNearMarks$State;)I"⟩
abbrev c_Co_countDead : ByteArray := prog_3_method_4_code
theorem wc_Co_countDead : Cond.code y_Co_countDead c_Co_countDead 4 (some .int) ∈ gtbl := g_at 330 (by decide +kernel) (by decide +kernel)
def y_Co_read : MethodName := ⟨"NearMarks$Columns", "read", "(LNearMarks$State;)V"⟩
abbrev c_Co_read : ByteArray := prog_3_method_2_code
theorem wc_Co_read : Cond.code y_Co_read c_Co_read 4 none ∈ gtbl := g_at 334 (by decide +kernel) (by decide +kernel)
def y_Co_isDead : MethodName := ⟨"NearMarks$Columns", "isDead", "(I)Z"⟩
abbrev c_Co_isDead : ByteArray := prog_3_method_3_code
theorem wc_Co_isDead : Cond.code y_Co_isDead c_Co_isDead 2 (some .boolean) ∈ gtbl := g_at 338 (by decide +kernel) (by decide +kernel)
def y_Co_firstPair : MethodName := ⟨"NearMarks$Columns", "firstPair", "(LNearMarks$State;)I"⟩
abbrev c_Co_firstPair : ByteArray := prog_3_method_5_code
theorem wc_Co_firstPair : Cond.code y_Co_firstPair c_Co_firstPair 4 (some .int) ∈ gtbl := g_at 342 (by decide +kernel) (by decide +kernel)
def y_Co_goTogether : MethodName := ⟨"NearMarks$Columns", "goTogether", "(II)Z"⟩
abbrev c_Co_goTogether : ByteArray := prog_3_method_6_code
theorem wc_Co_goTogether : Cond.code y_Co_goTogether c_Co_goTogether 3 (some .boolean) ∈ gtbl := g_at 346 (by decide +kernel) (by decide +kernel)
def y_Si_fitting : MethodName := ⟨"NearMarks$Sightings", "fitting", "(LNearMarks$State;)J"⟩
abbrev c_Si_fitting : ByteArray := prog_10_method_4_code
theorem wc_Si_fitting : Cond.code y_Si_fitting c_Si_fitting 5 (some .long) ∈ gtbl := g_at 350 (by decide +kernel) (by decide +kernel)
def y_Si_fits : MethodName := ⟨"NearMarks$Sightings", "fits", "(J)Z"⟩
abbrev c_Si_fits : ByteArray := prog_10_method_3_code
theorem wc_Si_fits : Cond.code y_Si_fits c_Si_fits 4 (some .boolean) ∈ gtbl := g_at 354 (by decide +kernel) (by decide +kernel)
def y_Si_leastFitting : MethodName := ⟨"NearMarks$Sightings", "leastFitting", "(LNearMarks$State;)I"⟩
abbrev c_Si_leastFitting : ByteArray := prog_10_method_5_code
theorem wc_Si_leastFitting : Cond.code y_Si_leastFitting c_Si_leastFitting 2 (some .int) ∈ gtbl := g_at 359 (by decide +kernel) (by decide +kernel)
def y_Nm_leastOf : MethodName := ⟨"NearMarks", "leastOf", "(J)I"⟩
abbrev c_Nm_leastOf : ByteArray := prog_1_method_35_code
theorem wc_Nm_leastOf : Cond.code y_Nm_leastOf c_Nm_leastOf 3 (some .int) ∈ gtbl := g_at 363 (by decide +kernel) (by decide +kernel)
def y_Si_bestToAsk : MethodName := ⟨"NearMarks$Sightings", "bestToAsk", "(LNearMarks$State;)I"⟩
abbrev c_Si_bestToAsk : ByteArray := prog_10_method_6_code
theorem wc_Si_bestToAsk : Cond.code y_Si_bestToAsk c_Si_bestToAsk 8 (some .int) ∈ gtbl := g_at 368 (by decide +kernel) (by decide +kernel)
def y_Si_greatestLeft : MethodName := ⟨"NearMarks$Sightings", "greatestLeft", "(LNearMarks$State;JI)I"⟩
abbrev c_Si_greatestLeft : ByteArray := prog_10_method_7_code
theorem wc_Si_greatestLeft : Cond.code y_Si_greatestLeft c_Si_greatestLeft 8 (some .int) ∈ gtbl := g_at 373 (by decide +kernel) (by decide +kernel)
def y_St_between : MethodName := ⟨"NearMarks$State", "between", "(II)I"⟩
abbrev c_St_between : ByteArray := prog_11_method_9_code
theorem wc_St_between : Cond.code y_St_between c_St_between 3 (some .int) ∈ gtbl := g_at 378 (by decide +kernel) (by decide +kernel)
def y_Ma_max : MethodName := ⟨"java/lang/Math", "max", "(II)I"⟩
abbrev c_Ma_max : ByteArray := prog_15_method_65_code
theorem wc_Ma_max : Cond.code y_Ma_max c_Ma_max 2 (some .int) ∈ gtbl := g_at 381 (by decide +kernel) (by decide +kernel)
def y_Bk_firstWrong : MethodName := ⟨"NearMarks$Book", "firstWrong", "(LNearMarks$State;)I"⟩
abbrev c_Bk_firstWrong : ByteArray := prog_2_method_3_code
theorem wc_Bk_firstWrong : Cond.code y_Bk_firstWrong c_Bk_firstWrong 3 (some .int) ∈ gtbl := g_at 385 (by decide +kernel) (by decide +kernel)
def y_Bk_isRight : MethodName := ⟨"NearMarks$Book", "isRight", "(LNearMarks$State;I)Z"⟩
abbrev c_Bk_isRight : ByteArray := prog_2_method_4_code
theorem wc_Bk_isRight : Cond.code y_Bk_isRight c_Bk_isRight 3 (some .boolean) ∈ gtbl := g_at 389 (by decide +kernel) (by decide +kernel)
def y_St_hasBoth : MethodName := ⟨"NearMarks$State", "hasBoth", "(II)Z"⟩
abbrev c_St_hasBoth : ByteArray := prog_11_method_4_code
theorem wc_St_hasBoth : Cond.code y_St_hasBoth c_St_hasBoth 3 (some .boolean) ∈ gtbl := g_at 393 (by decide +kernel) (by decide +kernel)
def y_Nm_hand : MethodName := ⟨"NearMarks", "hand", "()J"⟩
abbrev c_Nm_hand : ByteArray := prog_1_method_3_code
theorem wc_Nm_hand : Cond.code y_Nm_hand c_Nm_hand 1 (some .long) ∈ gtbl := g_at 400 (by decide +kernel) (by decide +kernel)
def y_Nm_markAt : MethodName := ⟨"NearMarks", "markAt", "(I)J"⟩
abbrev c_Nm_markAt : ByteArray := prog_1_method_4_code
theorem wc_Nm_markAt : Cond.code y_Nm_markAt c_Nm_markAt 2 (some .long) ∈ gtbl := g_at 404 (by decide +kernel) (by decide +kernel)
def y_Nm_mark : MethodName := ⟨"NearMarks", "mark", "(II)I"⟩
abbrev c_Nm_mark : ByteArray := prog_1_method_5_code
theorem wc_Nm_mark : Cond.code y_Nm_mark c_Nm_mark 3 (some .int) ∈ gtbl := g_at 408 (by decide +kernel) (by decide +kernel)
def y_Nm_countOthersWithin : MethodName := ⟨"NearMarks", "countOthersWithin", "(II)I"⟩
abbrev c_Nm_countOthersWithin : ByteArray := prog_1_method_9_code
theorem wc_Nm_countOthersWithin : Cond.code y_Nm_countOthersWithin c_Nm_countOthersWithin 5 (some .int) ∈ gtbl := g_at 413 (by decide +kernel) (by decide +kernel)
def y_Nm_part : MethodName := ⟨"NearMarks", "part", "(II)I"⟩
abbrev c_Nm_part : ByteArray := prog_1_method_6_code
theorem wc_Nm_part : Cond.code y_Nm_part c_Nm_part 3 (some .int) ∈ gtbl := g_at 418 (by decide +kernel) (by decide +kernel)
def y_Nm_countWithPart : MethodName := ⟨"NearMarks", "countWithPart", "(J)I"⟩
abbrev c_Nm_countWithPart : ByteArray := prog_1_method_10_code
theorem wc_Nm_countWithPart : Cond.code y_Nm_countWithPart c_Nm_countWithPart 5 (some .int) ∈ gtbl := g_at 422 (by decide +kernel) (by decide +kernel)
def y_Nm_type : MethodName := ⟨"NearMarks", "type", "(II)I"⟩
abbrev c_Nm_type : ByteArray := prog_1_method_11_code
theorem wc_Nm_type : Cond.code y_Nm_type c_Nm_type 3 (some .int) ∈ gtbl := g_at 426 (by decide +kernel) (by decide +kernel)
def y_Pa_remember : MethodName := ⟨"NearMarks$Past", "remember", "(LNearMarks$State;)V"⟩
abbrev c_Pa_remember : ByteArray := prog_8_method_2_code
theorem wc_Pa_remember : Cond.code y_Pa_remember c_Pa_remember 2 none ∈ gtbl := g_at 430 (by decide +kernel) (by decide +kernel)
def y_St_become : MethodName := ⟨"NearMarks$State", "become", "(LNearMarks$State;)V"⟩
abbrev c_St_become : ByteArray := prog_11_method_2_code
theorem wc_St_become : Cond.code y_St_become c_St_become 3 none ∈ gtbl := g_at 434 (by decide +kernel) (by decide +kernel)
def y_Ma_min : MethodName := ⟨"java/lang/Math", "min", "(II)I"⟩
abbrev c_Ma_min : ByteArray := prog_15_method_69_code
theorem wc_Ma_min : Cond.code y_Ma_min c_Ma_min 2 (some .int) ∈ gtbl := g_at 437 (by decide +kernel) (by decide +kernel)
def y_Pi_withRow : MethodName := ⟨"NearMarks$Picture", "withRow", "(JII)J"⟩
abbrev c_Pi_withRow : ByteArray := prog_9_method_3_code
theorem wc_Pi_withRow : Cond.code y_Pi_withRow c_Pi_withRow 5 (some .long) ∈ gtbl := g_at 440 (by decide +kernel) (by decide +kernel)
def y_Nm_flip : MethodName := ⟨"NearMarks", "flip", "(I)I"⟩
abbrev c_Nm_flip : ByteArray := prog_1_method_12_code
theorem wc_Nm_flip : Cond.code y_Nm_flip c_Nm_flip 2 (some .int) ∈ gtbl := g_at 446 (by decide +kernel) (by decide +kernel)
def y_Nm_turn : MethodName := ⟨"NearMarks", "turn", "()I"⟩
abbrev c_Nm_turn : ByteArray := prog_1_method_13_code
theorem wc_Nm_turn : Cond.code y_Nm_turn c_Nm_turn 1 (some .int) ∈ gtbl := g_at 450 (by decide +kernel) (by decide +kernel)
def y_Pi_turned : MethodName := ⟨"NearMarks$Picture", "turned", "(J)J"⟩
abbrev c_Pi_turned : ByteArray := prog_9_method_7_code
theorem wc_Pi_turned : Cond.code y_Pi_turned c_Pi_turned 6 (some .long) ∈ gtbl := g_at 453 (by decide +kernel) (by decide +kernel)
def y_Pi_hasDot : MethodName := ⟨"NearMarks$Picture", "hasDot", "(JII)Z"⟩
abbrev c_Pi_hasDot : ByteArray := prog_9_method_5_code
theorem wc_Pi_hasDot : Cond.code y_Pi_hasDot c_Pi_hasDot 4 (some .boolean) ∈ gtbl := g_at 456 (by decide +kernel) (by decide +kernel)
def y_Pi_dotAt : MethodName := ⟨"NearMarks$Picture", "dotAt", "(II)J"⟩
abbrev c_Pi_dotAt : ByteArray := prog_9_method_6_code
theorem wc_Pi_dotAt : Cond.code y_Pi_dotAt c_Pi_dotAt 2 (some .long) ∈ gtbl := g_at 460 (by decide +kernel) (by decide +kernel)
def y_Pi_firstRow : MethodName := ⟨"NearMarks$Picture", "firstRow", "(J)I"⟩
abbrev c_Pi_firstRow : ByteArray := prog_9_method_2_code
theorem wc_Pi_firstRow : Cond.code y_Pi_firstRow c_Pi_firstRow 2 (some .int) ∈ gtbl := g_at 463 (by decide +kernel) (by decide +kernel)
def y_Nm_mirror : MethodName := ⟨"NearMarks", "mirror", "()I"⟩
abbrev c_Nm_mirror : ByteArray := prog_1_method_14_code
theorem wc_Nm_mirror : Cond.code y_Nm_mirror c_Nm_mirror 1 (some .int) ∈ gtbl := g_at 467 (by decide +kernel) (by decide +kernel)
def y_Pi_mirrored : MethodName := ⟨"NearMarks$Picture", "mirrored", "(J)J"⟩
abbrev c_Pi_mirrored : ByteArray := prog_9_method_8_code
theorem wc_Pi_mirrored : Cond.code y_Pi_mirrored c_Pi_mirrored 6 (some .long) ∈ gtbl := g_at 470 (by decide +kernel) (by decide +kernel)
def y_Nm_hold : MethodName := ⟨"NearMarks", "hold", "(I)I"⟩
abbrev c_Nm_hold : ByteArray := prog_1_method_15_code
theorem wc_Nm_hold : Cond.code y_Nm_hold c_Nm_hold 3 (some .int) ∈ gtbl := g_at 474 (by decide +kernel) (by decide +kernel)
def y_Nm_put : MethodName := ⟨"NearMarks", "put", "(I)I"⟩
abbrev c_Nm_put : ByteArray := prog_1_method_16_code
theorem wc_Nm_put : Cond.code y_Nm_put c_Nm_put 2 (some .int) ∈ gtbl := g_at 478 (by decide +kernel) (by decide +kernel)
def y_Nm_isKind : MethodName := ⟨"NearMarks", "isKind", "(I)Z"⟩
abbrev c_Nm_isKind : ByteArray := prog_1_method_22_code
theorem wc_Nm_isKind : Cond.code y_Nm_isKind c_Nm_isKind 1 (some .boolean) ∈ gtbl := g_at 481 (by decide +kernel) (by decide +kernel)
def y_St_addHand : MethodName := ⟨"NearMarks$State", "addHand", "(I)V"⟩
abbrev c_St_addHand : ByteArray := prog_11_method_6_code
theorem wc_St_addHand : Cond.code y_St_addHand c_St_addHand 2 none ∈ gtbl := g_at 487 (by decide +kernel) (by decide +kernel)
def y_Nm_cut : MethodName := ⟨"NearMarks", "cut", "(J)I"⟩
abbrev c_Nm_cut : ByteArray := prog_1_method_17_code
theorem wc_Nm_cut : Cond.code y_Nm_cut c_Nm_cut 3 (some .int) ∈ gtbl := g_at 491 (by decide +kernel) (by decide +kernel)
def y_Nm_take : MethodName := ⟨"NearMarks", "take", "(I)I"⟩
abbrev c_Nm_take : ByteArray := prog_1_method_18_code
theorem wc_Nm_take : Cond.code y_Nm_take c_Nm_take 2 (some .int) ∈ gtbl := g_at 495 (by decide +kernel) (by decide +kernel)
def y_St_remove : MethodName := ⟨"NearMarks$State", "remove", "(I)V"⟩
abbrev c_St_remove : ByteArray := prog_11_method_7_code
theorem wc_St_remove : Cond.code y_St_remove c_St_remove 3 none ∈ gtbl := g_at 499 (by decide +kernel) (by decide +kernel)
def y_Nm_kind : MethodName := ⟨"NearMarks", "kind", "(II)I"⟩
abbrev c_Nm_kind : ByteArray := prog_1_method_19_code
theorem wc_Nm_kind : Cond.code y_Nm_kind c_Nm_kind 4 (some .int) ∈ gtbl := g_at 503 (by decide +kernel) (by decide +kernel)
def y_Nm_drift : MethodName := ⟨"NearMarks", "drift", "(I)I"⟩
abbrev c_Nm_drift : ByteArray := prog_1_method_20_code
theorem wc_Nm_drift : Cond.code y_Nm_drift c_Nm_drift 3 (some .int) ∈ gtbl := g_at 507 (by decide +kernel) (by decide +kernel)
def y_Nm_changeHandByDraws : MethodName := ⟨"NearMarks", "changeHandByDraws", "()V"⟩
abbrev c_Nm_changeHandByDraws : ByteArray := prog_1_method_23_code
theorem wc_Nm_changeHandByDraws : Cond.code y_Nm_changeHandByDraws c_Nm_changeHandByDraws 2 none ∈ gtbl := g_at 511 (by decide +kernel) (by decide +kernel)
def y_Dr_next : MethodName := ⟨"NearMarks$Draws", "next", "(I)I"⟩
abbrev c_Dr_next : ByteArray := prog_4_method_2_code
theorem wc_Dr_next : Cond.code y_Dr_next c_Dr_next 2 (some .int) ∈ gtbl := g_at 515 (by decide +kernel) (by decide +kernel)
def y_Pi_ofEqualRows : MethodName := ⟨"NearMarks$Picture", "ofEqualRows", "(I)J"⟩
abbrev c_Pi_ofEqualRows : ByteArray := prog_9_method_4_code
theorem wc_Pi_ofEqualRows : Cond.code y_Pi_ofEqualRows c_Pi_ofEqualRows 4 (some .long) ∈ gtbl := g_at 523 (by decide +kernel) (by decide +kernel)
def y_Nm_putIfUnlikeAll : MethodName := ⟨"NearMarks", "putIfUnlikeAll", "()V"⟩
abbrev c_Nm_putIfUnlikeAll : ByteArray := prog_1_method_24_code
theorem wc_Nm_putIfUnlikeAll : Cond.code y_Nm_putIfUnlikeAll c_Nm_putIfUnlikeAll 1 none ∈ gtbl := g_at 528 (by decide +kernel) (by decide +kernel)
def y_Nm_undo : MethodName := ⟨"NearMarks", "undo", "(I)I"⟩
abbrev c_Nm_undo : ByteArray := prog_1_method_21_code
theorem wc_Nm_undo : Cond.code y_Nm_undo c_Nm_undo 2 (some .int) ∈ gtbl := g_at 532 (by decide +kernel) (by decide +kernel)
def y_Pa_bringBack : MethodName := ⟨"NearMarks$Past", "bringBack", "(ILNearMarks$State;)V"⟩
abbrev c_Pa_bringBack : ByteArray := prog_8_method_3_code
theorem wc_Pa_bringBack : Cond.code y_Pa_bringBack c_Pa_bringBack 3 none ∈ gtbl := g_at 536 (by decide +kernel) (by decide +kernel)
def y_Nm_near : MethodName := ⟨"NearMarks", "near", "(I)J"⟩
abbrev c_Nm_near : ByteArray := prog_1_method_25_code
theorem wc_Nm_near : Cond.code y_Nm_near c_Nm_near 5 (some .long) ∈ gtbl := g_at 540 (by decide +kernel) (by decide +kernel)
def y_Nm_isDistance : MethodName := ⟨"NearMarks", "isDistance", "(I)Z"⟩
abbrev c_Nm_isDistance : ByteArray := prog_1_method_32_code
theorem wc_Nm_isDistance : Cond.code y_Nm_isDistance c_Nm_isDistance 1 (some .boolean) ∈ gtbl := g_at 543 (by decide +kernel) (by decide +kernel)
def y_Nm_isNear : MethodName := ⟨"NearMarks", "isNear", "(II)Z"⟩
abbrev c_Nm_isNear : ByteArray := prog_1_method_33_code
theorem wc_Nm_isNear : Cond.code y_Nm_isNear c_Nm_isNear 4 (some .boolean) ∈ gtbl := g_at 547 (by decide +kernel) (by decide +kernel)
def y_Nm_nearest : MethodName := ⟨"NearMarks", "nearest", "(I)I"⟩
abbrev c_Nm_nearest : ByteArray := prog_1_method_26_code
theorem wc_Nm_nearest : Cond.code y_Nm_nearest c_Nm_nearest 2 (some .int) ∈ gtbl := g_at 551 (by decide +kernel) (by decide +kernel)
def y_Nm_apart : MethodName := ⟨"NearMarks", "apart", "(II)I"⟩
abbrev c_Nm_apart : ByteArray := prog_1_method_27_code
theorem wc_Nm_apart : Cond.code y_Nm_apart c_Nm_apart 3 (some .int) ∈ gtbl := g_at 555 (by decide +kernel) (by decide +kernel)
def y_Nm_groups : MethodName := ⟨"NearMarks", "groups", "(I)I"⟩
abbrev c_Nm_groups : ByteArray := prog_1_method_28_code
theorem wc_Nm_groups : Cond.code y_Nm_groups c_Nm_groups 2 (some .int) ∈ gtbl := g_at 560 (by decide +kernel) (by decide +kernel)
def y_Gr_join : MethodName := ⟨"NearMarks$Grouping", "join", "(LNearMarks$State;I)V"⟩
abbrev c_Gr_join : ByteArray := prog_5_method_3_code
theorem wc_Gr_join : Cond.code y_Gr_join c_Gr_join 6 none ∈ gtbl := g_at 564 (by decide +kernel) (by decide +kernel)
def y_Gr_findClose : MethodName := ⟨"NearMarks$Grouping", "findClose", "(LNearMarks$State;I)V"⟩
abbrev c_Gr_findClose : ByteArray := prog_5_method_4_code
theorem wc_Gr_findClose : Cond.code y_Gr_findClose c_Gr_findClose 5 none ∈ gtbl := g_at 568 (by decide +kernel) (by decide +kernel)
def y_Gr_spread : MethodName := ⟨"NearMarks$Grouping", "spread", "(II)J"⟩
abbrev c_Gr_spread : ByteArray := prog_5_method_5_code
theorem wc_Gr_spread : Cond.code y_Gr_spread c_Gr_spread 9 (some .long) ∈ gtbl := g_at 574 (by decide +kernel) (by decide +kernel)
def y_Nm_group : MethodName := ⟨"NearMarks", "group", "(III)I"⟩
abbrev c_Nm_group : ByteArray := prog_1_method_29_code
theorem wc_Nm_group : Cond.code y_Nm_group c_Nm_group 4 (some .int) ∈ gtbl := g_at 578 (by decide +kernel) (by decide +kernel)
def y_Gr_has : MethodName := ⟨"NearMarks$Grouping", "has", "(I)Z"⟩
abbrev c_Gr_has : ByteArray := prog_5_method_2_code
theorem wc_Gr_has : Cond.code y_Gr_has c_Gr_has 2 (some .boolean) ∈ gtbl := g_at 582 (by decide +kernel) (by decide +kernel)
def y_St_widthOf : MethodName := ⟨"NearMarks$State", "widthOf", "(J)I"⟩
abbrev c_St_widthOf : ByteArray := prog_11_method_12_code
theorem wc_St_widthOf : Cond.code y_St_widthOf c_St_widthOf 6 (some .int) ∈ gtbl := g_at 587 (by decide +kernel) (by decide +kernel)
def y_Nm_middle : MethodName := ⟨"NearMarks", "middle", "(II)J"⟩
abbrev c_Nm_middle : ByteArray := prog_1_method_30_code
theorem wc_Nm_middle : Cond.code y_Nm_middle c_Nm_middle 3 (some .long) ∈ gtbl := g_at 594 (by decide +kernel) (by decide +kernel)
def y_Co_mostOf : MethodName := ⟨"NearMarks$Columns", "mostOf", "(LNearMarks$State;J)J"⟩
abbrev c_Co_mostOf : ByteArray := prog_3_method_7_code
theorem wc_Co_mostOf : Cond.code y_Co_mostOf c_Co_mostOf 8 (some .long) ∈ gtbl := g_at 598 (by decide +kernel) (by decide +kernel)
def y_Nm_fewest : MethodName := ⟨"NearMarks", "fewest", "(II)I"⟩
abbrev c_Nm_fewest : ByteArray := prog_1_method_31_code
theorem wc_Nm_fewest : Cond.code y_Nm_fewest c_Nm_fewest 7 (some .int) ∈ gtbl := g_at 603 (by decide +kernel) (by decide +kernel)
def y_Pt_beginEvenly : MethodName := ⟨"NearMarks$Parts", "beginEvenly", "(II)V"⟩
abbrev c_Pt_beginEvenly : ByteArray := prog_7_method_4_code
theorem wc_Pt_beginEvenly : Cond.code y_Pt_beginEvenly c_Pt_beginEvenly 9 none ∈ gtbl := g_at 607 (by decide +kernel) (by decide +kernel)
def y_Pt_turnOf : MethodName := ⟨"NearMarks$Parts", "turnOf", "(III)I"⟩
abbrev c_Pt_turnOf : ByteArray := prog_7_method_5_code
theorem wc_Pt_turnOf : Cond.code y_Pt_turnOf c_Pt_turnOf 3 (some .int) ∈ gtbl := g_at 611 (by decide +kernel) (by decide +kernel)
def y_Nm_countAllLooks : MethodName := ⟨"NearMarks", "countAllLooks", "(LNearMarks$Parts;)I"⟩
abbrev c_Nm_countAllLooks : ByteArray := prog_1_method_34_code
theorem wc_Nm_countAllLooks : Cond.code y_Nm_countAllLooks c_Nm_countAllLooks 5 (some .int) ∈ gtbl := g_at 616 (by decide +kernel) (by decide +kernel)
def y_Nm_see : MethodName := ⟨"NearMarks", "see", "(I)I"⟩
abbrev c_Nm_see : ByteArray := prog_1_method_38_code
theorem wc_Nm_see : Cond.code y_Nm_see c_Nm_see 2 (some .int) ∈ gtbl := g_at 620 (by decide +kernel) (by decide +kernel)
def y_Si_add : MethodName := ⟨"NearMarks$Sightings", "add", "(JI)V"⟩
abbrev c_Si_add : ByteArray := prog_10_method_2_code
theorem wc_Si_add : Cond.code y_Si_add c_Si_add 4 none ∈ gtbl := g_at 624 (by decide +kernel) (by decide +kernel)
def y_Nm_write : MethodName := ⟨"NearMarks", "write", "(III)I"⟩
abbrev c_Nm_write : ByteArray := prog_1_method_39_code
theorem wc_Nm_write : Cond.code y_Nm_write c_Nm_write 4 (some .int) ∈ gtbl := g_at 628 (by decide +kernel) (by decide +kernel)
def y_Bk_add : MethodName := ⟨"NearMarks$Book", "add", "(III)V"⟩
abbrev c_Bk_add : ByteArray := prog_2_method_2_code
theorem wc_Bk_add : Cond.code y_Bk_add c_Bk_add 4 none ∈ gtbl := g_at 632 (by decide +kernel) (by decide +kernel)
def y_Nm_tear : MethodName := ⟨"NearMarks", "tear", "()I"⟩
abbrev c_Nm_tear : ByteArray := prog_1_method_40_code
theorem wc_Nm_tear : Cond.code y_Nm_tear c_Nm_tear 2 (some .int) ∈ gtbl := g_at 636 (by decide +kernel) (by decide +kernel)
def y_Nm_seed : MethodName := ⟨"NearMarks", "seed", "(I)I"⟩
abbrev c_Nm_seed : ByteArray := prog_1_method_41_code
theorem wc_Nm_seed : Cond.code y_Nm_seed c_Nm_seed 3 (some .int) ∈ gtbl := g_at 640 (by decide +kernel) (by decide +kernel)
def y_Nm_keep : MethodName := ⟨"NearMarks", "keep", "(I)I"⟩
abbrev c_Nm_keep : ByteArray := prog_1_method_42_code
theorem wc_Nm_keep : Cond.code y_Nm_keep c_Nm_keep 2 (some .int) ∈ gtbl := g_at 644 (by decide +kernel) (by decide +kernel)
def y_Pa_forget : MethodName := ⟨"NearMarks$Past", "forget", "()V"⟩
abbrev c_Pa_forget : ByteArray := prog_8_method_4_code
theorem wc_Pa_forget : Cond.code y_Pa_forget c_Pa_forget 1 none ∈ gtbl := g_at 649 (by decide +kernel) (by decide +kernel)
def y_Nm_goBack : MethodName := ⟨"NearMarks", "goBack", "(I)I"⟩
abbrev c_Nm_goBack : ByteArray := prog_1_method_43_code
theorem wc_Nm_goBack : Cond.code y_Nm_goBack c_Nm_goBack 2 (some .int) ∈ gtbl := g_at 653 (by decide +kernel) (by decide +kernel)
def y_Mo_init : MethodName := ⟨"NearMarksModel", "<init>", "()V"⟩
abbrev c_Mo_init : ByteArray := prog_13_method_1_code
theorem wc_Mo_init : Cond.code y_Mo_init c_Mo_init 1 none ∈ gtbl := g_at 658 (by decide +kernel) (by decide +kernel)
def y_Mo_told : MethodName := ⟨"NearMarksModel", "told", "(I)I"⟩
abbrev c_Mo_told : ByteArray := prog_13_method_24_code
theorem wc_Mo_told : Cond.code y_Mo_told c_Mo_told 2 (some .int) ∈ gtbl := g_at 723 (by decide +kernel) (by decide +kernel)
def y_Mo_marks : MethodName := ⟨"NearMarksModel", "marks", "()I"⟩
abbrev c_Mo_marks : ByteArray := prog_13_method_5_code
theorem wc_Mo_marks : Cond.code y_Mo_marks c_Mo_marks 1 (some .int) ∈ gtbl := g_at 727 (by decide +kernel) (by decide +kernel)
def y_Mo_parts : MethodName := ⟨"NearMarksModel", "parts", "()I"⟩
abbrev c_Mo_parts : ByteArray := prog_13_method_9_code
theorem wc_Mo_parts : Cond.code y_Mo_parts c_Mo_parts 1 (some .int) ∈ gtbl := g_at 731 (by decide +kernel) (by decide +kernel)
def y_Mo_ones : MethodName := ⟨"NearMarksModel", "ones", "(J)I"⟩
abbrev c_Mo_ones : ByteArray := prog_13_method_3_code
theorem wc_Mo_ones : Cond.code y_Mo_ones c_Mo_ones 4 (some .int) ∈ gtbl := g_at 734 (by decide +kernel) (by decide +kernel)
def y_Mo_like : MethodName := ⟨"NearMarksModel", "like", "(J)I"⟩
abbrev c_Mo_like : ByteArray := prog_13_method_11_code
theorem wc_Mo_like : Cond.code y_Mo_like c_Mo_like 5 (some .int) ∈ gtbl := g_at 738 (by decide +kernel) (by decide +kernel)
def y_Mo_own : MethodName := ⟨"NearMarksModel", "own", "(I)J"⟩
abbrev c_Mo_own : ByteArray := prog_13_method_6_code
theorem wc_Mo_own : Cond.code y_Mo_own c_Mo_own 2 (some .long) ∈ gtbl := g_at 742 (by decide +kernel) (by decide +kernel)
def y_Mo_looked : MethodName := ⟨"NearMarksModel", "looked", "(Z)I"⟩
abbrev c_Mo_looked : ByteArray := prog_13_method_12_code
theorem wc_Mo_looked : Cond.code y_Mo_looked c_Mo_looked 5 (some .int) ∈ gtbl := g_at 746 (by decide +kernel) (by decide +kernel)
def y_Mo_isLooked : MethodName := ⟨"NearMarksModel", "isLooked", "(JJJ)Z"⟩
abbrev c_Mo_isLooked : ByteArray := prog_13_method_10_code
theorem wc_Mo_isLooked : Cond.code y_Mo_isLooked c_Mo_isLooked 11 (some .boolean) ∈ gtbl := g_at 749 (by decide +kernel) (by decide +kernel)
def y_Mo_has : MethodName := ⟨"NearMarksModel", "has", "(JI)Z"⟩
abbrev c_Mo_has : ByteArray := prog_13_method_4_code
theorem wc_Mo_has : Cond.code y_Mo_has c_Mo_has 3 (some .boolean) ∈ gtbl := g_at 752 (by decide +kernel) (by decide +kernel)
def y_Mo_off : MethodName := ⟨"NearMarksModel", "off", "(I)I"⟩
abbrev c_Mo_off : ByteArray := prog_13_method_8_code
theorem wc_Mo_off : Cond.code y_Mo_off c_Mo_off 2 (some .int) ∈ gtbl := g_at 756 (by decide +kernel) (by decide +kernel)
def y_Mo_first : MethodName := ⟨"NearMarksModel", "first", "(Z)I"⟩
abbrev c_Mo_first : ByteArray := prog_13_method_23_code
theorem wc_Mo_first : Cond.code y_Mo_first c_Mo_first 3 (some .int) ∈ gtbl := g_at 760 (by decide +kernel) (by decide +kernel)
def y_Mo_nearestOf : MethodName := ⟨"NearMarksModel", "nearestOf", "(I)I"⟩
abbrev c_Mo_nearestOf : ByteArray := prog_13_method_14_code
theorem wc_Mo_nearestOf : Cond.code y_Mo_nearestOf c_Mo_nearestOf 4 (some .int) ∈ gtbl := g_at 764 (by decide +kernel) (by decide +kernel)
def y_Mo_ahead : MethodName := ⟨"NearMarksModel", "ahead", "(I)I"⟩
abbrev c_Mo_ahead : ByteArray := prog_13_method_13_code
theorem wc_Mo_ahead : Cond.code y_Mo_ahead c_Mo_ahead 4 (some .int) ∈ gtbl := g_at 768 (by decide +kernel) (by decide +kernel)
def y_Mo_dead : MethodName := ⟨"NearMarksModel", "dead", "()I"⟩
abbrev c_Mo_dead : ByteArray := prog_13_method_16_code
theorem wc_Mo_dead : Cond.code y_Mo_dead c_Mo_dead 3 (some .int) ∈ gtbl := g_at 772 (by decide +kernel) (by decide +kernel)
def y_Mo_isDead : MethodName := ⟨"NearMarksModel", "isDead", "(I)Z"⟩
abbrev c_Mo_isDead : ByteArray := prog_13_method_15_code
theorem wc_Mo_isDead : Cond.code y_Mo_isDead c_Mo_isDead 4 (some .boolean) ∈ gtbl := g_at 776 (by decide +kernel) (by decide +kernel)
def y_Mo_together : MethodName := ⟨"NearMarksModel", "together", "()I"⟩
abbrev c_Mo_together : ByteArray := prog_13_method_18_code
theorem wc_Mo_together : Cond.code y_Mo_together c_Mo_together 3 (some .int) ∈ gtbl := g_at 780 (by decide +kernel) (by decide +kernel)
def y_Mo_areTogether : MethodName := ⟨"NearMarksModel", "areTogether", "(II)Z"⟩
abbrev c_Mo_areTogether : ByteArray := prog_13_method_17_code
theorem wc_Mo_areTogether : Cond.code y_Mo_areTogether c_Mo_areTogether 7 (some .boolean) ∈ gtbl := g_at 784 (by decide +kernel) (by decide +kernel)
def y_Mo_could : MethodName := ⟨"NearMarksModel", "could", "(Z)I"⟩
abbrev c_Mo_could : ByteArray := prog_13_method_20_code
theorem wc_Mo_could : Cond.code y_Mo_could c_Mo_could 5 (some .int) ∈ gtbl := g_at 788 (by decide +kernel) (by decide +kernel)
def y_Mo_couldBe : MethodName := ⟨"NearMarksModel", "couldBe", "(I)Z"⟩
abbrev c_Mo_couldBe : ByteArray := prog_13_method_19_code
theorem wc_Mo_couldBe : Cond.code y_Mo_couldBe c_Mo_couldBe 4 (some .boolean) ∈ gtbl := g_at 792 (by decide +kernel) (by decide +kernel)
def y_Mo_asked : MethodName := ⟨"NearMarksModel", "asked", "()I"⟩
abbrev c_Mo_asked : ByteArray := prog_13_method_21_code
theorem wc_Mo_asked : Cond.code y_Mo_asked c_Mo_asked 7 (some .int) ∈ gtbl := g_at 796 (by decide +kernel) (by decide +kernel)
def y_Mo_wrong : MethodName := ⟨"NearMarksModel", "wrong", "()I"⟩
abbrev c_Mo_wrong : ByteArray := prog_13_method_22_code
theorem wc_Mo_wrong : Cond.code y_Mo_wrong c_Mo_wrong 3 (some .int) ∈ gtbl := g_at 800 (by decide +kernel) (by decide +kernel)
def y_Mo_isMark : MethodName := ⟨"NearMarksModel", "isMark", "(I)Z"⟩
abbrev c_Mo_isMark : ByteArray := prog_13_method_7_code
theorem wc_Mo_isMark : Cond.code y_Mo_isMark c_Mo_isMark 2 (some .boolean) ∈ gtbl := g_at 804 (by decide +kernel) (by decide +kernel)
def y_Mo_in : MethodName := ⟨"NearMarksModel", "in", "(JJJ)Z"⟩
abbrev c_Mo_in : ByteArray := prog_13_method_2_code
theorem wc_Mo_in : Cond.code y_Mo_in c_Mo_in 6 (some .boolean) ∈ gtbl := g_at 807 (by decide +kernel) (by decide +kernel)
def y_Mo_hand : MethodName := ⟨"NearMarksModel", "hand", "()J"⟩
abbrev c_Mo_hand : ByteArray := prog_13_method_25_code
theorem wc_Mo_hand : Cond.code y_Mo_hand c_Mo_hand 1 (some .long) ∈ gtbl := g_at 812 (by decide +kernel) (by decide +kernel)
def y_Mo_markAt : MethodName := ⟨"NearMarksModel", "markAt", "(I)J"⟩
abbrev c_Mo_markAt : ByteArray := prog_13_method_26_code
theorem wc_Mo_markAt : Cond.code y_Mo_markAt c_Mo_markAt 2 (some .long) ∈ gtbl := g_at 816 (by decide +kernel) (by decide +kernel)
def y_Mo_mark : MethodName := ⟨"NearMarksModel", "mark", "(II)I"⟩
abbrev c_Mo_mark : ByteArray := prog_13_method_27_code
theorem wc_Mo_mark : Cond.code y_Mo_mark c_Mo_mark 5 (some .int) ∈ gtbl := g_at 820 (by decide +kernel) (by decide +kernel)
def y_Mo_part : MethodName := ⟨"NearMarksModel", "part", "(II)I"⟩
abbrev c_Mo_part : ByteArray := prog_13_method_31_code
theorem wc_Mo_part : Cond.code y_Mo_part c_Mo_part 3 (some .int) ∈ gtbl := g_at 825 (by decide +kernel) (by decide +kernel)
def y_Mo_beginOf : MethodName := ⟨"NearMarksModel", "beginOf", "(I)I"⟩
abbrev c_Mo_beginOf : ByteArray := prog_13_method_28_code
theorem wc_Mo_beginOf : Cond.code y_Mo_beginOf c_Mo_beginOf 4 (some .int) ∈ gtbl := g_at 829 (by decide +kernel) (by decide +kernel)
def y_Mo_endOf : MethodName := ⟨"NearMarksModel", "endOf", "(I)I"⟩
abbrev c_Mo_endOf : ByteArray := prog_13_method_29_code
theorem wc_Mo_endOf : Cond.code y_Mo_endOf c_Mo_endOf 2 (some .int) ∈ gtbl := g_at 833 (by decide +kernel) (by decide +kernel)
def y_Mo_have : MethodName := ⟨"NearMarksModel", "have", "(I)I"⟩
abbrev c_Mo_have : ByteArray := prog_13_method_30_code
theorem wc_Mo_have : Cond.code y_Mo_have c_Mo_have 6 (some .int) ∈ gtbl := g_at 837 (by decide +kernel) (by decide +kernel)
def y_Mo_type : MethodName := ⟨"NearMarksModel", "type", "(II)I"⟩
abbrev c_Mo_type : ByteArray := prog_13_method_35_code
theorem wc_Mo_type : Cond.code y_Mo_type c_Mo_type 3 (some .int) ∈ gtbl := g_at 841 (by decide +kernel) (by decide +kernel)
def y_Mo_note : MethodName := ⟨"NearMarksModel", "note", "()V"⟩
abbrev c_Mo_note : ByteArray := prog_13_method_32_code
theorem wc_Mo_note : Cond.code y_Mo_note c_Mo_note 2 none ∈ gtbl := g_at 847 (by decide +kernel) (by decide +kernel)
def y_Mo_lay : MethodName := ⟨"NearMarksModel", "lay", "([J[II)V"⟩
abbrev c_Mo_lay : ByteArray := prog_13_method_33_code
theorem wc_Mo_lay : Cond.code y_Mo_lay c_Mo_lay 5 none ∈ gtbl := g_at 851 (by decide +kernel) (by decide +kernel)
def y_Mo_flip : MethodName := ⟨"NearMarksModel", "flip", "(I)I"⟩
abbrev c_Mo_flip : ByteArray := prog_13_method_36_code
theorem wc_Mo_flip : Cond.code y_Mo_flip c_Mo_flip 2 (some .int) ∈ gtbl := g_at 856 (by decide +kernel) (by decide +kernel)
def y_Mo_turn : MethodName := ⟨"NearMarksModel", "turn", "()I"⟩
abbrev c_Mo_turn : ByteArray := prog_13_method_38_code
theorem wc_Mo_turn : Cond.code y_Mo_turn c_Mo_turn 4 (some .int) ∈ gtbl := g_at 861 (by decide +kernel) (by decide +kernel)
def y_Mo_row : MethodName := ⟨"NearMarksModel", "row", "()I"⟩
abbrev c_Mo_row : ByteArray := prog_13_method_37_code
theorem wc_Mo_row : Cond.code y_Mo_row c_Mo_row 1 (some .int) ∈ gtbl := g_at 865 (by decide +kernel) (by decide +kernel)
def y_Mo_mirror : MethodName := ⟨"NearMarksModel", "mirror", "()I"⟩
abbrev c_Mo_mirror : ByteArray := prog_13_method_39_code
theorem wc_Mo_mirror : Cond.code y_Mo_mirror c_Mo_mirror 4 (some .int) ∈ gtbl := g_at 869 (by decide +kernel) (by decide +kernel)
def y_Mo_hold : MethodName := ⟨"NearMarksModel", "hold", "(I)I"⟩
abbrev c_Mo_hold : ByteArray := prog_13_method_40_code
theorem wc_Mo_hold : Cond.code y_Mo_hold c_Mo_hold 3 (some .int) ∈ gtbl := g_at 873 (by decide +kernel) (by decide +kernel)
def y_Mo_put : MethodName := ⟨"NearMarksModel", "put", "(I)I"⟩
abbrev c_Mo_put : ByteArray := prog_13_method_42_code
theorem wc_Mo_put : Cond.code y_Mo_put c_Mo_put 2 (some .int) ∈ gtbl := g_at 877 (by decide +kernel) (by decide +kernel)
def y_Mo_add : MethodName := ⟨"NearMarksModel", "add", "(I)V"⟩
abbrev c_Mo_add : ByteArray := prog_13_method_41_code
theorem wc_Mo_add : Cond.code y_Mo_add c_Mo_add 2 none ∈ gtbl := g_at 884 (by decide +kernel) (by decide +kernel)
def y_Mo_cut : MethodName := ⟨"NearMarksModel", "cut", "(J)I"⟩
abbrev c_Mo_cut : ByteArray := prog_13_method_43_code
theorem wc_Mo_cut : Cond.code y_Mo_cut c_Mo_cut 3 (some .int) ∈ gtbl := g_at 888 (by decide +kernel) (by decide +kernel)
def y_Mo_take : MethodName := ⟨"NearMarksModel", "take", "(I)I"⟩
abbrev c_Mo_take : ByteArray := prog_13_method_44_code
theorem wc_Mo_take : Cond.code y_Mo_take c_Mo_take 4 (some .int) ∈ gtbl := g_at 892 (by decide +kernel) (by decide +kernel)
def y_Mo_kind : MethodName := ⟨"NearMarksModel", "kind", "(II)I"⟩
abbrev c_Mo_kind : ByteArray := prog_13_method_45_code
theorem wc_Mo_kind : Cond.code y_Mo_kind c_Mo_kind 4 (some .int) ∈ gtbl := g_at 896 (by decide +kernel) (by decide +kernel)
def y_Mo_drift : MethodName := ⟨"NearMarksModel", "drift", "(I)I"⟩
abbrev c_Mo_drift : ByteArray := prog_13_method_48_code
theorem wc_Mo_drift : Cond.code y_Mo_drift c_Mo_drift 3 (some .int) ∈ gtbl := g_at 900 (by decide +kernel) (by decide +kernel)
def y_Mo_lot : MethodName := ⟨"NearMarksModel", "lot", "()V"⟩
abbrev c_Mo_lot : ByteArray := prog_13_method_47_code
theorem wc_Mo_lot : Cond.code y_Mo_lot c_Mo_lot 8 none ∈ gtbl := g_at 905 (by decide +kernel) (by decide +kernel)
def y_Mo_draw : MethodName := ⟨"NearMarksModel", "draw", "(I)I"⟩
abbrev c_Mo_draw : ByteArray := prog_13_method_46_code
theorem wc_Mo_draw : Cond.code y_Mo_draw c_Mo_draw 2 (some .int) ∈ gtbl := g_at 909 (by decide +kernel) (by decide +kernel)
def y_Mo_undo : MethodName := ⟨"NearMarksModel", "undo", "(I)I"⟩
abbrev c_Mo_undo : ByteArray := prog_13_method_49_code
theorem wc_Mo_undo : Cond.code y_Mo_undo c_Mo_undo 2 (some .int) ∈ gtbl := g_at 917 (by decide +kernel) (by decide +kernel)
def y_Mo_become : MethodName := ⟨"NearMarksModel", "become", "([J[II)V"⟩
abbrev c_Mo_become : ByteArray := prog_13_method_34_code
theorem wc_Mo_become : Cond.code y_Mo_become c_Mo_become 5 none ∈ gtbl := g_at 921 (by decide +kernel) (by decide +kernel)
def y_Mo_near : MethodName := ⟨"NearMarksModel", "near", "(I)J"⟩
abbrev c_Mo_near : ByteArray := prog_13_method_50_code
theorem wc_Mo_near : Cond.code y_Mo_near c_Mo_near 7 (some .long) ∈ gtbl := g_at 925 (by decide +kernel) (by decide +kernel)
def y_Mo_nearest : MethodName := ⟨"NearMarksModel", "nearest", "(I)I"⟩
abbrev c_Mo_nearest : ByteArray := prog_13_method_51_code
theorem wc_Mo_nearest : Cond.code y_Mo_nearest c_Mo_nearest 2 (some .int) ∈ gtbl := g_at 930 (by decide +kernel) (by decide +kernel)
def y_Mo_apart : MethodName := ⟨"NearMarksModel", "apart", "(II)I"⟩
abbrev c_Mo_apart : ByteArray := prog_13_method_52_code
theorem wc_Mo_apart : Cond.code y_Mo_apart c_Mo_apart 3 (some .int) ∈ gtbl := g_at 934 (by decide +kernel) (by decide +kernel)
def y_Mo_groups : MethodName := ⟨"NearMarksModel", "groups", "(I)I"⟩
abbrev c_Mo_groups : ByteArray := prog_13_method_55_code
theorem wc_Mo_groups : Cond.code y_Mo_groups c_Mo_groups 2 (some .int) ∈ gtbl := g_at 938 (by decide +kernel) (by decide +kernel)
def y_Mo_layGroups : MethodName := ⟨"NearMarksModel", "layGroups", "(I)I"⟩
abbrev c_Mo_layGroups : ByteArray := prog_13_method_53_code
theorem wc_Mo_layGroups : Cond.code y_Mo_layGroups c_Mo_layGroups 5 (some .int) ∈ gtbl := g_at 942 (by decide +kernel) (by decide +kernel)
def y_Mo_group : MethodName := ⟨"NearMarksModel", "group", "(III)I"⟩
abbrev c_Mo_group : ByteArray := prog_13_method_58_code
theorem wc_Mo_group : Cond.code y_Mo_group c_Mo_group 5 (some .int) ∈ gtbl := g_at 946 (by decide +kernel) (by decide +kernel)
def y_Mo_leastOf : MethodName := ⟨"NearMarksModel", "leastOf", "(I)I"⟩
abbrev c_Mo_leastOf : ByteArray := prog_13_method_54_code
theorem wc_Mo_leastOf : Cond.code y_Mo_leastOf c_Mo_leastOf 4 (some .int) ∈ gtbl := g_at 950 (by decide +kernel) (by decide +kernel)
def y_Mo_manyOf : MethodName := ⟨"NearMarksModel", "manyOf", "(I)I"⟩
abbrev c_Mo_manyOf : ByteArray := prog_13_method_56_code
theorem wc_Mo_manyOf : Cond.code y_Mo_manyOf c_Mo_manyOf 4 (some .int) ∈ gtbl := g_at 954 (by decide +kernel) (by decide +kernel)
def y_Mo_wide : MethodName := ⟨"NearMarksModel", "wide", "(I)I"⟩
abbrev c_Mo_wide : ByteArray := prog_13_method_57_code
theorem wc_Mo_wide : Cond.code y_Mo_wide c_Mo_wide 6 (some .int) ∈ gtbl := g_at 958 (by decide +kernel) (by decide +kernel)
def y_Mo_middle : MethodName := ⟨"NearMarksModel", "middle", "(II)J"⟩
abbrev c_Mo_middle : ByteArray := prog_13_method_59_code
theorem wc_Mo_middle : Cond.code y_Mo_middle c_Mo_middle 9 (some .long) ∈ gtbl := g_at 962 (by decide +kernel) (by decide +kernel)
def y_Mo_fewest : MethodName := ⟨"NearMarksModel", "fewest", "(II)I"⟩
abbrev c_Mo_fewest : ByteArray := prog_13_method_62_code
theorem wc_Mo_fewest : Cond.code y_Mo_fewest c_Mo_fewest 9 (some .int) ∈ gtbl := g_at 966 (by decide +kernel) (by decide +kernel)
def y_Mo_cutBy : MethodName := ⟨"NearMarksModel", "cutBy", "(II)J"⟩
abbrev c_Mo_cutBy : ByteArray := prog_13_method_61_code
theorem wc_Mo_cutBy : Cond.code y_Mo_cutBy c_Mo_cutBy 6 (some .long) ∈ gtbl := g_at 970 (by decide +kernel) (by decide +kernel)
def y_Mo_isMore : MethodName := ⟨"NearMarksModel", "isMore", "(III)Z"⟩
abbrev c_Mo_isMore : ByteArray := prog_13_method_60_code
theorem wc_Mo_isMore : Cond.code y_Mo_isMore c_Mo_isMore 5 (some .boolean) ∈ gtbl := g_at 973 (by decide +kernel) (by decide +kernel)
def y_Mo_see : MethodName := ⟨"NearMarksModel", "see", "(I)I"⟩
abbrev c_Mo_see : ByteArray := prog_13_method_63_code
theorem wc_Mo_see : Cond.code y_Mo_see c_Mo_see 2 (some .int) ∈ gtbl := g_at 977 (by decide +kernel) (by decide +kernel)
def y_Mo_write : MethodName := ⟨"NearMarksModel", "write", "(III)I"⟩
abbrev c_Mo_write : ByteArray := prog_13_method_64_code
theorem wc_Mo_write : Cond.code y_Mo_write c_Mo_write 4 (some .int) ∈ gtbl := g_at 981 (by decide +kernel) (by decide +kernel)
def y_Mo_tear : MethodName := ⟨"NearMarksModel", "tear", "()I"⟩
abbrev c_Mo_tear : ByteArray := prog_13_method_65_code
theorem wc_Mo_tear : Cond.code y_Mo_tear c_Mo_tear 2 (some .int) ∈ gtbl := g_at 985 (by decide +kernel) (by decide +kernel)
def y_Mo_seed : MethodName := ⟨"NearMarksModel", "seed", "(I)I"⟩
abbrev c_Mo_seed : ByteArray := prog_13_method_66_code
theorem wc_Mo_seed : Cond.code y_Mo_seed c_Mo_seed 3 (some .int) ∈ gtbl := g_at 989 (by decide +kernel) (by decide +kernel)
def y_Mo_keep : MethodName := ⟨"NearMarksModel", "keep", "(I)I"⟩
abbrev c_Mo_keep : ByteArray := prog_13_method_67_code
theorem wc_Mo_keep : Cond.code y_Mo_keep c_Mo_keep 2 (some .int) ∈ gtbl := g_at 993 (by decide +kernel) (by decide +kernel)
def y_Mo_goBack : MethodName := ⟨"NearMarksModel", "goBack", "(I)I"⟩
abbrev c_Mo_goBack : ByteArray := prog_13_method_68_code
theorem wc_Mo_goBack : Cond.code y_Mo_goBack c_Mo_goBack 2 (some .int) ∈ gtbl := g_at 997 (by decide +kernel) (by decide +kernel)
end
section
/-! MY LAYER. One world of 111 cells behind one base address (NearMarks object and all that it holds: 0 .. 94; the reference: 95 .. 110), what they hold told by two maps: mi (ints, booleans: fields by slot, arrays by index) and ml (longs). References never change behind the constructors. -/
def OM : Type := Nat × va_G × (Nat → ClassId)
def ads (o : OM) (i : Nat) : Nat := o.1 + i
abbrev MI : Type := Nat → Nat → Int32
abbrev ML : Type := Nat → Nat → Int64
def uf {α : Type} (f : Nat → α) (k : Nat) (v : α) : Nat → α := fun b => if b = k then v else f b
def u2 {α : Type} (f : Nat → Nat → α) (i k : Nat) (v : α) : Nat → Nat → α := fun a => if a = i then uf (f i) k v else f a
theorem u2_s {α : Type} (f : Nat → Nat → α) (i k : Nat) (v : α) : u2 f i k v i = uf (f i) k v := by simp [u2]
theorem u2_n {α : Type} (f : Nat → Nat → α) {i j : Nat} (k : Nat) (v : α) (h : j ≠ i) : u2 f i k v j = f j := by simp [u2, h]
theorem uf_s {α : Type} (f : Nat → α) (k : Nat) (v : α) : uf f k v k = v := by simp [uf]
theorem uf_n {α : Type} (f : Nat → α) {k j : Nat} (v : α) (h : j ≠ k) : uf f k v j = f j := by simp [uf, h]
def aI (o : OM) (n : Nat) (f : Nat → Int32) : va_E := .inl (o.2.2 0, n, .inl f)
def aJ (o : OM) (n : Nat) (g : Nat → Int64) : va_E := .inl (o.2.2 1, n, .inr (.inl g))
def aZ (o : OM) (n : Nat) (f : Nat → Int32) : va_E := .inl (o.2.2 2, n, .inl f)
def aIm (o : OM) (n : Nat) (f : Nat → Option Nat) : va_E := .inl (o.2.2 3, n, .inr (.inr (.inr (.inr f))))
def aSt (o : OM) (n : Nat) (f : Nat → Option Nat) : va_E := .inl (o.2.2 4, n, .inr (.inr (.inr (.inr f))))
/-- fields of each class: what is held by slot, references by the cells' order -/
def fSt (o : OM) (i : Nat) (f : Nat → Int32) (g : Nat → Int64) : List Value := [.long (g 0), .long (g 1), .int (f 2), .ref (ads o (i + 1)), .ref (ads o (i + 2))]
def fPt (o : OM) (i : Nat) (f : Nat → Int32) (_ : Nat → Int64) : List Value := [.ref (ads o (i + 1)), .ref (ads o (i + 2)), .int (f 2)]
def fIm (o : OM) (i : Nat) (f : Nat → Int32) (_ : Nat → Int64) : List Value := [.ref (ads o (i + 1)), .int (f 1), .int (f 2)]
def fPa (o : OM) (i : Nat) (f : Nat → Int32) (_ : Nat → Int64) : List Value := [.ref (ads o (i + 1)), .int (f 1), .int (f 2)]
def fGr (o : OM) (i : Nat) (f : Nat → Int32) (_ : Nat → Int64) : List Value := [.ref (ads o (i + 1)), .ref (ads o (i + 2)), .int (f 2)]
def fCo (o : OM) (i : Nat) (_ : Nat → Int32) (g : Nat → Int64) : List Value := [.ref (ads o (i + 1)), .long (g 1)]
def fSi (o : OM) (i : Nat) (f : Nat → Int32) (_ : Nat → Int64) : List Value := [.ref (ads o (i + 1)), .ref (ads o (i + 2)), .ref (ads o (i + 3)), .int (f 3)]
def fBk (o : OM) (i : Nat) (f : Nat → Int32) (_ : Nat → Int64) : List Value := [.ref (ads o (i + 1)), .ref (ads o (i + 2)), .ref (ads o (i + 3)), .int (f 3)]
def fDr (_ : OM) (_ : Nat) (f : Nat → Int32) (_ : Nat → Int64) : List Value := [.int (f 0)]
def fNm (o : OM) (_ : Nat) (_ : Nat → Int32) (_ : Nat → Int64) : List Value := [.ref (ads o 1), .ref (ads o 4), .ref (ads o 66), .ref (ads o 75), .ref (ads o 78), .ref (ads o 81), .ref (ads o 84), .ref (ads o 86), .ref (ads o 90), .ref (ads o 94)]
def fMo (o : OM) (_ : Nat) (f : Nat → Int32) (_ : Nat → Int64) : List Value := [.ref (ads o 96), .ref (ads o 97), .int (f 2), .ref (ads o 98), .ref (ads o 99), .ref (ads o 100), .ref (ads o 101), .ref (ads o 102), .ref (ads o 103), .int (f 9), .int (f 10), .ref (ads o 104), .ref (ads o 105), .int (f 13), .ref (ads o 106), .ref (ads o 107), .ref (ads o 108), .ref (ads o 109), .ref (ads o 110)]
def cE (o : OM) (f : Nat → Int32) (g : Nat → Int64) (i : Nat) : va_E :=
  if 6 ≤ i ∧ i < 66 then (if i % 3 = 0 then .inr (8, fSt o i f g) else if i % 3 = 1 then aJ o 40 g else aI o 40 f)
  else if i = 0 then .inr (9, fNm o i f g) else if i = 1 then .inr (8, fSt o i f g) else if i = 2 then aJ o 40 g else if i = 3 then aI o 40 f
  else if i = 4 then .inr (6, fPa o i f g) else if i = 5 then aSt o 20 (fun k => some (ads o (6 + 3 * k)))
  else if i = 66 then aIm o 2 (fun k => some (ads o (67 + 4 * k)))
  else if i = 67 then .inr (4, fIm o i f g) else if i = 68 then .inr (8, fSt o i f g) else if i = 69 then aJ o 40 g else if i = 70 then aI o 40 f
  else if i = 71 then .inr (4, fIm o i f g) else if i = 72 then .inr (8, fSt o i f g) else if i = 73 then aJ o 40 g else if i = 74 then aI o 40 f
  else if i = 75 then .inr (5, fPt o i f g) else if i = 76 then aI o 8 f else if i = 77 then aJ o 8 g
  else if i = 78 then .inr (5, fPt o i f g) else if i = 79 then aI o 8 f else if i = 80 then aJ o 8 g
  else if i = 81 then .inr (3, fGr o i f g) else if i = 82 then aJ o 40 g else if i = 83 then aJ o 40 g
  else if i = 84 then .inr (1, fCo o i f g) else if i = 85 then aJ o 64 g
  else if i = 86 then .inr (7, fSi o i f g) else if i = 87 then aJ o 6 g else if i = 88 then aI o 6 f else if i = 89 then aI o 65 f
  else if i = 90 then .inr (0, fBk o i f g) else if i = 91 then aI o 20 f else if i = 92 then aI o 20 f else if i = 93 then aI o 20 f
  else if i = 94 then .inr (2, fDr o i f g)
  else if i = 95 then .inr (10, fMo o i f g) else if i = 96 then aJ o 43 g else if i = 97 then aI o 40 f else if i = 98 then aJ o 860 g else if i = 99 then aI o 800 f
  else if i = 100 then aJ o 86 g else if i = 101 then aI o 80 f else if i = 102 then aI o 2 f else if i = 103 then aZ o 2 f
  else if i = 104 then aJ o 6 g else if i = 105 then aI o 6 f else if i = 106 then aI o 20 f else if i = 107 then aI o 20 f else if i = 108 then aI o 20 f
  else if i = 109 then aI o 40 f else aI o 65 f
def cellsL (o : OM) (mi : MI) (ml : ML) : va_W := (List.range 111).map (fun i => (ads o i, cE o (mi i) (ml i) i))
def Wp (o : OM) (mi : MI) (ml : ML) (H : Heap) : Prop := va_P o.2.1 vcl (cellsL o mi ml) H
def isA (o : OM) (q : Nat) : Prop := o.1 ≤ q ∧ q < o.1 + 111
theorem cells_at (o : OM) (mi : MI) (ml : ML) {i : Nat} (h : i < 111) : (cellsL o mi ml)[i]? = some (ads o i, cE o (mi i) (ml i) i) := by
  simp [cellsL, h]
theorem cells_inv {o : OM} {mi : MI} {ml : ML} {i : Nat} {q : Nat × va_E} (h : (cellsL o mi ml)[i]? = some q) : i < 111 ∧ q = (ads o i, cE o (mi i) (ml i) i) := by
  have hl : i < 111 := by
    have := (List.getElem?_eq_some_iff.mp h).1
    simpa [cellsL] using this
  rw [cells_at o mi ml hl] at h
  exact ⟨hl, (Option.some.inj h).symm⟩
theorem cells_D (o : OM) (mi : MI) (ml : ML) : va_D (isA o) (cellsL o mi ml) := by
  refine ⟨fun i j p q hi hj e => ?_, fun k q hk => ?_⟩
  · obtain ⟨h1, rfl⟩ := cells_inv hi
    obtain ⟨h2, rfl⟩ := cells_inv hj
    have e' : o.1 + i = o.1 + j := e
    omega
  · obtain ⟨h1, rfl⟩ := cells_inv hk
    exact ⟨by show o.1 ≤ o.1 + k; omega, by show o.1 + k < o.1 + 111; omega⟩
theorem cells_set (o : OM) {mi mi' : MI} {ml ml' : ML} {i : Nat} {e : va_E} (hi : i < 111) (h1 : ∀ j, j ≠ i → mi' j = mi j ∧ ml' j = ml j) (h2 : cE o (mi' i) (ml' i) i = e) : (cellsL o mi ml).set i (ads o i, e) = cellsL o mi' ml' := by
  apply List.ext_getElem?
  intro j
  by_cases hj : j < 111
  · by_cases hji : j = i
    · subst hji
      rw [List.getElem?_set_self (by simp [cellsL]; exact hj), cells_at o mi' ml' hj, h2]
    · rw [List.getElem?_set_ne (Ne.symm hji), cells_at o mi ml hj, cells_at o mi' ml' hj, (h1 j hji).1, (h1 j hji).2]
  · rw [List.getElem?_eq_none (by simp [cellsL]; omega), List.getElem?_eq_none (by simp [cellsL]; omega)]
/-- which private methods are called across the nest -/
def nst : List (String × Nat × MethodName × String) := [("NearMarks$Parts", 23, y_Nm_hasBit, "NearMarks"), ("NearMarks$State", 36, y_Nm_distanceOf, "NearMarks"), ("NearMarks$Sightings", 26, y_Nm_distanceOf, "NearMarks"), ("NearMarks$Sightings", 44, y_Nm_leastOf, "NearMarks"), ("NearMarks$Sightings", 57, y_Nm_hasBit, "NearMarks"), ("NearMarks$Picture", 19, y_Nm_hasBit, "NearMarks"), ("NearMarks$Grouping", 29, y_Nm_hasBit, "NearMarks"), ("NearMarks$State", 47, y_Nm_hasBit, "NearMarks"), ("NearMarks", 78, y_Dr_init, "NearMarks")]
def Nst (U : State) : Prop := ∀ q ∈ nst, va_Nw (.methodLinkNest q.1 q.2.1 q.2.2.1 q.2.2.2) U
theorem Nst.warm {s U : State} (hW : s.WarmedH U.vm) (h : Nst s) : Nst U := fun q hq => va_Nw.warmM hW (h q hq)
def vtys (o : OM) : List (ClassId × FieldType) := [(o.2.2 0, .int), (o.2.2 1, .long), (o.2.2 2, .boolean), (o.2.2 3, .object "NearMarks$Image"), (o.2.2 4, .object "NearMarks$State")]
def Kp (o : OM) (U : State) : Prop := va_K o.2.1 vcl (vtys o) U ∧ Nst U
theorem Kp.warm {o : OM} {s U : State} (hW : s.WarmedH U.vm) (h : Kp o s) : Kp o U := ⟨va_K.moved hW.alike h.1, h.2.warm hW⟩
def wsY (y : MethodName) (cc : ByteArray) (n : Nat) (r : Option FieldType) : List Cond := .code y cc n r :: gtbl
theorem gtbl_good : GoodIn gtbl gtbl := fun _ hw => ⟨hw, good_of_word (List.mem_filter.mp hw).2⟩
theorem wsY_good {y : MethodName} {cc : ByteArray} {n : Nat} {r : Option FieldType} (h : Cond.code y cc n r ∈ gtbl) : GoodIn gtbl (wsY y cc n r) := fun w hw => (List.mem_cons.mp hw).elim (fun e => e ▸ gtbl_good _ h) (fun h2 => gtbl_good _ h2)
/-- CONTRACTS -/
def Qof (o : OM) (P : Option Value → MI → ML → Prop) : Array Value → State → Outcome → State → Prop := fun _ st oc t => (∃ (v : Option Value) (mi : MI) (ml : ML), oc = .returned v ∧ P v mi ml ∧ Wp o mi ml t.heap) ∧ va_F (isA o) st t
def Pof (o : OM) (A : List Value) (mi : MI) (ml : ML) : Array Value → State → Prop := va_Pc A (fun U => Wp o mi ml U.heap ∧ Kp o U)
def Con (l : Launch) (y : MethodName) (cc : ByteArray) (n : Nat) (r : Option FieldType) (fr lo : Nat) (o : OM) (A : List Value) (mi : MI) (ml : ML) (P : Option Value → MI → ML → Prop) : Prop :=
  Met l y (wsY y cc n r) { frames := fr, cells := 0, slots := 0, locals := lo } (Pof o A mi ml) (Qof o P) 0 0 (isA o)
/-- the walk's surroundings: all that stays while a method runs -/
def GT : Type := Program × Launch × Env × Room × State × MethodId × Array Value × List Frame × Method × Code × (State → Prop)
abbrev GT.p (γ : GT) : Program := γ.1
abbrev GT.l (γ : GT) : Launch := γ.2.1
abbrev GT.e (γ : GT) : Env := γ.2.2.1
abbrev GT.R (γ : GT) : Room := γ.2.2.2.1
abbrev GT.s (γ : GT) : State := γ.2.2.2.2.1
abbrev GT.m (γ : GT) : MethodId := γ.2.2.2.2.2.1
abbrev GT.a (γ : GT) : Array Value := γ.2.2.2.2.2.2.1
abbrev GT.b (γ : GT) : List Frame := γ.2.2.2.2.2.2.2.1
abbrev GT.me (γ : GT) : Method := γ.2.2.2.2.2.2.2.2.1
abbrev GT.c (γ : GT) : Code := γ.2.2.2.2.2.2.2.2.2.1
abbrev GT.Q (γ : GT) : State → Prop := γ.2.2.2.2.2.2.2.2.2.2
def V (γ : GT) (o : OM) (n : Nat) (mi : MI) (ml : ML) (pc : Nat) (lv : List (Nat × Value)) (st : List Value) : Prop :=
  ∀ (H : Heap) (locs : List Loc) (ls : Array Slot), Wp o mi ml H → va_S (isA o) γ.s.heap H locs → lv_has ls n lv → W γ.p γ.l γ.e γ.R γ.s γ.m γ.a γ.b γ.me γ.c H locs 0 0 γ.Q (F0 γ.m pc ls st)
def Cx (γ : GT) (l : Launch) (o : OM) (own : String) (cc : ByteArray) (n : Nat) (r : Option FieldType) (fr lo : Nat) (P : Option Value → MI → ML → Prop) : Prop :=
  γ.p.tables.exec = Jvm.exec ∧ γ.c.code = cc ∧ γ.c.maxLocals = n ∧ γ.s.vm.findClass own = some γ.m.cls ∧ (∀ w ∈ gtbl, w.before γ.a γ.s = true) ∧ Kp o γ.s ∧ γ.me.sig.returnType = r ∧ γ.me.locks = false ∧ γ.R.frames = fr ∧ γ.R.locals = lo ∧ γ.l = l ∧ γ.Q = MQ γ.b (Qof o P) γ.a γ.s 0 0 (isA o)
theorem Con.mk {l : Launch} {y : MethodName} {cc : ByteArray} {n : Nat} {r : Option FieldType} {fr lo : Nat} {o : OM} {A : List Value} {mi : MI} {ml : ML} {P : Option Value → MI → ML → Prop} (hy : plainName y.cls = true) (hlen : (lg_sl A).length ≤ n)
    (h : ∀ γ : GT, Cx γ l o y.cls cc n r fr lo P → V γ o n mi ml 0 (lv_args 0 A) []) : Con l y cc n r fr lo o A mi ml P := by
  refine Met.ofW (cc := cc) (maxL := n) (ret := r) hy rfl ?_
  intro p e s m args below meth c s₁ B hml hv
  obtain ⟨rfl, hP, hK⟩ := hv
  have hts := atoms_spec (ws := wsY y cc n r) B.pre
  rw [lg_entry_eq]
  exact h (p, l, e, _, s, m, _, below, meth, c, _) ⟨B.exec, B.bytes, hml, findClass_of_methodNamed B.named, fun w hw => hts w (List.mem_cons_of_mem _ hw), hK, B.returns, B.notSynchronized, rfl, rfl, rfl, rfl⟩ s.heap [] _ hP va_S.rf (lv_entry A hlen)
section ROWS
variable {γ : GT} {l : Launch} {o : OM} {own : String} {cc : ByteArray} {n : Nat} {r : Option FieldType} {fr lo : Nat} {P : Option Value → MI → ML → Prop}
variable {mi : MI} {ml : ML} {pc : Nat} {lv : List (Nat × Value)} {st rest : List Value}
/-- other words for the same -/
theorem V.eq {mi' : MI} {ml' : ML} {lv' : List (Nat × Value)} {st' : List Value} (k : V γ o n mi' ml' pc lv' st') (h1 : mi' = mi) (h2 : ml' = ml) (h3 : lv' = lv) (h4 : st' = st) : V γ o n mi ml pc lv st := by
  subst h1; subst h2; subst h3; subst h4; exact k
theorem V.wk {lv' : List (Nat × Value)} (ks : List Nat) (k : V γ o n mi ml pc lv' st) (h : lv_pick lv ks = lv') : V γ o n mi ml pc lv st := fun H locs ls h1 h2 h3 => k H locs ls h1 h2 (lv_sub h3 ks h)
theorem V.at {pc' : Nat} (h : pc = pc') (k : V γ o n mi ml pc lv st) : V γ o n mi ml pc' lv st := h ▸ k
/-- constants -/
theorem r_iconst (X : Cx γ l o own cc n r fr lo P) {z : Int} {v : Int32} (d : decode cc pc = .ok (.iconst z, 1)) (hv : Int32.ofInt z = v) (k : V γ o n mi ml (pc + 1) lv (.int v :: rest)) : V γ o n mi ml pc lv rest := fun H locs ls h1 h2 h3 => lv_iconst X.1 X.2.1 d hv (k H locs ls h1 h2 h3)
theorem r_bipush (X : Cx γ l o own cc n r fr lo P) {z : Int} {v : Int32} (d : decode cc pc = .ok (.bipush z, 2)) (hv : (Int8.ofInt z).toInt32 = v) (k : V γ o n mi ml (pc + 2) lv (.int v :: rest)) : V γ o n mi ml pc lv rest := fun H locs ls h1 h2 h3 => lv_bipush X.1 X.2.1 d hv (k H locs ls h1 h2 h3)
theorem r_sipush (X : Cx γ l o own cc n r fr lo P) {z : Int} {v : Int32} (d : decode cc pc = .ok (.sipush z, 3)) (hv : (Int16.ofInt z).toInt32 = v) (k : V γ o n mi ml (pc + 3) lv (.int v :: rest)) : V γ o n mi ml pc lv rest := fun H locs ls h1 h2 h3 => lv_sipush X.1 X.2.1 d hv (k H locs ls h1 h2 h3)
theorem r_lconst (X : Cx γ l o own cc n r fr lo P) {z : Fin 2} {v : Int64} (d : decode cc pc = .ok (.lconst z, 1)) (hv : Int64.ofNat (z : Nat) = v) (k : V γ o n mi ml (pc + 1) lv (.long v :: rest)) : V γ o n mi ml pc lv rest := fun H locs ls h1 h2 h3 => lv_lconst X.1 X.2.1 d hv (k H locs ls h1 h2 h3)
theorem r_ldc (X : Cx γ l o own cc n r fr lo P) {ix : Nat} {v0 v : Int32} (w : Cond.constant own ix v0 ∈ gtbl) (hv : v0 = v) (d : decode cc pc = .ok (.ldc ix, 2)) (k : V γ o n mi ml (pc + 2) lv (.int v :: rest)) : V γ o n mi ml pc lv rest := fun H locs ls h1 h2 h3 => lv_ldc X.1 X.2.1 X.2.2.2.1 (hv ▸ X.2.2.2.2.1 _ w) d (k H locs ls h1 h2 h3)
theorem r_ldc2 (X : Cx γ l o own cc n r fr lo P) {ix : Nat} {v : Int64} (w : Cond.constantLong own ix v ∈ gtbl) (d : decode cc pc = .ok (.ldc2_w ix, 3)) (k : V γ o n mi ml (pc + 3) lv (.long v :: rest)) : V γ o n mi ml pc lv rest := fun H locs ls h1 h2 h3 => lv_ldc2 X.1 X.2.1 X.2.2.2.1 (X.2.2.2.2.1 _ w) d (k H locs ls h1 h2 h3)
/-- locals -/
theorem r_iload_n (X : Cx γ l o own cc n r fr lo P) {q : Fin 4} {i : Nat} {x : Int32} (k0 : Nat) (d : decode cc pc = .ok (.iload_n q, 1)) (hi : (q : Nat) = i) (hl : lv[k0]? = some (i, .int x)) (k : V γ o n mi ml (pc + 1) lv (.int x :: rest)) : V γ o n mi ml pc lv rest := fun H locs ls h1 h2 h3 => lv_iload_n X.1 X.2.1 d hi (lv_at h3 k0 hl) (k H locs ls h1 h2 h3)
theorem r_iload (X : Cx γ l o own cc n r fr lo P) {i : Nat} {x : Int32} (k0 : Nat) (d : decode cc pc = .ok (.iload i, 2)) (hl : lv[k0]? = some (i, .int x)) (k : V γ o n mi ml (pc + 2) lv (.int x :: rest)) : V γ o n mi ml pc lv rest := fun H locs ls h1 h2 h3 => lv_iload X.1 X.2.1 d (lv_at h3 k0 hl) (k H locs ls h1 h2 h3)
theorem r_lload_n (X : Cx γ l o own cc n r fr lo P) {q : Fin 4} {i : Nat} {x : Int64} (k0 : Nat) (d : decode cc pc = .ok (.lload_n q, 1)) (hi : (q : Nat) = i) (hl : lv[k0]? = some (i, .long x)) (k : V γ o n mi ml (pc + 1) lv (.long x :: rest)) : V γ o n mi ml pc lv rest := fun H locs ls h1 h2 h3 => lv_lload_n X.1 X.2.1 d hi (lv_at h3 k0 hl) (k H locs ls h1 h2 h3)
theorem r_lload (X : Cx γ l o own cc n r fr lo P) {i : Nat} {x : Int64} (k0 : Nat) (d : decode cc pc = .ok (.lload i, 2)) (hl : lv[k0]? = some (i, .long x)) (k : V γ o n mi ml (pc + 2) lv (.long x :: rest)) : V γ o n mi ml pc lv rest := fun H locs ls h1 h2 h3 => lv_lload X.1 X.2.1 d (lv_at h3 k0 hl) (k H locs ls h1 h2 h3)
theorem r_aload_n (X : Cx γ l o own cc n r fr lo P) {q : Fin 4} {i : Nat} {x : Nat} (k0 : Nat) (d : decode cc pc = .ok (.aload_n q, 1)) (hi : (q : Nat) = i) (hl : lv[k0]? = some (i, .ref x)) (k : V γ o n mi ml (pc + 1) lv (.ref x :: rest)) : V γ o n mi ml pc lv rest := fun H locs ls h1 h2 h3 => lv_aload_n X.1 X.2.1 d hi (lv_at h3 k0 hl) (k H locs ls h1 h2 h3)
theorem r_istore_n (X : Cx γ l o own cc n r fr lo P) {q : Fin 4} {i : Nat} {x : Int32} (lv' : List (Nat × Value)) (d : decode cc pc = .ok (.istore_n q, 1)) (hi : (q : Nat) = i) (hn : i < n) (hl : (i, Value.int x) :: lv.filter (fun q => !(q.1 == i) && !(q.1 + 1 == i && q.2.category == 2)) = lv') (k : V γ o n mi ml (pc + 1) lv' rest) : V γ o n mi ml pc lv (.int x :: rest) := fun H locs ls h1 h2 h3 => lv_istore_n X.1 X.2.1 d hi h3 hn hl (fun ls2 h4 => k H locs ls2 h1 h2 h4)
theorem r_istore (X : Cx γ l o own cc n r fr lo P) {i : Nat} {x : Int32} (lv' : List (Nat × Value)) (d : decode cc pc = .ok (.istore i, 2)) (hn : i < n) (hl : (i, Value.int x) :: lv.filter (fun q => !(q.1 == i) && !(q.1 + 1 == i && q.2.category == 2)) = lv') (k : V γ o n mi ml (pc + 2) lv' rest) : V γ o n mi ml pc lv (.int x :: rest) := fun H locs ls h1 h2 h3 => lv_istore X.1 X.2.1 d h3 hn hl (fun ls2 h4 => k H locs ls2 h1 h2 h4)
theorem r_lstore_n (X : Cx γ l o own cc n r fr lo P) {q : Fin 4} {i : Nat} {x : Int64} (lv' : List (Nat × Value)) (d : decode cc pc = .ok (.lstore_n q, 1)) (hi : (q : Nat) = i) (hn : i + 1 < n) (hl : (i, Value.long x) :: lv.filter (fun q => !(q.1 == i) && (!(q.1 == i + 1) && !(q.1 + 1 == i && q.2.category == 2))) = lv') (k : V γ o n mi ml (pc + 1) lv' rest) : V γ o n mi ml pc lv (.long x :: rest) := fun H locs ls h1 h2 h3 => lv_lstore_n X.1 X.2.1 d hi h3 hn hl (fun ls2 h4 => k H locs ls2 h1 h2 h4)
theorem r_lstore (X : Cx γ l o own cc n r fr lo P) {i : Nat} {x : Int64} (lv' : List (Nat × Value)) (d : decode cc pc = .ok (.lstore i, 2)) (hn : i + 1 < n) (hl : (i, Value.long x) :: lv.filter (fun q => !(q.1 == i) && (!(q.1 == i + 1) && !(q.1 + 1 == i && q.2.category == 2))) = lv') (k : V γ o n mi ml (pc + 2) lv' rest) : V γ o n mi ml pc lv (.long x :: rest) := fun H locs ls h1 h2 h3 => lv_lstore X.1 X.2.1 d h3 hn hl (fun ls2 h4 => k H locs ls2 h1 h2 h4)
theorem r_iinc (X : Cx γ l o own cc n r fr lo P) {i : Nat} {z : Int} {x v : Int32} (k0 : Nat) (lv' : List (Nat × Value)) (d : decode cc pc = .ok (.iinc i z, 3)) (hk : lv[k0]? = some (i, .int x)) (hv : x + Int32.ofInt z = v) (hn : i < n) (hl : (i, Value.int v) :: lv.filter (fun q => !(q.1 == i) && !(q.1 + 1 == i && q.2.category == 2)) = lv') (k : V γ o n mi ml (pc + 3) lv' rest) : V γ o n mi ml pc lv rest := fun H locs ls h1 h2 h3 => lv_iinc X.1 X.2.1 d h3 hk hv hn hl (fun ls2 h4 => k H locs ls2 h1 h2 h4)
end ROWS
end
section
/-! rows of my layer: arithmetic, branches, fields, arrays, calls, ends -/
def bI (b : Bool) : Int32 := if b then 1 else 0
theorem bI_eq0 (b : Bool) : bI b = 0 ↔ b = false := by cases b <;> decide
theorem bI_t : bI true = 1 := rfl
theorem bI_f : bI false = 0 := rfl
theorem bI_nar (b : Bool) : narrow .boolean (.int (bI b)) = .int (bI b) := by cases b <;> rfl
def shl (x : Int64) (k : Nat) : Int64 := x <<< ((nI k).toInt64 &&& 63)
def shr (x : Int64) (k : Nat) : Int64 := x >>> ((nI k).toInt64 &&& 63)
def ushr (x : Int64) (k : Nat) : Int64 := (x.toUInt64 >>> ((nI k).toInt64.toUInt64 &&& Int64.toUInt64 63)).toInt64
section ROWS2
variable {γ : GT} {l : Launch} {o : OM} {own : String} {cc : ByteArray} {n : Nat} {r : Option FieldType} {fr lo : Nat} {P : Option Value → MI → ML → Prop}
variable {mi : MI} {ml : ML} {pc : Nat} {lv : List (Nat × Value)} {st rest : List Value}
theorem r_iadd (X : Cx γ l o own cc n r fr lo P) {x y v : Int32} (d : decode cc pc = .ok (.iadd, 1)) (hv : x + y = v) (k : V γ o n mi ml (pc + 1) lv (.int v :: rest)) : V γ o n mi ml (pc) lv (.int y :: .int x :: rest) := fun H locs ls h1 h2 h3 => lv_iadd X.1 X.2.1 d (by rw [hv]; exact k H locs ls h1 h2 h3)
theorem r_isub (X : Cx γ l o own cc n r fr lo P) {x y v : Int32} (d : decode cc pc = .ok (.isub, 1)) (hv : x - y = v) (k : V γ o n mi ml (pc + 1) lv (.int v :: rest)) : V γ o n mi ml (pc) lv (.int y :: .int x :: rest) := fun H locs ls h1 h2 h3 => lv_isub X.1 X.2.1 d (by rw [hv]; exact k H locs ls h1 h2 h3)
theorem r_imul (X : Cx γ l o own cc n r fr lo P) {x y v : Int32} (d : decode cc pc = .ok (.imul, 1)) (hv : x * y = v) (k : V γ o n mi ml (pc + 1) lv (.int v :: rest)) : V γ o n mi ml (pc) lv (.int y :: .int x :: rest) := fun H locs ls h1 h2 h3 => lv_imul X.1 X.2.1 d (by rw [hv]; exact k H locs ls h1 h2 h3)
theorem r_iand (X : Cx γ l o own cc n r fr lo P) {x y v : Int32} (d : decode cc pc = .ok (.iand, 1)) (hv : x &&& y = v) (k : V γ o n mi ml (pc + 1) lv (.int v :: rest)) : V γ o n mi ml (pc) lv (.int y :: .int x :: rest) := fun H locs ls h1 h2 h3 => lv_iand X.1 X.2.1 d (by rw [hv]; exact k H locs ls h1 h2 h3)
theorem r_idiv (X : Cx γ l o own cc n r fr lo P) {x y v : Int32} (d : decode cc pc = .ok (.idiv, 1)) (hne : ¬ y = 0) (hv : x / y = v) (k : V γ o n mi ml (pc + 1) lv (.int v :: rest)) : V γ o n mi ml (pc) lv (.int y :: .int x :: rest) := fun H locs ls h1 h2 h3 => lv_idiv X.1 X.2.1 d hne (by rw [hv]; exact k H locs ls h1 h2 h3)
theorem r_irem (X : Cx γ l o own cc n r fr lo P) {x y v : Int32} (d : decode cc pc = .ok (.irem, 1)) (hne : ¬ y = 0) (hv : x - x / y * y = v) (k : V γ o n mi ml (pc + 1) lv (.int v :: rest)) : V γ o n mi ml (pc) lv (.int y :: .int x :: rest) := fun H locs ls h1 h2 h3 => lv_irem X.1 X.2.1 d hne (by rw [hv]; exact k H locs ls h1 h2 h3)
theorem r_ladd (X : Cx γ l o own cc n r fr lo P) {x y v : Int64} (d : decode cc pc = .ok (.ladd, 1)) (hv : x + y = v) (k : V γ o n mi ml (pc + 1) lv (.long v :: rest)) : V γ o n mi ml (pc) lv (.long y :: .long x :: rest) := fun H locs ls h1 h2 h3 => lv_ladd X.1 X.2.1 d (by rw [hv]; exact k H locs ls h1 h2 h3)
theorem r_lsub (X : Cx γ l o own cc n r fr lo P) {x y v : Int64} (d : decode cc pc = .ok (.lsub, 1)) (hv : x - y = v) (k : V γ o n mi ml (pc + 1) lv (.long v :: rest)) : V γ o n mi ml (pc) lv (.long y :: .long x :: rest) := fun H locs ls h1 h2 h3 => lv_lsub X.1 X.2.1 d (by rw [hv]; exact k H locs ls h1 h2 h3)
theorem r_lmul (X : Cx γ l o own cc n r fr lo P) {x y v : Int64} (d : decode cc pc = .ok (.lmul, 1)) (hv : x * y = v) (k : V γ o n mi ml (pc + 1) lv (.long v :: rest)) : V γ o n mi ml (pc) lv (.long y :: .long x :: rest) := fun H locs ls h1 h2 h3 => lv_lmul X.1 X.2.1 d (by rw [hv]; exact k H locs ls h1 h2 h3)
theorem r_land (X : Cx γ l o own cc n r fr lo P) {x y v : Int64} (d : decode cc pc = .ok (.land, 1)) (hv : x &&& y = v) (k : V γ o n mi ml (pc + 1) lv (.long v :: rest)) : V γ o n mi ml (pc) lv (.long y :: .long x :: rest) := fun H locs ls h1 h2 h3 => lv_land X.1 X.2.1 d (by rw [hv]; exact k H locs ls h1 h2 h3)
theorem r_lor (X : Cx γ l o own cc n r fr lo P) {x y v : Int64} (d : decode cc pc = .ok (.lor, 1)) (hv : x ||| y = v) (k : V γ o n mi ml (pc + 1) lv (.long v :: rest)) : V γ o n mi ml (pc) lv (.long y :: .long x :: rest) := fun H locs ls h1 h2 h3 => lv_lor X.1 X.2.1 d (by rw [hv]; exact k H locs ls h1 h2 h3)
theorem r_lxor (X : Cx γ l o own cc n r fr lo P) {x y v : Int64} (d : decode cc pc = .ok (.lxor, 1)) (hv : x ^^^ y = v) (k : V γ o n mi ml (pc + 1) lv (.long v :: rest)) : V γ o n mi ml (pc) lv (.long y :: .long x :: rest) := fun H locs ls h1 h2 h3 => lv_lxor X.1 X.2.1 d (by rw [hv]; exact k H locs ls h1 h2 h3)
theorem r_lrem (X : Cx γ l o own cc n r fr lo P) {x y v : Int64} (d : decode cc pc = .ok (.lrem, 1)) (hne : ¬ y = 0) (hv : x - x / y * y = v) (k : V γ o n mi ml (pc + 1) lv (.long v :: rest)) : V γ o n mi ml (pc) lv (.long y :: .long x :: rest) := fun H locs ls h1 h2 h3 => lv_lrem X.1 X.2.1 d hne (by rw [hv]; exact k H locs ls h1 h2 h3)
theorem r_i2l (X : Cx γ l o own cc n r fr lo P) {x : Int32} {v : Int64} (d : decode cc pc = .ok (.i2l, 1)) (hv : x.toInt64 = v) (k : V γ o n mi ml (pc + 1) lv (.long v :: rest)) : V γ o n mi ml (pc) lv (.int x :: rest) := fun H locs ls h1 h2 h3 => lv_i2l X.1 X.2.1 d hv (k H locs ls h1 h2 h3)
theorem r_l2i (X : Cx γ l o own cc n r fr lo P) {x : Int64} {v : Int32} (d : decode cc pc = .ok (.l2i, 1)) (hv : x.toInt32 = v) (k : V γ o n mi ml (pc + 1) lv (.int v :: rest)) : V γ o n mi ml (pc) lv (.long x :: rest) := fun H locs ls h1 h2 h3 => lv_l2i X.1 X.2.1 d hv (k H locs ls h1 h2 h3)
theorem r_lushr (X : Cx γ l o own cc n r fr lo P) {x v : Int64} {y : Int32} (d : decode cc pc = .ok (.lushr, 1)) (hv : (x.toUInt64 >>> (y.toInt64.toUInt64 &&& Int64.toUInt64 63)).toInt64 = v) (k : V γ o n mi ml (pc + 1) lv (.long v :: rest)) : V γ o n mi ml (pc) lv (.int y :: .long x :: rest) := fun H locs ls h1 h2 h3 => lv_lushr X.1 X.2.1 d hv (k H locs ls h1 h2 h3)
theorem r_lshl (X : Cx γ l o own cc n r fr lo P) {x v : Int64} {y : Int32} (d : decode cc pc = .ok (.lshl, 1)) (hv : x <<< (y.toInt64 &&& 63) = v) (k : V γ o n mi ml (pc + 1) lv (.long v :: rest)) : V γ o n mi ml (pc) lv (.int y :: .long x :: rest) := fun H locs ls h1 h2 h3 => lv_lshl X.1 X.2.1 d hv (k H locs ls h1 h2 h3)
theorem r_lshr (X : Cx γ l o own cc n r fr lo P) {x v : Int64} {y : Int32} (d : decode cc pc = .ok (.lshr, 1)) (hv : x >>> (y.toInt64 &&& 63) = v) (k : V γ o n mi ml (pc + 1) lv (.long v :: rest)) : V γ o n mi ml (pc) lv (.int y :: .long x :: rest) := fun H locs ls h1 h2 h3 => lv_lshr X.1 X.2.1 d hv (k H locs ls h1 h2 h3)
theorem r_dup (X : Cx γ l o own cc n r fr lo P) {a : Value} (d : decode cc pc = .ok (.dup, 1)) (ha : a.category = 1) (k : V γ o n mi ml (pc + 1) lv (a :: a :: rest)) : V γ o n mi ml (pc) lv (a :: rest) := fun H locs ls h1 h2 h3 => lv_dup X.1 X.2.1 d ha (k H locs ls h1 h2 h3)
theorem r_pop (X : Cx γ l o own cc n r fr lo P) {a : Value} (d : decode cc pc = .ok (.pop, 1)) (ha : a.category = 1) (k : V γ o n mi ml (pc + 1) lv (rest)) : V γ o n mi ml (pc) lv (a :: rest) := fun H locs ls h1 h2 h3 => lv_pop X.1 X.2.1 d ha (k H locs ls h1 h2 h3)
theorem r_dup2_2 (X : Cx γ l o own cc n r fr lo P) {a : Value} (d : decode cc pc = .ok (.dup2, 1)) (ha : a.category = 2) (k : V γ o n mi ml (pc + 1) lv (a :: a :: rest)) : V γ o n mi ml (pc) lv (a :: rest) := fun H locs ls h1 h2 h3 => lv_dup2_2 X.1 X.2.1 d ha (k H locs ls h1 h2 h3)
theorem r_dup2_11 (X : Cx γ l o own cc n r fr lo P) {a b : Value} (d : decode cc pc = .ok (.dup2, 1)) (ha : a.category = 1) (hb : b.category = 1) (k : V γ o n mi ml (pc + 1) lv (a :: b :: a :: b :: rest)) : V γ o n mi ml (pc) lv (a :: b :: rest) := fun H locs ls h1 h2 h3 => lv_dup2_11 X.1 X.2.1 d ha hb (k H locs ls h1 h2 h3)
theorem r_lcmp (X : Cx γ l o own cc n r fr lo P) {x y : Int64} (d : decode cc pc = .ok (.lcmp, 1)) (k : V γ o n mi ml (pc + 1) lv (.int (lg_cmp x y) :: rest)) : V γ o n mi ml (pc) lv (.long y :: .long x :: rest) := fun H locs ls h1 h2 h3 => W.lcmp X.1 X.2.1 d (k H locs ls h1 h2 h3)
theorem r_goto (X : Cx γ l o own cc n r fr lo P) {off : Int} {tgt : Nat} (d : decode cc pc = .ok (.goto off, 3)) (ht : (pc : Int) + off = (tgt : Int)) (k : V γ o n mi ml (tgt) lv (rest)) : V γ o n mi ml (pc) lv (rest) := fun H locs ls h1 h2 h3 => lv_goto X.1 X.2.1 d ht (k H locs ls h1 h2 h3)
theorem r_ifeq (X : Cx γ l o own cc n r fr lo P) {x : Int32} {c : Prop} {off : Int} {tgt : Nat} (d : decode cc pc = .ok (.ifCond .eq off, 3)) (ht : (pc : Int) + off = (tgt : Int)) (hc : (x = 0) ↔ c) (kt : c → V γ o n mi ml (tgt) lv (rest)) (kf : ¬ c → V γ o n mi ml (pc + 3) lv (rest)) : V γ o n mi ml (pc) lv (.int x :: rest) := fun H locs ls h1 h2 h3 => lv_if_eq X.1 X.2.1 d ht (fun q => kt (hc.mp q) H locs ls h1 h2 h3) (fun q => kf (fun z => q (hc.mpr z)) H locs ls h1 h2 h3)
theorem r_iceq (X : Cx γ l o own cc n r fr lo P) {x y : Int32} {c : Prop} {off : Int} {tgt : Nat} (d : decode cc pc = .ok (.if_icmp .eq off, 3)) (ht : (pc : Int) + off = (tgt : Int)) (hc : (x = y) ↔ c) (kt : c → V γ o n mi ml (tgt) lv (rest)) (kf : ¬ c → V γ o n mi ml (pc + 3) lv (rest)) : V γ o n mi ml (pc) lv (.int y :: .int x :: rest) := fun H locs ls h1 h2 h3 => lv_icmp_eq X.1 X.2.1 d ht (fun q => kt (hc.mp q) H locs ls h1 h2 h3) (fun q => kf (fun z => q (hc.mpr z)) H locs ls h1 h2 h3)
theorem r_ifne (X : Cx γ l o own cc n r fr lo P) {x : Int32} {c : Prop} {off : Int} {tgt : Nat} (d : decode cc pc = .ok (.ifCond .ne off, 3)) (ht : (pc : Int) + off = (tgt : Int)) (hc : (¬ x = 0) ↔ c) (kt : c → V γ o n mi ml (tgt) lv (rest)) (kf : ¬ c → V γ o n mi ml (pc + 3) lv (rest)) : V γ o n mi ml (pc) lv (.int x :: rest) := fun H locs ls h1 h2 h3 => lv_if_ne X.1 X.2.1 d ht (fun q => kt (hc.mp q) H locs ls h1 h2 h3) (fun q => kf (fun z => hc.mpr z q) H locs ls h1 h2 h3)
theorem r_icne (X : Cx γ l o own cc n r fr lo P) {x y : Int32} {c : Prop} {off : Int} {tgt : Nat} (d : decode cc pc = .ok (.if_icmp .ne off, 3)) (ht : (pc : Int) + off = (tgt : Int)) (hc : (¬ x = y) ↔ c) (kt : c → V γ o n mi ml (tgt) lv (rest)) (kf : ¬ c → V γ o n mi ml (pc + 3) lv (rest)) : V γ o n mi ml (pc) lv (.int y :: .int x :: rest) := fun H locs ls h1 h2 h3 => lv_icmp_ne X.1 X.2.1 d ht (fun q => kt (hc.mp q) H locs ls h1 h2 h3) (fun q => kf (fun z => hc.mpr z q) H locs ls h1 h2 h3)
theorem r_iflt (X : Cx γ l o own cc n r fr lo P) {x : Int32} {c : Prop} {off : Int} {tgt : Nat} (d : decode cc pc = .ok (.ifCond .lt off, 3)) (ht : (pc : Int) + off = (tgt : Int)) (hc : (x < 0) ↔ c) (kt : c → V γ o n mi ml (tgt) lv (rest)) (kf : ¬ c → V γ o n mi ml (pc + 3) lv (rest)) : V γ o n mi ml (pc) lv (.int x :: rest) := fun H locs ls h1 h2 h3 => lv_if_lt X.1 X.2.1 d ht (fun q => kt (hc.mp q) H locs ls h1 h2 h3) (fun q => kf (fun z => q (hc.mpr z)) H locs ls h1 h2 h3)
theorem r_iclt (X : Cx γ l o own cc n r fr lo P) {x y : Int32} {c : Prop} {off : Int} {tgt : Nat} (d : decode cc pc = .ok (.if_icmp .lt off, 3)) (ht : (pc : Int) + off = (tgt : Int)) (hc : (x < y) ↔ c) (kt : c → V γ o n mi ml (tgt) lv (rest)) (kf : ¬ c → V γ o n mi ml (pc + 3) lv (rest)) : V γ o n mi ml (pc) lv (.int y :: .int x :: rest) := fun H locs ls h1 h2 h3 => lv_icmp_lt X.1 X.2.1 d ht (fun q => kt (hc.mp q) H locs ls h1 h2 h3) (fun q => kf (fun z => q (hc.mpr z)) H locs ls h1 h2 h3)
theorem r_ifge (X : Cx γ l o own cc n r fr lo P) {x : Int32} {c : Prop} {off : Int} {tgt : Nat} (d : decode cc pc = .ok (.ifCond .ge off, 3)) (ht : (pc : Int) + off = (tgt : Int)) (hc : (0 ≤ x) ↔ c) (kt : c → V γ o n mi ml (tgt) lv (rest)) (kf : ¬ c → V γ o n mi ml (pc + 3) lv (rest)) : V γ o n mi ml (pc) lv (.int x :: rest) := fun H locs ls h1 h2 h3 => lv_if_ge X.1 X.2.1 d ht (fun q => kt (hc.mp q) H locs ls h1 h2 h3) (fun q => kf (fun z => q (hc.mpr z)) H locs ls h1 h2 h3)
theorem r_icge (X : Cx γ l o own cc n r fr lo P) {x y : Int32} {c : Prop} {off : Int} {tgt : Nat} (d : decode cc pc = .ok (.if_icmp .ge off, 3)) (ht : (pc : Int) + off = (tgt : Int)) (hc : (y ≤ x) ↔ c) (kt : c → V γ o n mi ml (tgt) lv (rest)) (kf : ¬ c → V γ o n mi ml (pc + 3) lv (rest)) : V γ o n mi ml (pc) lv (.int y :: .int x :: rest) := fun H locs ls h1 h2 h3 => lv_icmp_ge X.1 X.2.1 d ht (fun q => kt (hc.mp q) H locs ls h1 h2 h3) (fun q => kf (fun z => q (hc.mpr z)) H locs ls h1 h2 h3)
theorem r_ifgt (X : Cx γ l o own cc n r fr lo P) {x : Int32} {c : Prop} {off : Int} {tgt : Nat} (d : decode cc pc = .ok (.ifCond .gt off, 3)) (ht : (pc : Int) + off = (tgt : Int)) (hc : (0 < x) ↔ c) (kt : c → V γ o n mi ml (tgt) lv (rest)) (kf : ¬ c → V γ o n mi ml (pc + 3) lv (rest)) : V γ o n mi ml (pc) lv (.int x :: rest) := fun H locs ls h1 h2 h3 => lv_if_gt X.1 X.2.1 d ht (fun q => kt (hc.mp q) H locs ls h1 h2 h3) (fun q => kf (fun z => q (hc.mpr z)) H locs ls h1 h2 h3)
theorem r_icgt (X : Cx γ l o own cc n r fr lo P) {x y : Int32} {c : Prop} {off : Int} {tgt : Nat} (d : decode cc pc = .ok (.if_icmp .gt off, 3)) (ht : (pc : Int) + off = (tgt : Int)) (hc : (y < x) ↔ c) (kt : c → V γ o n mi ml (tgt) lv (rest)) (kf : ¬ c → V γ o n mi ml (pc + 3) lv (rest)) : V γ o n mi ml (pc) lv (.int y :: .int x :: rest) := fun H locs ls h1 h2 h3 => lv_icmp_gt X.1 X.2.1 d ht (fun q => kt (hc.mp q) H locs ls h1 h2 h3) (fun q => kf (fun z => q (hc.mpr z)) H locs ls h1 h2 h3)
theorem r_ifle (X : Cx γ l o own cc n r fr lo P) {x : Int32} {c : Prop} {off : Int} {tgt : Nat} (d : decode cc pc = .ok (.ifCond .le off, 3)) (ht : (pc : Int) + off = (tgt : Int)) (hc : (x ≤ 0) ↔ c) (kt : c → V γ o n mi ml (tgt) lv (rest)) (kf : ¬ c → V γ o n mi ml (pc + 3) lv (rest)) : V γ o n mi ml (pc) lv (.int x :: rest) := fun H locs ls h1 h2 h3 => lv_if_le X.1 X.2.1 d ht (fun q => kt (hc.mp q) H locs ls h1 h2 h3) (fun q => kf (fun z => q (hc.mpr z)) H locs ls h1 h2 h3)
theorem r_icle (X : Cx γ l o own cc n r fr lo P) {x y : Int32} {c : Prop} {off : Int} {tgt : Nat} (d : decode cc pc = .ok (.if_icmp .le off, 3)) (ht : (pc : Int) + off = (tgt : Int)) (hc : (x ≤ y) ↔ c) (kt : c → V γ o n mi ml (tgt) lv (rest)) (kf : ¬ c → V γ o n mi ml (pc + 3) lv (rest)) : V γ o n mi ml (pc) lv (.int y :: .int x :: rest) := fun H locs ls h1 h2 h3 => lv_icmp_le X.1 X.2.1 d ht (fun q => kt (hc.mp q) H locs ls h1 h2 h3) (fun q => kf (fun z => q (hc.mpr z)) H locs ls h1 h2 h3)
theorem r_ifeqB (X : Cx γ l o own cc n r fr lo P) {b : Bool} {off : Int} {tgt : Nat} (d : decode cc pc = .ok (.ifCond .eq off, 3)) (ht : (pc : Int) + off = (tgt : Int)) (kt : b = false → V γ o n mi ml (tgt) lv (rest)) (kf : b = true → V γ o n mi ml (pc + 3) lv (rest)) : V γ o n mi ml (pc) lv (.int (bI b) :: rest) := r_ifeq X d ht (bI_eq0 b) kt (fun q => kf (by simpa using q))
theorem r_ifneB (X : Cx γ l o own cc n r fr lo P) {b : Bool} {off : Int} {tgt : Nat} (d : decode cc pc = .ok (.ifCond .ne off, 3)) (ht : (pc : Int) + off = (tgt : Int)) (kt : b = true → V γ o n mi ml (tgt) lv (rest)) (kf : b = false → V γ o n mi ml (pc + 3) lv (rest)) : V γ o n mi ml (pc) lv (.int (bI b) :: rest) := r_ifne X d ht (c := b = true) (by rw [bI_eq0]; simp) kt (fun q => kf (by simpa using q))
theorem r_end_i (X : Cx γ l o own cc n (some .int) fr lo P) {v : Int32} (d : decode cc pc = .ok (.ireturn, 1)) (h : P (some (.int v)) mi ml) : V γ o n mi ml pc lv [.int v] := by
  intro H locs ls h1 h2 h3
  rw [X.2.2.2.2.2.2.2.2.2.2.2]
  exact W.iret (Qc := Qof o P) X.1 X.2.1 X.2.2.2.2.2.2.1 (fun t ht _ => ⟨⟨_, mi, ml, rfl, h, by rw [ht]; exact h1⟩, h2.F ht⟩) h2.2.2 d X.2.2.2.2.2.2.2.1
theorem r_end_z (X : Cx γ l o own cc n (some .boolean) fr lo P) {v : Int32} (hn : narrow .boolean (.int v) = .int v) (d : decode cc pc = .ok (.ireturn, 1)) (h : P (some (.int v)) mi ml) : V γ o n mi ml pc lv [.int v] := by
  intro H locs ls h1 h2 h3
  rw [X.2.2.2.2.2.2.2.2.2.2.2]
  exact W.zret (Qc := Qof o P) X.1 X.2.1 X.2.2.2.2.2.2.1 hn (fun t ht _ => ⟨⟨_, mi, ml, rfl, h, by rw [ht]; exact h1⟩, h2.F ht⟩) h2.2.2 d X.2.2.2.2.2.2.2.1
theorem r_end_l (X : Cx γ l o own cc n (some .long) fr lo P) {v : Int64} (d : decode cc pc = .ok (.lreturn, 1)) (h : P (some (.long v)) mi ml) : V γ o n mi ml pc lv [.long v] := by
  intro H locs ls h1 h2 h3
  rw [X.2.2.2.2.2.2.2.2.2.2.2]
  exact W.lret (Qc := Qof o P) X.1 X.2.1 X.2.2.2.2.2.2.1 (fun t ht _ => ⟨⟨_, mi, ml, rfl, h, by rw [ht]; exact h1⟩, h2.F ht⟩) h2.2.2 d X.2.2.2.2.2.2.2.1
theorem r_end_v (X : Cx γ l o own cc n none fr lo P) (d : decode cc pc = .ok (.return_, 1)) (h : P none mi ml) : V γ o n mi ml pc lv [] := by
  intro H locs ls h1 h2 h3
  rw [X.2.2.2.2.2.2.2.2.2.2.2]
  exact W.vret (Qc := Qof o P) X.1 X.2.1 X.2.2.2.2.2.2.1 (fun t ht _ => ⟨⟨_, mi, ml, rfl, h, by rw [ht]; exact h1⟩, h2.F ht⟩) h2.2.2 d X.2.2.2.2.2.2.2.1
/-- a field's site: class number, slot -/
def FOK (own : String) (ix ci k : Nat) : Prop := ∃ (C : String) (T : u_T) (N : Nat), vcl[ci]? = some (C, T, N) ∧ (∀ w ∈ u_ws C T N, w ∈ gtbl) ∧ k < N ∧ Cond.fieldLink own ix (T k).1 (T k).2.1 (T k).2.2.1 ∈ gtbl
def FOKw (own : String) (ix ci k : Nat) (ty : FieldType) : Prop := ∃ (C : String) (T : u_T) (N : Nat) (ty0 : Nat → FieldType), vcl[ci]? = some (C, T, N) ∧ (∀ w ∈ u_ws C T N, w ∈ gtbl) ∧ k < N ∧ Cond.fieldLink own ix (T k).1 (T k).2.1 (T k).2.2.1 ∈ gtbl ∧ (∀ k, k < N → parseFieldDescriptor (T k).2.2.1 = some (ty0 k)) ∧ (∀ a, a < N → ∀ b, b < N → a ≠ b → (T a).2.1 ≠ (T b).2.1) ∧ (T k).2.2.2 = false ∧ parseFieldDescriptor (T k).2.2.1 = some ty
theorem r_get (X : Cx γ l o own cc n r fr lo P) {i ix ci : Nat} {k : Nat} {F : (Nat → Int32) → (Nat → Int64) → List Value} (f : FOK own ix ci k) (hi : i < 111) (hc : ∀ f g, cE o f g i = .inr (ci, F f g)) {v : Value} (hv : (F (mi i) (ml i))[k]? = some v) (d : decode cc pc = .ok (.getfield ix, 3)) (kk : V γ o n mi ml (pc + 3) lv (v :: rest)) : V γ o n mi ml pc lv (.ref (ads o i) :: rest) := by
  intro H locs ls h1 h2 h3
  obtain ⟨C, T, N, e1, e2, e3, e4⟩ := f
  exact va_get X.1 X.2.1 X.2.2.2.2.1 e2 X.2.2.2.1 X.2.2.2.2.2.1.1 h1 i (by rw [cells_at o mi ml hi, hc]) e1 k e3 (X.2.2.2.2.1 _ e4) (fun _ h => h) hv d (kk H locs ls h1 h2 h3)
theorem r_put (X : Cx γ l o own cc n r fr lo P) {i ix ci : Nat} {k : Nat} {F : (Nat → Int32) → (Nat → Int64) → List Value} {ty : FieldType} (f : FOKw own ix ci k ty) (hi : i < 111) (hc : ∀ f g, cE o f g i = .inr (ci, F f g)) {v : Value} {mi' : MI} {ml' : ML} (hm : ∀ j, j ≠ i → mi' j = mi j ∧ ml' j = ml j) (hs : F (mi' i) (ml' i) = (F (mi i) (ml i)).set k v) (hl : k < (F (mi i) (ml i)).length) (hn : narrow ty v = v) (hf : fits ty v = true) (d : decode cc pc = .ok (.putfield ix, 3)) (kk : V γ o n mi' ml' (pc + 3) lv rest) : V γ o n mi ml pc lv (v :: .ref (ads o i) :: rest) := by
  intro H locs ls h1 h2 h3
  obtain ⟨C, T, N, ty0, e1, e2, e3, e4, e5, e6, e7, e8⟩ := f
  refine va_put X.1 X.2.1 X.2.2.2.2.1 e2 ty0 e5 e6 X.2.2.2.1 X.2.2.2.2.2.1.1 h1 (cells_D o mi ml) h2 i (by rw [cells_at o mi ml hi, hc]) e1 k e3 (X.2.2.2.2.1 _ e4) (fun _ h => h) e7 e8 hn hf hl d (fun H1 locs1 g1 g2 g3 => ?_)
  rw [cells_set o (mi' := mi') (ml' := ml') hi hm (by rw [hc, hs])] at g1
  exact kk H1 locs1 ls g1 g3 h3
theorem r_putI (X : Cx γ l o own cc n r fr lo P) {i ix ci : Nat} {k : Nat} {F : (Nat → Int32) → (Nat → Int64) → List Value} (f : FOKw own ix ci k .int) (hi : i < 111) (hc : ∀ f g, cE o f g i = .inr (ci, F f g)) {x : Int32} (hs : ∀ f g, F (uf f k x) g = (F f g).set k (.int x)) (hl : k < (F (mi i) (ml i)).length) (d : decode cc pc = .ok (.putfield ix, 3)) (kk : V γ o n (u2 mi i k x) ml (pc + 3) lv rest) : V γ o n mi ml pc lv (.int x :: .ref (ads o i) :: rest) :=
  r_put X f hi hc (fun j hj => ⟨u2_n mi k x hj, rfl⟩) (by rw [u2_s]; exact hs _ _) hl rfl rfl d kk
theorem r_putZ (X : Cx γ l o own cc n r fr lo P) {i ix ci : Nat} {k : Nat} {F : (Nat → Int32) → (Nat → Int64) → List Value} (f : FOKw own ix ci k .boolean) (hi : i < 111) (hc : ∀ f g, cE o f g i = .inr (ci, F f g)) {x : Int32} (hs : ∀ f g, F (uf f k x) g = (F f g).set k (.int x)) (hl : k < (F (mi i) (ml i)).length) (hn : narrow .boolean (.int x) = .int x) (hf : fits .boolean (.int x) = true) (d : decode cc pc = .ok (.putfield ix, 3)) (kk : V γ o n (u2 mi i k x) ml (pc + 3) lv rest) : V γ o n mi ml pc lv (.int x :: .ref (ads o i) :: rest) :=
  r_put X f hi hc (fun j hj => ⟨u2_n mi k x hj, rfl⟩) (by rw [u2_s]; exact hs _ _) hl hn hf d kk
theorem r_putL (X : Cx γ l o own cc n r fr lo P) {i ix ci : Nat} {k : Nat} {F : (Nat → Int32) → (Nat → Int64) → List Value} (f : FOKw own ix ci k .long) (hi : i < 111) (hc : ∀ f g, cE o f g i = .inr (ci, F f g)) {x : Int64} (hs : ∀ f g, F f (uf g k x) = (F f g).set k (.long x)) (hl : k < (F (mi i) (ml i)).length) (d : decode cc pc = .ok (.putfield ix, 3)) (kk : V γ o n mi (u2 ml i k x) (pc + 3) lv rest) : V γ o n mi ml pc lv (.long x :: .ref (ads o i) :: rest) :=
  r_put X f hi hc (fun j hj => ⟨rfl, u2_n ml k x hj⟩) (by rw [u2_s]; exact hs _ _) hl rfl rfl d kk
/-- arrays -/
theorem r_iald (X : Cx γ l o own cc n r fr lo P) {i m j : Nat} {v : Int32} (hi : i < 111) (hc : ∀ f g, cE o f g i = aI o m f) (hm : m < 2 ^ 31) (hj : j < m) (hv : mi i j = v) (d : decode cc pc = .ok (.iaload, 1)) (k : V γ o n mi ml (pc + 1) lv (.int v :: rest)) : V γ o n mi ml pc lv (.int (nI j) :: .ref (ads o i) :: rest) := by
  intro H locs ls h1 h2 h3
  refine va_iald X.1 X.2.1 X.2.2.2.2.2.1.1 h1 i 0 (f := mi i) (n := m) (cA := o.2.2 0) (by rw [cells_at o mi ml hi, hc]; rfl) rfl (vp_in_nI hj hm) d ?_
  rw [nI_clamp (Nat.lt_trans hj hm), hv]
  exact k H locs ls h1 h2 h3
theorem r_zald (X : Cx γ l o own cc n r fr lo P) {i m j : Nat} {v : Int32} (hi : i < 111) (hc : ∀ f g, cE o f g i = aZ o m f) (hm : m < 2 ^ 31) (hj : j < m) (hv : mi i j = v) (d : decode cc pc = .ok (.baload, 1)) (k : V γ o n mi ml (pc + 1) lv (.int v :: rest)) : V γ o n mi ml pc lv (.int (nI j) :: .ref (ads o i) :: rest) := by
  intro H locs ls h1 h2 h3
  refine va_zald X.1 X.2.1 X.2.2.2.2.2.1.1 h1 i 2 (f := mi i) (n := m) (cA := o.2.2 2) (by rw [cells_at o mi ml hi, hc]; rfl) rfl (vp_in_nI hj hm) d ?_
  rw [nI_clamp (Nat.lt_trans hj hm), hv]
  exact k H locs ls h1 h2 h3
theorem r_lald (X : Cx γ l o own cc n r fr lo P) {i m j : Nat} {v : Int64} (hi : i < 111) (hc : ∀ f g, cE o f g i = aJ o m g) (hm : m < 2 ^ 31) (hj : j < m) (hv : ml i j = v) (d : decode cc pc = .ok (.laload, 1)) (k : V γ o n mi ml (pc + 1) lv (.long v :: rest)) : V γ o n mi ml pc lv (.int (nI j) :: .ref (ads o i) :: rest) := by
  intro H locs ls h1 h2 h3
  refine va_lald X.1 X.2.1 X.2.2.2.2.2.1.1 h1 i 1 (f := ml i) (n := m) (cA := o.2.2 1) (by rw [cells_at o mi ml hi, hc]; rfl) rfl (vp_in_nI hj hm) d ?_
  rw [nI_clamp (Nat.lt_trans hj hm), hv]
  exact k H locs ls h1 h2 h3
theorem r_aaldS (X : Cx γ l o own cc n r fr lo P) {i m j a : Nat} {F : Nat → Option Nat} (hi : i < 111) (hc : ∀ f g, cE o f g i = aSt o m F) (hm : m < 2 ^ 31) (hj : j < m) (hv : F j = some a) (d : decode cc pc = .ok (.aaload, 1)) (k : V γ o n mi ml (pc + 1) lv (.ref a :: rest)) : V γ o n mi ml pc lv (.int (nI j) :: .ref (ads o i) :: rest) := by
  intro H locs ls h1 h2 h3
  refine va_aldq X.1 X.2.1 X.2.2.2.2.2.1.1 h1 i 4 (f := F) (n := m) (cA := o.2.2 4) (C := "NearMarks$State") (by rw [cells_at o mi ml hi, hc]; rfl) rfl (vp_in_nI hj hm) d ?_
  rw [nI_clamp (Nat.lt_trans hj hm), hv]
  exact k H locs ls h1 h2 h3
theorem r_aaldI (X : Cx γ l o own cc n r fr lo P) {i m j a : Nat} {F : Nat → Option Nat} (hi : i < 111) (hc : ∀ f g, cE o f g i = aIm o m F) (hm : m < 2 ^ 31) (hj : j < m) (hv : F j = some a) (d : decode cc pc = .ok (.aaload, 1)) (k : V γ o n mi ml (pc + 1) lv (.ref a :: rest)) : V γ o n mi ml pc lv (.int (nI j) :: .ref (ads o i) :: rest) := by
  intro H locs ls h1 h2 h3
  refine va_aldq X.1 X.2.1 X.2.2.2.2.2.1.1 h1 i 3 (f := F) (n := m) (cA := o.2.2 3) (C := "NearMarks$Image") (by rw [cells_at o mi ml hi, hc]; rfl) rfl (vp_in_nI hj hm) d ?_
  rw [nI_clamp (Nat.lt_trans hj hm), hv]
  exact k H locs ls h1 h2 h3
theorem r_iast (X : Cx γ l o own cc n r fr lo P) {i m j : Nat} {x : Int32} (hi : i < 111) (hc : ∀ f g, cE o f g i = aI o m f) (hm : m < 2 ^ 31) (hj : j < m) (d : decode cc pc = .ok (.iastore, 1)) (k : V γ o n (u2 mi i j x) ml (pc + 1) lv rest) : V γ o n mi ml pc lv (.int x :: .int (nI j) :: .ref (ads o i) :: rest) := by
  intro H locs ls h1 h2 h3
  refine va_iast X.1 X.2.1 X.2.2.2.2.2.1.1 h1 (cells_D o mi ml) h2 i 0 (f := mi i) (n := m) (cA := o.2.2 0) (by rw [cells_at o mi ml hi, hc]; rfl) rfl (vp_in_nI hj hm) d (fun H1 locs1 g1 g2 g3 => ?_)
  rw [nI_clamp (Nat.lt_trans hj hm), cells_set o (mi' := u2 mi i j x) (ml' := ml) hi (fun q hq => ⟨u2_n mi j x hq, rfl⟩) (by rw [hc, u2_s]; rfl)] at g1
  exact k H1 locs1 ls g1 g3 h3
theorem r_zast (X : Cx γ l o own cc n r fr lo P) {i m j : Nat} {x : Int32} (hx : vp_nar .boolean x = x) (hi : i < 111) (hc : ∀ f g, cE o f g i = aZ o m f) (hm : m < 2 ^ 31) (hj : j < m) (d : decode cc pc = .ok (.bastore, 1)) (k : V γ o n (u2 mi i j x) ml (pc + 1) lv rest) : V γ o n mi ml pc lv (.int x :: .int (nI j) :: .ref (ads o i) :: rest) := by
  intro H locs ls h1 h2 h3
  refine va_zast X.1 X.2.1 X.2.2.2.2.2.1.1 h1 (cells_D o mi ml) h2 i 2 (f := mi i) (n := m) (cA := o.2.2 2) (by rw [cells_at o mi ml hi, hc]; rfl) rfl (vp_in_nI hj hm) d (fun H1 locs1 g1 g2 g3 => ?_)
  rw [nI_clamp (Nat.lt_trans hj hm), hx, cells_set o (mi' := u2 mi i j x) (ml' := ml) hi (fun q hq => ⟨u2_n mi j x hq, rfl⟩) (by rw [hc, u2_s]; rfl)] at g1
  exact k H1 locs1 ls g1 g3 h3
theorem r_last (X : Cx γ l o own cc n r fr lo P) {i m j : Nat} {x : Int64} (hi : i < 111) (hc : ∀ f g, cE o f g i = aJ o m g) (hm : m < 2 ^ 31) (hj : j < m) (d : decode cc pc = .ok (.lastore, 1)) (k : V γ o n mi (u2 ml i j x) (pc + 1) lv rest) : V γ o n mi ml pc lv (.long x :: .int (nI j) :: .ref (ads o i) :: rest) := by
  intro H locs ls h1 h2 h3
  refine va_last X.1 X.2.1 X.2.2.2.2.2.1.1 h1 (cells_D o mi ml) h2 i 1 (f := ml i) (n := m) (cA := o.2.2 1) (by rw [cells_at o mi ml hi, hc]; rfl) rfl (vp_in_nI hj hm) d (fun H1 locs1 g1 g2 g3 => ?_)
  rw [nI_clamp (Nat.lt_trans hj hm), cells_set o (mi' := mi) (ml' := u2 ml i j x) hi (fun q hq => ⟨rfl, u2_n ml j x hq⟩) (by rw [hc, u2_s]; rfl)] at g1
  exact k H1 locs1 ls g1 g3 h3
/-- switches -/
theorem r_tswIn (X : Cx γ l o own cc n r fr lo P) {dflt lo0 hi0 : Int} {offs : Array Int} {len : Nat} {x : Int32} {off : Int} {tgt : Nat} (d : decode cc pc = .ok (.tableswitch dflt lo0 hi0 offs, len)) (a1 : ¬ x.toInt < lo0) (a2 : ¬ hi0 < x.toInt) (ho : offs[(x.toInt - lo0).toNat]? = some off) (ht : (pc : Int) + off = (tgt : Int)) (k : V γ o n mi ml tgt lv rest) : V γ o n mi ml pc lv (.int x :: rest) := fun H locs ls h1 h2 h3 => lv_tableIn X.1 X.2.1 d a1 a2 ho ht (k H locs ls h1 h2 h3)
theorem r_tswOut (X : Cx γ l o own cc n r fr lo P) {dflt lo0 hi0 : Int} {offs : Array Int} {len : Nat} {x : Int32} {tgt : Nat} (d : decode cc pc = .ok (.tableswitch dflt lo0 hi0 offs, len)) (h : x.toInt < lo0 ∨ hi0 < x.toInt) (ht : (pc : Int) + dflt = (tgt : Int)) (k : V γ o n mi ml tgt lv rest) : V γ o n mi ml pc lv (.int x :: rest) := fun H locs ls h1 h2 h3 => lv_tableOut X.1 X.2.1 d h ht (k H locs ls h1 h2 h3)
/-- calls -/
theorem Pof.blind {A : List Value} : FrameBlind (Pof o A mi ml) := fun a U g mk q => by
  obtain ⟨q0, q1, q2⟩ := q
  exact ⟨q0, q1, Kp.warm (s := U) (U := U.calling g mk a) (State.WarmedH.refl U) q2⟩
theorem V.run {P' : Option Value → MI → ML → Prop} {a : Array Value} (hr : ∀ (H : Heap) (locs : List Loc) (ls : Array Slot), Wp o mi ml H → va_S (isA o) γ.s.heap H locs → lv_has ls n lv → va_Run γ.p γ.l γ.e γ.R γ.s γ.m γ.a γ.b γ.me γ.c H locs 0 0 0 0 (F0 γ.m pc ls st) rest (Qof o P' a) (isA o))
    (kk : ∀ (v : Option Value) (mi' : MI) (ml' : ML), P' v mi' ml' → V γ o n mi' ml' (pc + 3) lv (v.toList ++ rest)) : V γ o n mi ml pc lv st := by
  intro H locs ls h1 h2 h3 T hT Z
  obtain ⟨v, st₀, t, T', L, h0, Z', hL, e1, e2, ⟨⟨v', mi', ml', hv, hp, hw⟩, hz, hk⟩, sg⟩ := hr H locs ls h1 h2 h3 T hT Z
  cases hv
  rw [h0] at hz hk
  obtain ⟨t2, a1, b1⟩ := kk v mi' ml' hp T'.heap (locs ++ L) ls (by rw [e1]; exact hw)
    ⟨Nat.le_trans h2.1 (by rw [e1]; exact hz), fun q g1 g2 => by rw [e1, hk q (Nat.lt_of_lt_of_le g1 h2.1) g2]; exact h2.2.1 q g1 g2, fun q hq => by
      rcases List.mem_append.mp hq with h | h
      · exact h2.2.2 q h
      · exact hL q h⟩ h3 T' rfl Z'
  exact ⟨t2, sg t2 a1, b1⟩
def SOK (y : MethodName) (cc : ByteArray) (n : Nat) (r : Option FieldType) (k : Nat) : Prop := Cond.static y ∈ gtbl ∧ Cond.initialized y.cls ∈ gtbl ∧ Cond.code y cc n r ∈ gtbl ∧ (y.cls ≠ "java/lang/invoke/MethodHandle" ∧ y.cls ≠ "java/lang/invoke/VarHandle" ∧ (parseMethodDescriptor y.desc).map (fun d => d.parameters.length) = some k)
def VOK (y : MethodName) (cc : ByteArray) (n : Nat) (r : Option FieldType) (k : Nat) : Prop := Cond.instanceMethod y ∈ gtbl ∧ Cond.selects y.cls y y ∈ gtbl ∧ Cond.initialized y.cls ∈ gtbl ∧ Cond.code y cc n r ∈ gtbl ∧ (y.cls ≠ "java/lang/invoke/MethodHandle" ∧ y.cls ≠ "java/lang/invoke/VarHandle" ∧ (parseMethodDescriptor y.desc).map (fun d => d.parameters.length) = some k)
theorem r_callS (X : Cx γ l o own cc n r fr lo P) {y : MethodName} {cc' : ByteArray} {n' : Nat} {r' : Option FieldType} {fr' lo' k ix : Nat} {As : List Value} {P' : Option Value → MI → ML → Prop} (hC : Con l y cc' n' r' fr' lo' o As mi ml P') (Y : SOK y cc' n' r' k) (w : Cond.methodLink own ix y ∈ gtbl) (hk : As.length = k) (hR : fr' + 1 ≤ fr ∧ 8 + (n' + 11) + lo' ≤ lo) (hst : st = As.reverse ++ rest) (hW : (rest.map fun v => v.category).sum ≤ 8) (d : decode cc pc = .ok (.invokestatic ix, 3))
    (kk : ∀ (v : Option Value) (mi' : MI) (ml' : ML), P' v mi' ml' → V γ o n mi' ml' (pc + 3) lv (v.toList ++ rest)) : V γ o n mi ml pc lv st := by
  obtain ⟨x1, x2, x3, x4, x5, x6, x7, x8, x9, x10, x11, x12⟩ := X
  subst x9; subst x10; subst x11
  obtain ⟨y1, y2, y3, y4⟩ := Y
  refine V.run (fun H locs ls h1 h2 h3 => va_runS (As := As) (g := F0 γ.m pc ls st) ⟨x1, x2, x3, x4, x5⟩ hC (va_cwS k x5 ?_ rfl rfl rfl y4 hR) ⟨Pof.blind, fun U hU hWu => ⟨rfl, by rw [hU]; exact h1, x6.warm hWu⟩⟩ rfl hk h3.1 hst (lv_room hW) d ⟨Nat.zero_le _, Nat.zero_le _⟩) kk
  intro w' hw'
  rcases List.mem_append.mp hw' with h | h
  · have h' : w' = .methodLink own ix y ∨ w' = .static y ∨ w' = .initialized y.cls := by simpa using h
    rcases h' with rfl | rfl | rfl
    · exact gtbl_good _ w
    · exact gtbl_good _ y1
    · exact gtbl_good _ y2
  · exact wsY_good y3 _ h
theorem r_callN (X : Cx γ l o own cc n r fr lo P) {y : MethodName} {cc' : ByteArray} {n' : Nat} {r' : Option FieldType} {fr' lo' k ix : Nat} {host : String} {As : List Value} {P' : Option Value → MI → ML → Prop} (hC : Con l y cc' n' r' fr' lo' o As mi ml P') (Y : SOK y cc' n' r' k) (w : (own, ix, y, host) ∈ nst) (hk : As.length = k) (hR : fr' + 1 ≤ fr ∧ 8 + (n' + 11) + lo' ≤ lo) (hst : st = As.reverse ++ rest) (hW : (rest.map fun v => v.category).sum ≤ 8) (d : decode cc pc = .ok (.invokestatic ix, 3))
    (kk : ∀ (v : Option Value) (mi' : MI) (ml' : ML), P' v mi' ml' → V γ o n mi' ml' (pc + 3) lv (v.toList ++ rest)) : V γ o n mi ml pc lv st := by
  obtain ⟨x1, x2, x3, x4, x5, x6, x7, x8, x9, x10, x11, x12⟩ := X
  subst x9; subst x10; subst x11
  obtain ⟨y1, y2, y3, y4⟩ := Y
  exact V.run (fun H locs ls h1 h2 h3 => va_runSN (As := As) (g := F0 γ.m pc ls st) (host := host) ⟨x1, x2, x3, x4, x5⟩ hC ⟨va_cnB k x5 (wsY_good y3) rfl rfl rfl (x6.2 _ w) (x5 _ y2) y4 hR, x5 _ y1, trivial⟩ ⟨Pof.blind, fun U hU hWu => ⟨rfl, by rw [hU]; exact h1, x6.warm hWu⟩⟩ rfl hk h3.1 hst (lv_room hW) d ⟨Nat.zero_le _, Nat.zero_le _⟩) kk
theorem r_callV (X : Cx γ l o own cc n r fr lo P) {y : MethodName} {cc' : ByteArray} {n' : Nat} {r' : Option FieldType} {fr' lo' k ix i ci : Nat} {F : (Nat → Int32) → (Nat → Int64) → List Value} {T : u_T} {N : Nat} {As : List Value} {P' : Option Value → MI → ML → Prop} (hC : Con l y cc' n' r' fr' lo' o (.ref (ads o i) :: As) mi ml P') (Y : VOK y cc' n' r' k) (w : Cond.methodLink own ix y ∈ gtbl) (hk : As.length = k) (hi : i < 111) (hc : ∀ f g, cE o f g i = .inr (ci, F f g)) (hcl : vcl[ci]? = some (y.cls, T, N)) (hR : fr' + 1 ≤ fr ∧ 8 + (n' + 11) + lo' ≤ lo) (hst : st = As.reverse ++ .ref (ads o i) :: rest) (hW : (rest.map fun v => v.category).sum ≤ 8) (d : decode cc pc = .ok (.invokevirtual ix, 3))
    (kk : ∀ (v : Option Value) (mi' : MI) (ml' : ML), P' v mi' ml' → V γ o n mi' ml' (pc + 3) lv (v.toList ++ rest)) : V γ o n mi ml pc lv st := by
  obtain ⟨x1, x2, x3, x4, x5, x6, x7, x8, x9, x10, x11, x12⟩ := X
  subst x9; subst x10; subst x11
  obtain ⟨y1, y2, y3, y4, y5⟩ := Y
  refine V.run (fun H locs ls h1 h2 h3 => va_runV (C := y.cls) (As := As) (g := F0 γ.m pc ls st) ⟨x1, x2, x3, x4, x5⟩ hC (cwV k x5 ?_ rfl rfl rfl ⟨rfl, y5⟩ hR) ⟨Pof.blind, va_recv x6.1 h1 (q0 := i) hcl (by rw [cells_at o mi ml hi, hc]), fun U hU hWu => ⟨rfl, by rw [hU]; exact h1, x6.warm hWu⟩⟩ rfl hk h3.1 hst (lv_room hW) d ⟨Nat.zero_le _, Nat.zero_le _⟩) kk
  intro w' hw'
  rcases List.mem_append.mp hw' with h | h
  · have h' : w' = .methodLink own ix y ∨ w' = .instanceMethod y ∨ w' = .selects y.cls y y ∨ w' = .initialized y.cls := by simpa using h
    rcases h' with rfl | rfl | rfl | rfl
    · exact gtbl_good _ w
    · exact gtbl_good _ y1
    · exact gtbl_good _ y2
    · exact gtbl_good _ y3
  · exact wsY_good y4 _ h
/-- answers without a change: I int, L long, D any answer and new maps -/
def ConD (l : Launch) (y : MethodName) (cc : ByteArray) (n : Nat) (r : Option FieldType) (fr lo : Nat) (o : OM) (A : List Value) (mi : MI) (ml : ML) (v : Option Value) (mi' : MI) (ml' : ML) : Prop := Con l y cc n r fr lo o A mi ml (fun v0 a b => v0 = v ∧ a = mi' ∧ b = ml')
theorem kD {mi' : MI} {ml' : ML} {v : Option Value} {st' : List Value} (h : v.toList ++ rest = st') (k : V γ o n mi' ml' (pc + 3) lv st') : ∀ (v0 : Option Value) (a : MI) (b : ML), v0 = v ∧ a = mi' ∧ b = ml' → V γ o n a b (pc + 3) lv (v0.toList ++ rest) := by
  rintro _ _ _ ⟨rfl, rfl, rfl⟩
  rw [h]; exact k
end ROWS2
end
section
/-! sites: fields, calls, constants by their words; methods as they are called; cells by number -/
theorem f_Nm_10 : FOK "NearMarks" 10 9 0 := ⟨CR9, CT9, 10, rfl, CI9, by decide, g_at 246 (by decide +kernel) (by decide +kernel)⟩
theorem f_Nm_19 : FOK "NearMarks" 19 9 1 := ⟨CR9, CT9, 10, rfl, CI9, by decide, g_at 247 (by decide +kernel) (by decide +kernel)⟩
theorem f_Nm_25 : FOK "NearMarks" 25 9 2 := ⟨CR9, CT9, 10, rfl, CI9, by decide, g_at 248 (by decide +kernel) (by decide +kernel)⟩
theorem f_Nm_33 : FOK "NearMarks" 33 9 3 := ⟨CR9, CT9, 10, rfl, CI9, by decide, g_at 249 (by decide +kernel) (by decide +kernel)⟩
theorem f_Nm_37 : FOK "NearMarks" 37 8 1 := ⟨CR8, CT8, 5, rfl, CI8, by decide, g_at 73 (by decide +kernel) (by decide +kernel)⟩
theorem fw_Nm_37 : FOKw "NearMarks" 37 8 1 .long := ⟨CR8, CT8, 5, CY8, rfl, CI8, by decide, g_at 73 (by decide +kernel) (by decide +kernel), CYok8, CN8, rfl, by decide +kernel⟩
theorem f_Nm_45 : FOK "NearMarks" 45 9 4 := ⟨CR9, CT9, 10, rfl, CI9, by decide, g_at 250 (by decide +kernel) (by decide +kernel)⟩
theorem f_Nm_51 : FOK "NearMarks" 51 9 5 := ⟨CR9, CT9, 10, rfl, CI9, by decide, g_at 251 (by decide +kernel) (by decide +kernel)⟩
theorem f_Nm_58 : FOK "NearMarks" 58 9 6 := ⟨CR9, CT9, 10, rfl, CI9, by decide, g_at 252 (by decide +kernel) (by decide +kernel)⟩
theorem f_Nm_65 : FOK "NearMarks" 65 9 7 := ⟨CR9, CT9, 10, rfl, CI9, by decide, g_at 253 (by decide +kernel) (by decide +kernel)⟩
theorem f_Nm_72 : FOK "NearMarks" 72 9 8 := ⟨CR9, CT9, 10, rfl, CI9, by decide, g_at 254 (by decide +kernel) (by decide +kernel)⟩
theorem f_Nm_79 : FOK "NearMarks" 79 9 9 := ⟨CR9, CT9, 10, rfl, CI9, by decide, g_at 255 (by decide +kernel) (by decide +kernel)⟩
theorem f_Nm_83 : FOK "NearMarks" 83 8 2 := ⟨CR8, CT8, 5, rfl, CI8, by decide, g_at 76 (by decide +kernel) (by decide +kernel)⟩
theorem fw_Nm_83 : FOKw "NearMarks" 83 8 2 .int := ⟨CR8, CT8, 5, CY8, rfl, CI8, by decide, g_at 76 (by decide +kernel) (by decide +kernel), CYok8, CN8, rfl, by decide +kernel⟩
theorem f_Nm_87 : FOK "NearMarks" 87 5 2 := ⟨CR5, CT5, 3, rfl, CI5, by decide, g_at 149 (by decide +kernel) (by decide +kernel)⟩
theorem fw_Nm_87 : FOKw "NearMarks" 87 5 2 .int := ⟨CR5, CT5, 3, CY5, rfl, CI5, by decide, g_at 149 (by decide +kernel) (by decide +kernel), CYok5, CN5, rfl, by decide +kernel⟩
theorem f_Nm_88 : FOK "NearMarks" 88 8 0 := ⟨CR8, CT8, 5, rfl, CI8, by decide, g_at 71 (by decide +kernel) (by decide +kernel)⟩
theorem fw_Nm_88 : FOKw "NearMarks" 88 8 0 .long := ⟨CR8, CT8, 5, CY8, rfl, CI8, by decide, g_at 71 (by decide +kernel) (by decide +kernel), CYok8, CN8, rfl, by decide +kernel⟩
theorem f_Nm_121 : FOK "NearMarks" 121 7 3 := ⟨CR7, CT7, 4, rfl, CI7, by decide, g_at 205 (by decide +kernel) (by decide +kernel)⟩
theorem fw_Nm_121 : FOKw "NearMarks" 121 7 3 .int := ⟨CR7, CT7, 4, CY7, rfl, CI7, by decide, g_at 205 (by decide +kernel) (by decide +kernel), CYok7, CN7, rfl, by decide +kernel⟩
theorem f_Nm_132 : FOK "NearMarks" 132 0 3 := ⟨CR0, CT0, 4, rfl, CI0, by decide, g_at 225 (by decide +kernel) (by decide +kernel)⟩
theorem fw_Nm_132 : FOKw "NearMarks" 132 0 3 .int := ⟨CR0, CT0, 4, CY0, rfl, CI0, by decide, g_at 225 (by decide +kernel) (by decide +kernel), CYok0, CN0, rfl, by decide +kernel⟩
theorem f_Nm_136 : FOK "NearMarks" 136 6 2 := ⟨CR6, CT6, 3, rfl, CI6, by decide, g_at 110 (by decide +kernel) (by decide +kernel)⟩
theorem fw_Nm_136 : FOKw "NearMarks" 136 6 2 .int := ⟨CR6, CT6, 3, CY6, rfl, CI6, by decide, g_at 110 (by decide +kernel) (by decide +kernel), CYok6, CN6, rfl, by decide +kernel⟩
theorem f_Nm_142 : FOK "NearMarks" 142 8 3 := ⟨CR8, CT8, 5, rfl, CI8, by decide, g_at 81 (by decide +kernel) (by decide +kernel)⟩
theorem f_Nm_147 : FOK "NearMarks" 147 8 4 := ⟨CR8, CT8, 5, rfl, CI8, by decide, g_at 84 (by decide +kernel) (by decide +kernel)⟩
theorem f_Nm_162 : FOK "NearMarks" 162 5 0 := ⟨CR5, CT5, 3, rfl, CI5, by decide, g_at 145 (by decide +kernel) (by decide +kernel)⟩
theorem f_Nm_165 : FOK "NearMarks" 165 5 1 := ⟨CR5, CT5, 3, rfl, CI5, by decide, g_at 147 (by decide +kernel) (by decide +kernel)⟩
theorem f_Nm_237 : FOK "NearMarks" 237 3 2 := ⟨CR3, CT3, 3, rfl, CI3, by decide, g_at 174 (by decide +kernel) (by decide +kernel)⟩
theorem fw_Nm_237 : FOKw "NearMarks" 237 3 2 .int := ⟨CR3, CT3, 3, CY3, rfl, CI3, by decide, g_at 174 (by decide +kernel) (by decide +kernel), CYok3, CN3, rfl, by decide +kernel⟩
theorem f_Nm_239 : FOK "NearMarks" 239 3 0 := ⟨CR3, CT3, 3, rfl, CI3, by decide, g_at 171 (by decide +kernel) (by decide +kernel)⟩
theorem f_Nm_271 : FOK "NearMarks" 271 2 0 := ⟨CR2, CT2, 1, rfl, CI2, by decide, g_at 242 (by decide +kernel) (by decide +kernel)⟩
theorem fw_Nm_271 : FOKw "NearMarks" 271 2 0 .int := ⟨CR2, CT2, 1, CY2, rfl, CI2, by decide, g_at 242 (by decide +kernel) (by decide +kernel), CYok2, CN2, rfl, by decide +kernel⟩
theorem f_Nm_274 : FOK "NearMarks" 274 4 0 := ⟨CR4, CT4, 3, rfl, CI4, by decide, g_at 128 (by decide +kernel) (by decide +kernel)⟩
theorem f_Nm_279 : FOK "NearMarks" 279 4 1 := ⟨CR4, CT4, 3, rfl, CI4, by decide, g_at 129 (by decide +kernel) (by decide +kernel)⟩
theorem fw_Nm_279 : FOKw "NearMarks" 279 4 1 .int := ⟨CR4, CT4, 3, CY4, rfl, CI4, by decide, g_at 129 (by decide +kernel) (by decide +kernel), CYok4, CN4, rfl, by decide +kernel⟩
theorem f_Nm_281 : FOK "NearMarks" 281 4 2 := ⟨CR4, CT4, 3, rfl, CI4, by decide, g_at 130 (by decide +kernel) (by decide +kernel)⟩
theorem fw_Nm_281 : FOKw "NearMarks" 281 4 2 .boolean := ⟨CR4, CT4, 3, CY4, rfl, CI4, by decide, g_at 130 (by decide +kernel) (by decide +kernel), CYok4, CN4, rfl, by decide +kernel⟩
theorem f_Bk_9 : FOK "NearMarks$Book" 9 0 0 := ⟨CR0, CT0, 4, rfl, CI0, by decide, g_at 221 (by decide +kernel) (by decide +kernel)⟩
theorem f_Bk_15 : FOK "NearMarks$Book" 15 0 1 := ⟨CR0, CT0, 4, rfl, CI0, by decide, g_at 222 (by decide +kernel) (by decide +kernel)⟩
theorem f_Bk_18 : FOK "NearMarks$Book" 18 0 2 := ⟨CR0, CT0, 4, rfl, CI0, by decide, g_at 223 (by decide +kernel) (by decide +kernel)⟩
theorem f_Bk_21 : FOK "NearMarks$Book" 21 0 3 := ⟨CR0, CT0, 4, rfl, CI0, by decide, g_at 224 (by decide +kernel) (by decide +kernel)⟩
theorem fw_Bk_21 : FOKw "NearMarks$Book" 21 0 3 .int := ⟨CR0, CT0, 4, CY0, rfl, CI0, by decide, g_at 224 (by decide +kernel) (by decide +kernel), CYok0, CN0, rfl, by decide +kernel⟩
theorem f_Co_9 : FOK "NearMarks$Columns" 9 1 0 := ⟨CR1, CT1, 2, rfl, CI1, by decide, g_at 188 (by decide +kernel) (by decide +kernel)⟩
theorem f_Co_15 : FOK "NearMarks$Columns" 15 8 2 := ⟨CR8, CT8, 5, rfl, CI8, by decide, g_at 74 (by decide +kernel) (by decide +kernel)⟩
theorem fw_Co_15 : FOKw "NearMarks$Columns" 15 8 2 .int := ⟨CR8, CT8, 5, CY8, rfl, CI8, by decide, g_at 74 (by decide +kernel) (by decide +kernel), CYok8, CN8, rfl, by decide +kernel⟩
theorem f_Co_21 : FOK "NearMarks$Columns" 21 1 1 := ⟨CR1, CT1, 2, rfl, CI1, by decide, g_at 189 (by decide +kernel) (by decide +kernel)⟩
theorem fw_Co_21 : FOKw "NearMarks$Columns" 21 1 1 .long := ⟨CR1, CT1, 2, CY1, rfl, CI1, by decide, g_at 189 (by decide +kernel) (by decide +kernel), CYok1, CN1, rfl, by decide +kernel⟩
theorem f_Co_25 : FOK "NearMarks$Columns" 25 8 3 := ⟨CR8, CT8, 5, rfl, CI8, by decide, g_at 80 (by decide +kernel) (by decide +kernel)⟩
theorem f_Dr_7 : FOK "NearMarks$Draws" 7 2 0 := ⟨CR2, CT2, 1, rfl, CI2, by decide, g_at 241 (by decide +kernel) (by decide +kernel)⟩
theorem fw_Dr_7 : FOKw "NearMarks$Draws" 7 2 0 .int := ⟨CR2, CT2, 1, CY2, rfl, CI2, by decide, g_at 241 (by decide +kernel) (by decide +kernel), CYok2, CN2, rfl, by decide +kernel⟩
theorem f_Gr_9 : FOK "NearMarks$Grouping" 9 3 0 := ⟨CR3, CT3, 3, rfl, CI3, by decide, g_at 170 (by decide +kernel) (by decide +kernel)⟩
theorem f_Gr_15 : FOK "NearMarks$Grouping" 15 3 1 := ⟨CR3, CT3, 3, rfl, CI3, by decide, g_at 172 (by decide +kernel) (by decide +kernel)⟩
theorem f_Gr_18 : FOK "NearMarks$Grouping" 18 3 2 := ⟨CR3, CT3, 3, rfl, CI3, by decide, g_at 173 (by decide +kernel) (by decide +kernel)⟩
theorem fw_Gr_18 : FOKw "NearMarks$Grouping" 18 3 2 .int := ⟨CR3, CT3, 3, CY3, rfl, CI3, by decide, g_at 173 (by decide +kernel) (by decide +kernel), CYok3, CN3, rfl, by decide +kernel⟩
theorem f_Gr_26 : FOK "NearMarks$Grouping" 26 8 2 := ⟨CR8, CT8, 5, rfl, CI8, by decide, g_at 77 (by decide +kernel) (by decide +kernel)⟩
theorem fw_Gr_26 : FOKw "NearMarks$Grouping" 26 8 2 .int := ⟨CR8, CT8, 5, CY8, rfl, CI8, by decide, g_at 77 (by decide +kernel) (by decide +kernel), CYok8, CN8, rfl, by decide +kernel⟩
theorem f_Im_10 : FOK "NearMarks$Image" 10 4 0 := ⟨CR4, CT4, 3, rfl, CI4, by decide, g_at 127 (by decide +kernel) (by decide +kernel)⟩
theorem f_Pt_9 : FOK "NearMarks$Parts" 9 5 0 := ⟨CR5, CT5, 3, rfl, CI5, by decide, g_at 144 (by decide +kernel) (by decide +kernel)⟩
theorem f_Pt_15 : FOK "NearMarks$Parts" 15 5 1 := ⟨CR5, CT5, 3, rfl, CI5, by decide, g_at 146 (by decide +kernel) (by decide +kernel)⟩
theorem f_Pt_19 : FOK "NearMarks$Parts" 19 5 2 := ⟨CR5, CT5, 3, rfl, CI5, by decide, g_at 148 (by decide +kernel) (by decide +kernel)⟩
theorem fw_Pt_19 : FOKw "NearMarks$Parts" 19 5 2 .int := ⟨CR5, CT5, 3, CY5, rfl, CI5, by decide, g_at 148 (by decide +kernel) (by decide +kernel), CYok5, CN5, rfl, by decide +kernel⟩
theorem f_Pa_11 : FOK "NearMarks$Past" 11 6 0 := ⟨CR6, CT6, 3, rfl, CI6, by decide, g_at 107 (by decide +kernel) (by decide +kernel)⟩
theorem f_Pa_18 : FOK "NearMarks$Past" 18 6 1 := ⟨CR6, CT6, 3, rfl, CI6, by decide, g_at 108 (by decide +kernel) (by decide +kernel)⟩
theorem fw_Pa_18 : FOKw "NearMarks$Past" 18 6 1 .int := ⟨CR6, CT6, 3, CY6, rfl, CI6, by decide, g_at 108 (by decide +kernel) (by decide +kernel), CYok6, CN6, rfl, by decide +kernel⟩
theorem f_Pa_26 : FOK "NearMarks$Past" 26 6 2 := ⟨CR6, CT6, 3, rfl, CI6, by decide, g_at 109 (by decide +kernel) (by decide +kernel)⟩
theorem fw_Pa_26 : FOKw "NearMarks$Past" 26 6 2 .int := ⟨CR6, CT6, 3, CY6, rfl, CI6, by decide, g_at 109 (by decide +kernel) (by decide +kernel), CYok6, CN6, rfl, by decide +kernel⟩
theorem f_Si_9 : FOK "NearMarks$Sightings" 9 7 0 := ⟨CR7, CT7, 4, rfl, CI7, by decide, g_at 201 (by decide +kernel) (by decide +kernel)⟩
theorem f_Si_15 : FOK "NearMarks$Sightings" 15 7 1 := ⟨CR7, CT7, 4, rfl, CI7, by decide, g_at 202 (by decide +kernel) (by decide +kernel)⟩
theorem f_Si_19 : FOK "NearMarks$Sightings" 19 7 2 := ⟨CR7, CT7, 4, rfl, CI7, by decide, g_at 203 (by decide +kernel) (by decide +kernel)⟩
theorem f_Si_22 : FOK "NearMarks$Sightings" 22 7 3 := ⟨CR7, CT7, 4, rfl, CI7, by decide, g_at 204 (by decide +kernel) (by decide +kernel)⟩
theorem fw_Si_22 : FOKw "NearMarks$Sightings" 22 7 3 .int := ⟨CR7, CT7, 4, CY7, rfl, CI7, by decide, g_at 204 (by decide +kernel) (by decide +kernel), CYok7, CN7, rfl, by decide +kernel⟩
theorem f_Si_30 : FOK "NearMarks$Sightings" 30 8 2 := ⟨CR8, CT8, 5, rfl, CI8, by decide, g_at 78 (by decide +kernel) (by decide +kernel)⟩
theorem fw_Si_30 : FOKw "NearMarks$Sightings" 30 8 2 .int := ⟨CR8, CT8, 5, CY8, rfl, CI8, by decide, g_at 78 (by decide +kernel) (by decide +kernel), CYok8, CN8, rfl, by decide +kernel⟩
theorem f_Si_33 : FOK "NearMarks$Sightings" 33 8 3 := ⟨CR8, CT8, 5, rfl, CI8, by decide, g_at 82 (by decide +kernel) (by decide +kernel)⟩
theorem f_St_11 : FOK "NearMarks$State" 11 8 1 := ⟨CR8, CT8, 5, rfl, CI8, by decide, g_at 72 (by decide +kernel) (by decide +kernel)⟩
theorem fw_St_11 : FOKw "NearMarks$State" 11 8 1 .long := ⟨CR8, CT8, 5, CY8, rfl, CI8, by decide, g_at 72 (by decide +kernel) (by decide +kernel), CYok8, CN8, rfl, by decide +kernel⟩
theorem f_St_17 : FOK "NearMarks$State" 17 8 3 := ⟨CR8, CT8, 5, rfl, CI8, by decide, g_at 79 (by decide +kernel) (by decide +kernel)⟩
theorem f_St_21 : FOK "NearMarks$State" 21 8 4 := ⟨CR8, CT8, 5, rfl, CI8, by decide, g_at 83 (by decide +kernel) (by decide +kernel)⟩
theorem f_St_25 : FOK "NearMarks$State" 25 8 0 := ⟨CR8, CT8, 5, rfl, CI8, by decide, g_at 70 (by decide +kernel) (by decide +kernel)⟩
theorem fw_St_25 : FOKw "NearMarks$State" 25 8 0 .long := ⟨CR8, CT8, 5, CY8, rfl, CI8, by decide, g_at 70 (by decide +kernel) (by decide +kernel), CYok8, CN8, rfl, by decide +kernel⟩
theorem f_St_28 : FOK "NearMarks$State" 28 8 2 := ⟨CR8, CT8, 5, rfl, CI8, by decide, g_at 75 (by decide +kernel) (by decide +kernel)⟩
theorem fw_St_28 : FOKw "NearMarks$State" 28 8 2 .int := ⟨CR8, CT8, 5, CY8, rfl, CI8, by decide, g_at 75 (by decide +kernel) (by decide +kernel), CYok8, CN8, rfl, by decide +kernel⟩
theorem f_Mo_7 : FOK "NearMarksModel" 7 10 0 := ⟨CR10, CT10, 19, rfl, CI10, by decide, g_at 661 (by decide +kernel) (by decide +kernel)⟩
theorem f_Mo_13 : FOK "NearMarksModel" 13 10 1 := ⟨CR10, CT10, 19, rfl, CI10, by decide, g_at 662 (by decide +kernel) (by decide +kernel)⟩
theorem f_Mo_17 : FOK "NearMarksModel" 17 10 3 := ⟨CR10, CT10, 19, rfl, CI10, by decide, g_at 664 (by decide +kernel) (by decide +kernel)⟩
theorem f_Mo_20 : FOK "NearMarksModel" 20 10 4 := ⟨CR10, CT10, 19, rfl, CI10, by decide, g_at 665 (by decide +kernel) (by decide +kernel)⟩
theorem f_Mo_23 : FOK "NearMarksModel" 23 10 5 := ⟨CR10, CT10, 19, rfl, CI10, by decide, g_at 666 (by decide +kernel) (by decide +kernel)⟩
theorem f_Mo_26 : FOK "NearMarksModel" 26 10 6 := ⟨CR10, CT10, 19, rfl, CI10, by decide, g_at 667 (by decide +kernel) (by decide +kernel)⟩
theorem f_Mo_29 : FOK "NearMarksModel" 29 10 7 := ⟨CR10, CT10, 19, rfl, CI10, by decide, g_at 668 (by decide +kernel) (by decide +kernel)⟩
theorem f_Mo_32 : FOK "NearMarksModel" 32 10 8 := ⟨CR10, CT10, 19, rfl, CI10, by decide, g_at 669 (by decide +kernel) (by decide +kernel)⟩
theorem f_Mo_36 : FOK "NearMarksModel" 36 10 11 := ⟨CR10, CT10, 19, rfl, CI10, by decide, g_at 672 (by decide +kernel) (by decide +kernel)⟩
theorem f_Mo_39 : FOK "NearMarksModel" 39 10 12 := ⟨CR10, CT10, 19, rfl, CI10, by decide, g_at 673 (by decide +kernel) (by decide +kernel)⟩
theorem f_Mo_42 : FOK "NearMarksModel" 42 10 14 := ⟨CR10, CT10, 19, rfl, CI10, by decide, g_at 675 (by decide +kernel) (by decide +kernel)⟩
theorem f_Mo_45 : FOK "NearMarksModel" 45 10 15 := ⟨CR10, CT10, 19, rfl, CI10, by decide, g_at 676 (by decide +kernel) (by decide +kernel)⟩
theorem f_Mo_48 : FOK "NearMarksModel" 48 10 16 := ⟨CR10, CT10, 19, rfl, CI10, by decide, g_at 677 (by decide +kernel) (by decide +kernel)⟩
theorem f_Mo_51 : FOK "NearMarksModel" 51 10 17 := ⟨CR10, CT10, 19, rfl, CI10, by decide, g_at 678 (by decide +kernel) (by decide +kernel)⟩
theorem f_Mo_54 : FOK "NearMarksModel" 54 10 18 := ⟨CR10, CT10, 19, rfl, CI10, by decide, g_at 679 (by decide +kernel) (by decide +kernel)⟩
theorem f_Mo_100 : FOK "NearMarksModel" 100 10 10 := ⟨CR10, CT10, 19, rfl, CI10, by decide, g_at 671 (by decide +kernel) (by decide +kernel)⟩
theorem fw_Mo_100 : FOKw "NearMarksModel" 100 10 10 .int := ⟨CR10, CT10, 19, CY10, rfl, CI10, by decide, g_at 671 (by decide +kernel) (by decide +kernel), CYok10, CN10, rfl, by decide +kernel⟩
theorem f_Mo_111 : FOK "NearMarksModel" 111 10 13 := ⟨CR10, CT10, 19, rfl, CI10, by decide, g_at 674 (by decide +kernel) (by decide +kernel)⟩
theorem fw_Mo_111 : FOKw "NearMarksModel" 111 10 13 .int := ⟨CR10, CT10, 19, CY10, rfl, CI10, by decide, g_at 674 (by decide +kernel) (by decide +kernel), CYok10, CN10, rfl, by decide +kernel⟩
theorem f_Mo_141 : FOK "NearMarksModel" 141 10 2 := ⟨CR10, CT10, 19, rfl, CI10, by decide, g_at 663 (by decide +kernel) (by decide +kernel)⟩
theorem fw_Mo_141 : FOKw "NearMarksModel" 141 10 2 .int := ⟨CR10, CT10, 19, CY10, rfl, CI10, by decide, g_at 663 (by decide +kernel) (by decide +kernel), CYok10, CN10, rfl, by decide +kernel⟩
theorem f_Mo_181 : FOK "NearMarksModel" 181 10 9 := ⟨CR10, CT10, 19, rfl, CI10, by decide, g_at 670 (by decide +kernel) (by decide +kernel)⟩
theorem fw_Mo_181 : FOKw "NearMarksModel" 181 10 9 .int := ⟨CR10, CT10, 19, CY10, rfl, CI10, by decide, g_at 670 (by decide +kernel) (by decide +kernel), CYok10, CN10, rfl, by decide +kernel⟩
theorem w_Nm_9 : Cond.methodLink "NearMarks" 9 y_St_init ∈ gtbl := g_at 65 (by decide +kernel) (by decide +kernel)
theorem w_Nm_18 : Cond.methodLink "NearMarks" 18 y_Pa_init ∈ gtbl := g_at 100 (by decide +kernel) (by decide +kernel)
theorem w_Nm_29 : Cond.methodLink "NearMarks" 29 y_Im_init ∈ gtbl := g_at 121 (by decide +kernel) (by decide +kernel)
theorem w_Nm_32 : Cond.methodLink "NearMarks" 32 y_Pt_init ∈ gtbl := g_at 140 (by decide +kernel) (by decide +kernel)
theorem w_Nm_41 : Cond.methodLink "NearMarks" 41 y_Pt_beginAt ∈ gtbl := g_at 157 (by decide +kernel) (by decide +kernel)
theorem w_Nm_50 : Cond.methodLink "NearMarks" 50 y_Gr_init ∈ gtbl := g_at 166 (by decide +kernel) (by decide +kernel)
theorem w_Nm_57 : Cond.methodLink "NearMarks" 57 y_Co_init ∈ gtbl := g_at 184 (by decide +kernel) (by decide +kernel)
theorem w_Nm_64 : Cond.methodLink "NearMarks" 64 y_Si_init ∈ gtbl := g_at 197 (by decide +kernel) (by decide +kernel)
theorem w_Nm_71 : Cond.methodLink "NearMarks" 71 y_Bk_init ∈ gtbl := g_at 217 (by decide +kernel) (by decide +kernel)
theorem w_Nm_91 : Cond.methodLink "NearMarks" 91 y_Lg_bitCount ∈ gtbl := g_at 281 (by decide +kernel) (by decide +kernel)
theorem w_Nm_97 : Cond.methodLink "NearMarks" 97 y_St_numberOf ∈ gtbl := g_at 287 (by decide +kernel) (by decide +kernel)
theorem w_Nm_100 : Cond.methodLink "NearMarks" 100 y_Nm_countLookedAt ∈ gtbl := g_at 291 (by decide +kernel) (by decide +kernel)
theorem w_Nm_104 : Cond.methodLink "NearMarks" 104 y_Pt_reach ∈ gtbl := g_at 306 (by decide +kernel) (by decide +kernel)
theorem w_Nm_108 : Cond.methodLink "NearMarks" 108 y_St_byDistance ∈ gtbl := g_at 310 (by decide +kernel) (by decide +kernel)
theorem w_Nm_111 : Cond.methodLink "NearMarks" 111 y_Nm_leastDistance ∈ gtbl := g_at 319 (by decide +kernel) (by decide +kernel)
theorem w_Nm_114 : Cond.methodLink "NearMarks" 114 y_Co_countDead ∈ gtbl := g_at 327 (by decide +kernel) (by decide +kernel)
theorem w_Nm_118 : Cond.methodLink "NearMarks" 118 y_Co_firstPair ∈ gtbl := g_at 339 (by decide +kernel) (by decide +kernel)
theorem w_Nm_122 : Cond.methodLink "NearMarks" 122 y_Si_fitting ∈ gtbl := g_at 347 (by decide +kernel) (by decide +kernel)
theorem w_Nm_126 : Cond.methodLink "NearMarks" 126 y_Si_leastFitting ∈ gtbl := g_at 356 (by decide +kernel) (by decide +kernel)
theorem w_Nm_129 : Cond.methodLink "NearMarks" 129 y_Si_bestToAsk ∈ gtbl := g_at 365 (by decide +kernel) (by decide +kernel)
theorem w_Nm_133 : Cond.methodLink "NearMarks" 133 y_Bk_firstWrong ∈ gtbl := g_at 382 (by decide +kernel) (by decide +kernel)
theorem w_Nm_138 : Cond.methodLink "NearMarks" 138 y_St_has ∈ gtbl := g_at 323 (by decide +kernel) (by decide +kernel)
theorem w_Nm_151 : Cond.methodLink "NearMarks" 151 y_St_fromHand ∈ gtbl := g_at 295 (by decide +kernel) (by decide +kernel)
theorem w_Nm_154 : Cond.methodLink "NearMarks" 154 y_Nm_countOthersWithin ∈ gtbl := g_at 410 (by decide +kernel) (by decide +kernel)
theorem w_Nm_158 : Cond.methodLink "NearMarks" 158 y_Pt_anyAlike ∈ gtbl := g_at 302 (by decide +kernel) (by decide +kernel)
theorem w_Nm_168 : Cond.methodLink "NearMarks" 168 y_Nm_countWithPart ∈ gtbl := g_at 419 (by decide +kernel) (by decide +kernel)
theorem w_Nm_171 : Cond.methodLink "NearMarks" 171 y_St_between ∈ gtbl := g_at 414 (by decide +kernel) (by decide +kernel)
theorem w_Nm_174 : Cond.methodLink "NearMarks" 174 y_Pa_remember ∈ gtbl := g_at 427 (by decide +kernel) (by decide +kernel)
theorem w_Nm_178 : Cond.methodLink "NearMarks" 178 y_Pi_withRow ∈ gtbl := g_at 438 (by decide +kernel) (by decide +kernel)
theorem w_Nm_184 : Cond.methodLink "NearMarks" 184 y_Pi_turned ∈ gtbl := g_at 451 (by decide +kernel) (by decide +kernel)
theorem w_Nm_188 : Cond.methodLink "NearMarks" 188 y_Pi_firstRow ∈ gtbl := g_at 461 (by decide +kernel) (by decide +kernel)
theorem w_Nm_191 : Cond.methodLink "NearMarks" 191 y_Pi_mirrored ∈ gtbl := g_at 468 (by decide +kernel) (by decide +kernel)
theorem w_Nm_194 : Cond.methodLink "NearMarks" 194 y_Nm_isKind ∈ gtbl := g_at 479 (by decide +kernel) (by decide +kernel)
theorem w_Nm_199 : Cond.methodLink "NearMarks" 199 y_St_addHand ∈ gtbl := g_at 484 (by decide +kernel) (by decide +kernel)
theorem w_Nm_203 : Cond.methodLink "NearMarks" 203 y_St_remove ∈ gtbl := g_at 496 (by decide +kernel) (by decide +kernel)
theorem w_Nm_206 : Cond.methodLink "NearMarks" 206 y_Nm_changeHandByDraws ∈ gtbl := g_at 508 (by decide +kernel) (by decide +kernel)
theorem w_Nm_209 : Cond.methodLink "NearMarks" 209 y_Nm_putIfUnlikeAll ∈ gtbl := g_at 525 (by decide +kernel) (by decide +kernel)
theorem w_Nm_212 : Cond.methodLink "NearMarks" 212 y_Pa_bringBack ∈ gtbl := g_at 533 (by decide +kernel) (by decide +kernel)
theorem w_Nm_216 : Cond.methodLink "NearMarks" 216 y_Dr_next ∈ gtbl := g_at 512 (by decide +kernel) (by decide +kernel)
theorem w_Nm_219 : Cond.methodLink "NearMarks" 219 y_Pi_ofEqualRows ∈ gtbl := g_at 521 (by decide +kernel) (by decide +kernel)
theorem w_Nm_223 : Cond.methodLink "NearMarks" 223 y_Nm_isDistance ∈ gtbl := g_at 541 (by decide +kernel) (by decide +kernel)
theorem w_Nm_226 : Cond.methodLink "NearMarks" 226 y_Nm_isNear ∈ gtbl := g_at 544 (by decide +kernel) (by decide +kernel)
theorem w_Nm_230 : Cond.methodLink "NearMarks" 230 y_St_hasBoth ∈ gtbl := g_at 556 (by decide +kernel) (by decide +kernel)
theorem w_Nm_233 : Cond.methodLink "NearMarks" 233 y_Gr_join ∈ gtbl := g_at 561 (by decide +kernel) (by decide +kernel)
theorem w_Nm_238 : Cond.methodLink "NearMarks" 238 y_Gr_has ∈ gtbl := g_at 579 (by decide +kernel) (by decide +kernel)
theorem w_Nm_242 : Cond.methodLink "NearMarks" 242 y_Nm_leastOf ∈ gtbl := g_at 583 (by decide +kernel) (by decide +kernel)
theorem w_Nm_245 : Cond.methodLink "NearMarks" 245 y_St_widthOf ∈ gtbl := g_at 584 (by decide +kernel) (by decide +kernel)
theorem w_Nm_248 : Cond.methodLink "NearMarks" 248 y_Co_mostOf ∈ gtbl := g_at 595 (by decide +kernel) (by decide +kernel)
theorem w_Nm_252 : Cond.methodLink "NearMarks" 252 y_Pt_beginEvenly ∈ gtbl := g_at 604 (by decide +kernel) (by decide +kernel)
theorem w_Nm_256 : Cond.methodLink "NearMarks" 256 y_Nm_countAllLooks ∈ gtbl := g_at 613 (by decide +kernel) (by decide +kernel)
theorem w_Nm_260 : Cond.methodLink "NearMarks" 260 y_Nm_hasBit ∈ gtbl := g_at 364 (by decide +kernel) (by decide +kernel)
theorem w_Nm_264 : Cond.methodLink "NearMarks" 264 y_Si_add ∈ gtbl := g_at 621 (by decide +kernel) (by decide +kernel)
theorem w_Nm_268 : Cond.methodLink "NearMarks" 268 y_Bk_add ∈ gtbl := g_at 629 (by decide +kernel) (by decide +kernel)
theorem w_Nm_276 : Cond.methodLink "NearMarks" 276 y_St_become ∈ gtbl := g_at 645 (by decide +kernel) (by decide +kernel)
theorem w_Nm_285 : Cond.methodLink "NearMarks" 285 y_Pa_forget ∈ gtbl := g_at 646 (by decide +kernel) (by decide +kernel)
theorem w_Bk_25 : Cond.methodLink "NearMarks$Book" 25 y_Bk_isRight ∈ gtbl := g_at 386 (by decide +kernel) (by decide +kernel)
theorem w_Bk_29 : Cond.methodLink "NearMarks$Book" 29 y_St_hasBoth ∈ gtbl := g_at 390 (by decide +kernel) (by decide +kernel)
theorem w_Bk_35 : Cond.methodLink "NearMarks$Book" 35 y_St_between ∈ gtbl := g_at 395 (by decide +kernel) (by decide +kernel)
theorem w_Co_28 : Cond.methodLink "NearMarks$Columns" 28 y_Co_read ∈ gtbl := g_at 331 (by decide +kernel) (by decide +kernel)
theorem w_Co_32 : Cond.methodLink "NearMarks$Columns" 32 y_Co_isDead ∈ gtbl := g_at 335 (by decide +kernel) (by decide +kernel)
theorem w_Co_36 : Cond.methodLink "NearMarks$Columns" 36 y_Co_goTogether ∈ gtbl := g_at 343 (by decide +kernel) (by decide +kernel)
theorem w_Co_40 : Cond.methodLink "NearMarks$Columns" 40 y_Lg_bitCount ∈ gtbl := g_at 599 (by decide +kernel) (by decide +kernel)
theorem w_Dr_20 : Cond.methodLink "NearMarks$Draws" 20 y_Ma_max ∈ gtbl := g_at 520 (by decide +kernel) (by decide +kernel)
theorem w_Gr_22 : Cond.methodLink "NearMarks$Grouping" 22 y_Gr_findClose ∈ gtbl := g_at 565 (by decide +kernel) (by decide +kernel)
theorem w_Gr_33 : Cond.methodLink "NearMarks$Grouping" 33 y_Gr_spread ∈ gtbl := g_at 571 (by decide +kernel) (by decide +kernel)
theorem w_Gr_37 : Cond.methodLink "NearMarks$Grouping" 37 y_St_between ∈ gtbl := g_at 569 (by decide +kernel) (by decide +kernel)
theorem w_Im_9 : Cond.methodLink "NearMarks$Image" 9 y_St_init ∈ gtbl := g_at 126 (by decide +kernel) (by decide +kernel)
theorem w_Pt_27 : Cond.methodLink "NearMarks$Parts" 27 y_Ma_max ∈ gtbl := g_at 608 (by decide +kernel) (by decide +kernel)
theorem w_Pt_33 : Cond.methodLink "NearMarks$Parts" 33 y_Pt_turnOf ∈ gtbl := g_at 609 (by decide +kernel) (by decide +kernel)
theorem w_Pt_37 : Cond.methodLink "NearMarks$Parts" 37 y_Pt_beginAt ∈ gtbl := g_at 612 (by decide +kernel) (by decide +kernel)
theorem w_Pa_17 : Cond.methodLink "NearMarks$Past" 17 y_St_init ∈ gtbl := g_at 106 (by decide +kernel) (by decide +kernel)
theorem w_Pa_22 : Cond.methodLink "NearMarks$Past" 22 y_St_become ∈ gtbl := g_at 431 (by decide +kernel) (by decide +kernel)
theorem w_Pa_29 : Cond.methodLink "NearMarks$Past" 29 y_Ma_min ∈ gtbl := g_at 435 (by decide +kernel) (by decide +kernel)
theorem w_Pi_13 : Cond.methodLink "NearMarks$Picture" 13 y_Pi_withRow ∈ gtbl := g_at 524 (by decide +kernel) (by decide +kernel)
theorem w_Pi_23 : Cond.methodLink "NearMarks$Picture" 23 y_Pi_hasDot ∈ gtbl := g_at 454 (by decide +kernel) (by decide +kernel)
theorem w_Pi_27 : Cond.methodLink "NearMarks$Picture" 27 y_Pi_dotAt ∈ gtbl := g_at 458 (by decide +kernel) (by decide +kernel)
theorem w_Si_36 : Cond.methodLink "NearMarks$Sightings" 36 y_Si_fits ∈ gtbl := g_at 351 (by decide +kernel) (by decide +kernel)
theorem w_Si_40 : Cond.methodLink "NearMarks$Sightings" 40 y_Si_fitting ∈ gtbl := g_at 360 (by decide +kernel) (by decide +kernel)
theorem w_Si_48 : Cond.methodLink "NearMarks$Sightings" 48 y_Lg_bitCount ∈ gtbl := g_at 369 (by decide +kernel) (by decide +kernel)
theorem w_Si_53 : Cond.methodLink "NearMarks$Sightings" 53 y_Si_greatestLeft ∈ gtbl := g_at 370 (by decide +kernel) (by decide +kernel)
theorem w_Si_61 : Cond.methodLink "NearMarks$Sightings" 61 y_St_between ∈ gtbl := g_at 375 (by decide +kernel) (by decide +kernel)
theorem w_Si_65 : Cond.methodLink "NearMarks$Sightings" 65 y_Ma_max ∈ gtbl := g_at 379 (by decide +kernel) (by decide +kernel)
theorem w_St_32 : Cond.methodLink "NearMarks$State" 32 y_St_has ∈ gtbl := g_at 394 (by decide +kernel) (by decide +kernel)
theorem w_St_40 : Cond.methodLink "NearMarks$State" 40 y_St_countNearerThan ∈ gtbl := g_at 314 (by decide +kernel) (by decide +kernel)
theorem w_St_44 : Cond.methodLink "NearMarks$State" 44 y_St_fromHand ∈ gtbl := g_at 318 (by decide +kernel) (by decide +kernel)
theorem w_St_51 : Cond.methodLink "NearMarks$State" 51 y_St_between ∈ gtbl := g_at 589 (by decide +kernel) (by decide +kernel)
theorem w_St_55 : Cond.methodLink "NearMarks$State" 55 y_Ma_max ∈ gtbl := g_at 590 (by decide +kernel) (by decide +kernel)
theorem w_Lw_9 : Cond.methodLink "NearMarksLaw" 9 y_Nm_init ∈ gtbl := g_at 57 (by decide +kernel) (by decide +kernel)
theorem w_Lw_12 : Cond.methodLink "NearMarksLaw" 12 y_Mo_init ∈ gtbl := g_at 656 (by decide +kernel) (by decide +kernel)
theorem w_Lw_13 : Cond.methodLink "NearMarksLaw" 13 y_Nm_told ∈ gtbl := g_at 277 (by decide +kernel) (by decide +kernel)
theorem w_Lw_17 : Cond.methodLink "NearMarksLaw" 17 y_Mo_told ∈ gtbl := g_at 720 (by decide +kernel) (by decide +kernel)
theorem w_Lw_18 : Cond.methodLink "NearMarksLaw" 18 y_Nm_hand ∈ gtbl := g_at 397 (by decide +kernel) (by decide +kernel)
theorem w_Lw_22 : Cond.methodLink "NearMarksLaw" 22 y_Mo_hand ∈ gtbl := g_at 809 (by decide +kernel) (by decide +kernel)
theorem w_Lw_23 : Cond.methodLink "NearMarksLaw" 23 y_Nm_markAt ∈ gtbl := g_at 401 (by decide +kernel) (by decide +kernel)
theorem w_Lw_27 : Cond.methodLink "NearMarksLaw" 27 y_Mo_markAt ∈ gtbl := g_at 813 (by decide +kernel) (by decide +kernel)
theorem w_Lw_28 : Cond.methodLink "NearMarksLaw" 28 y_Nm_mark ∈ gtbl := g_at 405 (by decide +kernel) (by decide +kernel)
theorem w_Lw_32 : Cond.methodLink "NearMarksLaw" 32 y_Mo_mark ∈ gtbl := g_at 817 (by decide +kernel) (by decide +kernel)
theorem w_Lw_33 : Cond.methodLink "NearMarksLaw" 33 y_Nm_part ∈ gtbl := g_at 415 (by decide +kernel) (by decide +kernel)
theorem w_Lw_36 : Cond.methodLink "NearMarksLaw" 36 y_Mo_part ∈ gtbl := g_at 822 (by decide +kernel) (by decide +kernel)
theorem w_Lw_37 : Cond.methodLink "NearMarksLaw" 37 y_Nm_type ∈ gtbl := g_at 423 (by decide +kernel) (by decide +kernel)
theorem w_Lw_40 : Cond.methodLink "NearMarksLaw" 40 y_Mo_type ∈ gtbl := g_at 838 (by decide +kernel) (by decide +kernel)
theorem w_Lw_41 : Cond.methodLink "NearMarksLaw" 41 y_Nm_flip ∈ gtbl := g_at 443 (by decide +kernel) (by decide +kernel)
theorem w_Lw_44 : Cond.methodLink "NearMarksLaw" 44 y_Mo_flip ∈ gtbl := g_at 853 (by decide +kernel) (by decide +kernel)
theorem w_Lw_45 : Cond.methodLink "NearMarksLaw" 45 y_Nm_turn ∈ gtbl := g_at 447 (by decide +kernel) (by decide +kernel)
theorem w_Lw_49 : Cond.methodLink "NearMarksLaw" 49 y_Mo_turn ∈ gtbl := g_at 858 (by decide +kernel) (by decide +kernel)
theorem w_Lw_50 : Cond.methodLink "NearMarksLaw" 50 y_Nm_mirror ∈ gtbl := g_at 464 (by decide +kernel) (by decide +kernel)
theorem w_Lw_53 : Cond.methodLink "NearMarksLaw" 53 y_Mo_mirror ∈ gtbl := g_at 866 (by decide +kernel) (by decide +kernel)
theorem w_Lw_54 : Cond.methodLink "NearMarksLaw" 54 y_Nm_hold ∈ gtbl := g_at 471 (by decide +kernel) (by decide +kernel)
theorem w_Lw_57 : Cond.methodLink "NearMarksLaw" 57 y_Mo_hold ∈ gtbl := g_at 870 (by decide +kernel) (by decide +kernel)
theorem w_Lw_58 : Cond.methodLink "NearMarksLaw" 58 y_Nm_put ∈ gtbl := g_at 475 (by decide +kernel) (by decide +kernel)
theorem w_Lw_61 : Cond.methodLink "NearMarksLaw" 61 y_Mo_put ∈ gtbl := g_at 874 (by decide +kernel) (by decide +kernel)
theorem w_Lw_64 : Cond.methodLink "NearMarksLaw" 64 y_Nm_cut ∈ gtbl := g_at 488 (by decide +kernel) (by decide +kernel)
theorem w_Lw_68 : Cond.methodLink "NearMarksLaw" 68 y_Mo_cut ∈ gtbl := g_at 885 (by decide +kernel) (by decide +kernel)
theorem w_Lw_69 : Cond.methodLink "NearMarksLaw" 69 y_Nm_take ∈ gtbl := g_at 492 (by decide +kernel) (by decide +kernel)
theorem w_Lw_72 : Cond.methodLink "NearMarksLaw" 72 y_Mo_take ∈ gtbl := g_at 889 (by decide +kernel) (by decide +kernel)
theorem w_Lw_73 : Cond.methodLink "NearMarksLaw" 73 y_Nm_kind ∈ gtbl := g_at 500 (by decide +kernel) (by decide +kernel)
theorem w_Lw_76 : Cond.methodLink "NearMarksLaw" 76 y_Mo_kind ∈ gtbl := g_at 893 (by decide +kernel) (by decide +kernel)
theorem w_Lw_77 : Cond.methodLink "NearMarksLaw" 77 y_Nm_drift ∈ gtbl := g_at 504 (by decide +kernel) (by decide +kernel)
theorem w_Lw_80 : Cond.methodLink "NearMarksLaw" 80 y_Mo_drift ∈ gtbl := g_at 897 (by decide +kernel) (by decide +kernel)
theorem w_Lw_81 : Cond.methodLink "NearMarksLaw" 81 y_Nm_undo ∈ gtbl := g_at 529 (by decide +kernel) (by decide +kernel)
theorem w_Lw_84 : Cond.methodLink "NearMarksLaw" 84 y_Mo_undo ∈ gtbl := g_at 914 (by decide +kernel) (by decide +kernel)
theorem w_Lw_85 : Cond.methodLink "NearMarksLaw" 85 y_Nm_near ∈ gtbl := g_at 537 (by decide +kernel) (by decide +kernel)
theorem w_Lw_88 : Cond.methodLink "NearMarksLaw" 88 y_Mo_near ∈ gtbl := g_at 922 (by decide +kernel) (by decide +kernel)
theorem w_Lw_89 : Cond.methodLink "NearMarksLaw" 89 y_Nm_nearest ∈ gtbl := g_at 548 (by decide +kernel) (by decide +kernel)
theorem w_Lw_92 : Cond.methodLink "NearMarksLaw" 92 y_Mo_nearest ∈ gtbl := g_at 927 (by decide +kernel) (by decide +kernel)
theorem w_Lw_93 : Cond.methodLink "NearMarksLaw" 93 y_Nm_apart ∈ gtbl := g_at 552 (by decide +kernel) (by decide +kernel)
theorem w_Lw_96 : Cond.methodLink "NearMarksLaw" 96 y_Mo_apart ∈ gtbl := g_at 931 (by decide +kernel) (by decide +kernel)
theorem w_Lw_97 : Cond.methodLink "NearMarksLaw" 97 y_Nm_groups ∈ gtbl := g_at 557 (by decide +kernel) (by decide +kernel)
theorem w_Lw_100 : Cond.methodLink "NearMarksLaw" 100 y_Mo_groups ∈ gtbl := g_at 935 (by decide +kernel) (by decide +kernel)
theorem w_Lw_101 : Cond.methodLink "NearMarksLaw" 101 y_Nm_group ∈ gtbl := g_at 575 (by decide +kernel) (by decide +kernel)
theorem w_Lw_105 : Cond.methodLink "NearMarksLaw" 105 y_Mo_group ∈ gtbl := g_at 943 (by decide +kernel) (by decide +kernel)
theorem w_Lw_106 : Cond.methodLink "NearMarksLaw" 106 y_Nm_middle ∈ gtbl := g_at 591 (by decide +kernel) (by decide +kernel)
theorem w_Lw_110 : Cond.methodLink "NearMarksLaw" 110 y_Mo_middle ∈ gtbl := g_at 959 (by decide +kernel) (by decide +kernel)
theorem w_Lw_111 : Cond.methodLink "NearMarksLaw" 111 y_Nm_fewest ∈ gtbl := g_at 600 (by decide +kernel) (by decide +kernel)
theorem w_Lw_114 : Cond.methodLink "NearMarksLaw" 114 y_Mo_fewest ∈ gtbl := g_at 963 (by decide +kernel) (by decide +kernel)
theorem w_Lw_115 : Cond.methodLink "NearMarksLaw" 115 y_Nm_see ∈ gtbl := g_at 617 (by decide +kernel) (by decide +kernel)
theorem w_Lw_118 : Cond.methodLink "NearMarksLaw" 118 y_Mo_see ∈ gtbl := g_at 974 (by decide +kernel) (by decide +kernel)
theorem w_Lw_119 : Cond.methodLink "NearMarksLaw" 119 y_Nm_write ∈ gtbl := g_at 625 (by decide +kernel) (by decide +kernel)
theorem w_Lw_122 : Cond.methodLink "NearMarksLaw" 122 y_Mo_write ∈ gtbl := g_at 978 (by decide +kernel) (by decide +kernel)
theorem w_Lw_123 : Cond.methodLink "NearMarksLaw" 123 y_Nm_tear ∈ gtbl := g_at 633 (by decide +kernel) (by decide +kernel)
theorem w_Lw_126 : Cond.methodLink "NearMarksLaw" 126 y_Mo_tear ∈ gtbl := g_at 982 (by decide +kernel) (by decide +kernel)
theorem w_Lw_127 : Cond.methodLink "NearMarksLaw" 127 y_Nm_seed ∈ gtbl := g_at 637 (by decide +kernel) (by decide +kernel)
theorem w_Lw_130 : Cond.methodLink "NearMarksLaw" 130 y_Mo_seed ∈ gtbl := g_at 986 (by decide +kernel) (by decide +kernel)
theorem w_Lw_131 : Cond.methodLink "NearMarksLaw" 131 y_Nm_keep ∈ gtbl := g_at 641 (by decide +kernel) (by decide +kernel)
theorem w_Lw_134 : Cond.methodLink "NearMarksLaw" 134 y_Mo_keep ∈ gtbl := g_at 990 (by decide +kernel) (by decide +kernel)
theorem w_Lw_135 : Cond.methodLink "NearMarksLaw" 135 y_Nm_goBack ∈ gtbl := g_at 650 (by decide +kernel) (by decide +kernel)
theorem w_Lw_138 : Cond.methodLink "NearMarksLaw" 138 y_Mo_goBack ∈ gtbl := g_at 994 (by decide +kernel) (by decide +kernel)
theorem w_Mo_59 : Cond.methodLink "NearMarksModel" 59 y_Mo_marks ∈ gtbl := g_at 724 (by decide +kernel) (by decide +kernel)
theorem w_Mo_63 : Cond.methodLink "NearMarksModel" 63 y_Mo_in ∈ gtbl := g_at 805 (by decide +kernel) (by decide +kernel)
theorem w_Mo_67 : Cond.methodLink "NearMarksModel" 67 y_Mo_own ∈ gtbl := g_at 739 (by decide +kernel) (by decide +kernel)
theorem w_Mo_71 : Cond.methodLink "NearMarksModel" 71 y_Mo_ones ∈ gtbl := g_at 732 (by decide +kernel) (by decide +kernel)
theorem w_Mo_75 : Cond.methodLink "NearMarksModel" 75 y_Mo_has ∈ gtbl := g_at 750 (by decide +kernel) (by decide +kernel)
theorem w_Mo_79 : Cond.methodLink "NearMarksModel" 79 y_Mo_isLooked ∈ gtbl := g_at 747 (by decide +kernel) (by decide +kernel)
theorem w_Mo_82 : Cond.methodLink "NearMarksModel" 82 y_Mo_off ∈ gtbl := g_at 753 (by decide +kernel) (by decide +kernel)
theorem w_Mo_86 : Cond.methodLink "NearMarksModel" 86 y_Mo_parts ∈ gtbl := g_at 728 (by decide +kernel) (by decide +kernel)
theorem w_Mo_89 : Cond.methodLink "NearMarksModel" 89 y_Mo_ahead ∈ gtbl := g_at 765 (by decide +kernel) (by decide +kernel)
theorem w_Mo_92 : Cond.methodLink "NearMarksModel" 92 y_Mo_isDead ∈ gtbl := g_at 773 (by decide +kernel) (by decide +kernel)
theorem w_Mo_96 : Cond.methodLink "NearMarksModel" 96 y_Mo_areTogether ∈ gtbl := g_at 781 (by decide +kernel) (by decide +kernel)
theorem w_Mo_104 : Cond.methodLink "NearMarksModel" 104 y_Mo_couldBe ∈ gtbl := g_at 789 (by decide +kernel) (by decide +kernel)
theorem w_Mo_107 : Cond.methodLink "NearMarksModel" 107 y_Mo_could ∈ gtbl := g_at 785 (by decide +kernel) (by decide +kernel)
theorem w_Mo_114 : Cond.methodLink "NearMarksModel" 114 y_Mo_isMark ∈ gtbl := g_at 801 (by decide +kernel) (by decide +kernel)
theorem w_Mo_117 : Cond.methodLink "NearMarksModel" 117 y_Mo_nearestOf ∈ gtbl := g_at 761 (by decide +kernel) (by decide +kernel)
theorem w_Mo_120 : Cond.methodLink "NearMarksModel" 120 y_Mo_like ∈ gtbl := g_at 735 (by decide +kernel) (by decide +kernel)
theorem w_Mo_123 : Cond.methodLink "NearMarksModel" 123 y_Mo_looked ∈ gtbl := g_at 743 (by decide +kernel) (by decide +kernel)
theorem w_Mo_126 : Cond.methodLink "NearMarksModel" 126 y_Mo_first ∈ gtbl := g_at 757 (by decide +kernel) (by decide +kernel)
theorem w_Mo_129 : Cond.methodLink "NearMarksModel" 129 y_Mo_dead ∈ gtbl := g_at 769 (by decide +kernel) (by decide +kernel)
theorem w_Mo_132 : Cond.methodLink "NearMarksModel" 132 y_Mo_together ∈ gtbl := g_at 777 (by decide +kernel) (by decide +kernel)
theorem w_Mo_135 : Cond.methodLink "NearMarksModel" 135 y_Mo_asked ∈ gtbl := g_at 793 (by decide +kernel) (by decide +kernel)
theorem w_Mo_138 : Cond.methodLink "NearMarksModel" 138 y_Mo_wrong ∈ gtbl := g_at 797 (by decide +kernel) (by decide +kernel)
theorem w_Mo_146 : Cond.methodLink "NearMarksModel" 146 y_Mo_beginOf ∈ gtbl := g_at 826 (by decide +kernel) (by decide +kernel)
theorem w_Mo_149 : Cond.methodLink "NearMarksModel" 149 y_Mo_endOf ∈ gtbl := g_at 830 (by decide +kernel) (by decide +kernel)
theorem w_Mo_152 : Cond.methodLink "NearMarksModel" 152 y_Mo_have ∈ gtbl := g_at 834 (by decide +kernel) (by decide +kernel)
theorem w_Mo_155 : Cond.methodLink "NearMarksModel" 155 y_Mo_lay ∈ gtbl := g_at 848 (by decide +kernel) (by decide +kernel)
theorem w_Mo_163 : Cond.methodLink "NearMarksModel" 163 y_Mo_note ∈ gtbl := g_at 844 (by decide +kernel) (by decide +kernel)
theorem w_Mo_170 : Cond.methodLink "NearMarksModel" 170 y_Mo_row ∈ gtbl := g_at 862 (by decide +kernel) (by decide +kernel)
theorem w_Mo_177 : Cond.methodLink "NearMarksModel" 177 y_Mo_add ∈ gtbl := g_at 881 (by decide +kernel) (by decide +kernel)
theorem w_Mo_191 : Cond.methodLink "NearMarksModel" 191 y_Mo_draw ∈ gtbl := g_at 906 (by decide +kernel) (by decide +kernel)
theorem w_Mo_196 : Cond.methodLink "NearMarksModel" 196 y_Mo_lot ∈ gtbl := g_at 902 (by decide +kernel) (by decide +kernel)
theorem w_Mo_199 : Cond.methodLink "NearMarksModel" 199 y_Mo_become ∈ gtbl := g_at 918 (by decide +kernel) (by decide +kernel)
theorem w_Mo_204 : Cond.methodLink "NearMarksModel" 204 y_Mo_layGroups ∈ gtbl := g_at 939 (by decide +kernel) (by decide +kernel)
theorem w_Mo_207 : Cond.methodLink "NearMarksModel" 207 y_Mo_leastOf ∈ gtbl := g_at 947 (by decide +kernel) (by decide +kernel)
theorem w_Mo_210 : Cond.methodLink "NearMarksModel" 210 y_Mo_manyOf ∈ gtbl := g_at 951 (by decide +kernel) (by decide +kernel)
theorem w_Mo_213 : Cond.methodLink "NearMarksModel" 213 y_Mo_wide ∈ gtbl := g_at 955 (by decide +kernel) (by decide +kernel)
theorem w_Mo_216 : Cond.methodLink "NearMarksModel" 216 y_Mo_isMore ∈ gtbl := g_at 971 (by decide +kernel) (by decide +kernel)
theorem w_Mo_222 : Cond.methodLink "NearMarksModel" 222 y_Mo_cutBy ∈ gtbl := g_at 968 (by decide +kernel) (by decide +kernel)
theorem k_Nm_137 : Cond.constant "NearMarks" 137 (-1000000002) ∈ gtbl := g_at 396 (by decide +kernel) (by decide +kernel)
theorem k_Nm_146 : Cond.constant "NearMarks" 146 (-1000000001) ∈ gtbl := g_at 409 (by decide +kernel) (by decide +kernel)
theorem k_Nm_197 : Cond.constant "NearMarks" 197 (-1000000003) ∈ gtbl := g_at 482 (by decide +kernel) (by decide +kernel)
theorem k_Nm_198 : Cond.constant "NearMarks" 198 (-1000000004) ∈ gtbl := g_at 483 (by decide +kernel) (by decide +kernel)
theorem k_Dr_19 : Cond.constant "NearMarks$Draws" 19 65536 ∈ gtbl := g_at 519 (by decide +kernel) (by decide +kernel)
theorem k_Mo_144 : Cond.constant "NearMarksModel" 144 (-1000000002) ∈ gtbl := g_at 808 (by decide +kernel) (by decide +kernel)
theorem k_Mo_145 : Cond.constant "NearMarksModel" 145 (-1000000001) ∈ gtbl := g_at 821 (by decide +kernel) (by decide +kernel)
theorem k_Mo_175 : Cond.constant "NearMarksModel" 175 (-1000000003) ∈ gtbl := g_at 879 (by decide +kernel) (by decide +kernel)
theorem k_Mo_176 : Cond.constant "NearMarksModel" 176 (-1000000004) ∈ gtbl := g_at 880 (by decide +kernel) (by decide +kernel)
theorem k_Mo_190 : Cond.constant "NearMarksModel" 190 65536 ∈ gtbl := g_at 913 (by decide +kernel) (by decide +kernel)
theorem k_Dr_13 : Cond.constantLong "NearMarks$Draws" 13 1103515245 ∈ gtbl := g_at 516 (by decide +kernel) (by decide +kernel)
theorem k_Dr_15 : Cond.constantLong "NearMarks$Draws" 15 12345 ∈ gtbl := g_at 517 (by decide +kernel) (by decide +kernel)
theorem k_Dr_17 : Cond.constantLong "NearMarks$Draws" 17 2147483647 ∈ gtbl := g_at 518 (by decide +kernel) (by decide +kernel)
theorem k_Pi_9 : Cond.constantLong "NearMarks$Picture" 9 255 ∈ gtbl := g_at 441 (by decide +kernel) (by decide +kernel)
theorem k_Pi_11 : Cond.constantLong "NearMarks$Picture" 11 (-1) ∈ gtbl := g_at 442 (by decide +kernel) (by decide +kernel)
theorem k_St_9 : Cond.constantLong "NearMarks$State" 9 281479271743489 ∈ gtbl := g_at 69 (by decide +kernel) (by decide +kernel)
theorem k_Lw_62 : Cond.constantLong "NearMarksLaw" 62 4294967295 ∈ gtbl := g_at 998 (by decide +kernel) (by decide +kernel)
theorem k_Mo_57 : Cond.constantLong "NearMarksModel" 57 281479271743489 ∈ gtbl := g_at 660 (by decide +kernel) (by decide +kernel)
theorem k_Mo_159 : Cond.constantLong "NearMarksModel" 159 7 ∈ gtbl := g_at 842 (by decide +kernel) (by decide +kernel)
theorem k_Mo_161 : Cond.constantLong "NearMarksModel" 161 255 ∈ gtbl := g_at 843 (by decide +kernel) (by decide +kernel)
theorem k_Mo_166 : Cond.constantLong "NearMarksModel" 166 (-1) ∈ gtbl := g_at 852 (by decide +kernel) (by decide +kernel)
theorem k_Mo_168 : Cond.constantLong "NearMarksModel" 168 63 ∈ gtbl := g_at 857 (by decide +kernel) (by decide +kernel)
theorem k_Mo_173 : Cond.constantLong "NearMarksModel" 173 2 ∈ gtbl := g_at 878 (by decide +kernel) (by decide +kernel)
theorem k_Mo_184 : Cond.constantLong "NearMarksModel" 184 1103515245 ∈ gtbl := g_at 910 (by decide +kernel) (by decide +kernel)
theorem k_Mo_186 : Cond.constantLong "NearMarksModel" 186 12345 ∈ gtbl := g_at 911 (by decide +kernel) (by decide +kernel)
theorem k_Mo_188 : Cond.constantLong "NearMarksModel" 188 2147483648 ∈ gtbl := g_at 912 (by decide +kernel) (by decide +kernel)
theorem k_Mo_194 : Cond.constantLong "NearMarksModel" 194 20 ∈ gtbl := g_at 901 (by decide +kernel) (by decide +kernel)
theorem k_Mo_202 : Cond.constantLong "NearMarksModel" 202 64 ∈ gtbl := g_at 926 (by decide +kernel) (by decide +kernel)
theorem k_Mo_220 : Cond.constantLong "NearMarksModel" 220 8 ∈ gtbl := g_at 967 (by decide +kernel) (by decide +kernel)
theorem k_Lg_314 : Cond.constantLong "java/lang/Long" 314 6148914691236517205 ∈ gtbl := g_at 284 (by decide +kernel) (by decide +kernel)
theorem k_Lg_316 : Cond.constantLong "java/lang/Long" 316 3689348814741910323 ∈ gtbl := g_at 285 (by decide +kernel) (by decide +kernel)
theorem k_Lg_318 : Cond.constantLong "java/lang/Long" 318 1085102592571150095 ∈ gtbl := g_at 286 (by decide +kernel) (by decide +kernel)
theorem ok_Pt_beginAt : VOK y_Pt_beginAt c_Pt_beginAt 4 none 1 := ⟨g_at 158 (by decide +kernel) (by decide +kernel), g_at 159 (by decide +kernel) (by decide +kernel), g_at 45 (by decide +kernel) (by decide +kernel), wc_Pt_beginAt, ⟨by decide +kernel, by decide +kernel, by decide +kernel⟩⟩
theorem ok_Nm_hasBit : SOK y_Nm_hasBit c_Nm_hasBit 3 (some .boolean) 2 := ⟨g_at 162 (by decide +kernel) (by decide +kernel), g_at 41 (by decide +kernel) (by decide +kernel), wc_Nm_hasBit, ⟨by decide +kernel, by decide +kernel, by decide +kernel⟩⟩
theorem ok_Nm_told : VOK y_Nm_told c_Nm_told 2 (some .int) 1 := ⟨g_at 278 (by decide +kernel) (by decide +kernel), g_at 279 (by decide +kernel) (by decide +kernel), g_at 41 (by decide +kernel) (by decide +kernel), wc_Nm_told, ⟨by decide +kernel, by decide +kernel, by decide +kernel⟩⟩
theorem ok_Lg_bitCount : SOK y_Lg_bitCount c_Lg_bitCount 2 (some .int) 1 := ⟨g_at 282 (by decide +kernel) (by decide +kernel), g_at 52 (by decide +kernel) (by decide +kernel), wc_Lg_bitCount, ⟨by decide +kernel, by decide +kernel, by decide +kernel⟩⟩
theorem ok_St_numberOf : VOK y_St_numberOf c_St_numberOf 4 (some .int) 1 := ⟨g_at 288 (by decide +kernel) (by decide +kernel), g_at 289 (by decide +kernel) (by decide +kernel), g_at 42 (by decide +kernel) (by decide +kernel), wc_St_numberOf, ⟨by decide +kernel, by decide +kernel, by decide +kernel⟩⟩
theorem ok_Nm_countLookedAt : VOK y_Nm_countLookedAt c_Nm_countLookedAt 4 (some .int) 1 := ⟨g_at 293 (by decide +kernel) (by decide +kernel), g_at 0 (by decide +kernel) (by decide +kernel), g_at 41 (by decide +kernel) (by decide +kernel), wc_Nm_countLookedAt, ⟨by decide +kernel, by decide +kernel, by decide +kernel⟩⟩
theorem ok_St_fromHand : VOK y_St_fromHand c_St_fromHand 2 (some .int) 1 := ⟨g_at 296 (by decide +kernel) (by decide +kernel), g_at 297 (by decide +kernel) (by decide +kernel), g_at 42 (by decide +kernel) (by decide +kernel), wc_St_fromHand, ⟨by decide +kernel, by decide +kernel, by decide +kernel⟩⟩
theorem ok_Nm_distanceOf : SOK y_Nm_distanceOf c_Nm_distanceOf 4 (some .int) 2 := ⟨g_at 300 (by decide +kernel) (by decide +kernel), g_at 41 (by decide +kernel) (by decide +kernel), wc_Nm_distanceOf, ⟨by decide +kernel, by decide +kernel, by decide +kernel⟩⟩
theorem ok_Pt_anyAlike : VOK y_Pt_anyAlike c_Pt_anyAlike 4 (some .boolean) 1 := ⟨g_at 303 (by decide +kernel) (by decide +kernel), g_at 304 (by decide +kernel) (by decide +kernel), g_at 45 (by decide +kernel) (by decide +kernel), wc_Pt_anyAlike, ⟨by decide +kernel, by decide +kernel, by decide +kernel⟩⟩
theorem ok_Pt_reach : VOK y_Pt_reach c_Pt_reach 1 (some .int) 0 := ⟨g_at 307 (by decide +kernel) (by decide +kernel), g_at 308 (by decide +kernel) (by decide +kernel), g_at 45 (by decide +kernel) (by decide +kernel), wc_Pt_reach, ⟨by decide +kernel, by decide +kernel, by decide +kernel⟩⟩
theorem ok_St_byDistance : VOK y_St_byDistance c_St_byDistance 3 (some .int) 1 := ⟨g_at 311 (by decide +kernel) (by decide +kernel), g_at 312 (by decide +kernel) (by decide +kernel), g_at 42 (by decide +kernel) (by decide +kernel), wc_St_byDistance, ⟨by decide +kernel, by decide +kernel, by decide +kernel⟩⟩
theorem ok_St_countNearerThan : VOK y_St_countNearerThan c_St_countNearerThan 6 (some .int) 1 := ⟨g_at 315 (by decide +kernel) (by decide +kernel), g_at 316 (by decide +kernel) (by decide +kernel), g_at 42 (by decide +kernel) (by decide +kernel), wc_St_countNearerThan, ⟨by decide +kernel, by decide +kernel, by decide +kernel⟩⟩
theorem ok_Nm_leastDistance : VOK y_Nm_leastDistance c_Nm_leastDistance 2 (some .int) 0 := ⟨g_at 321 (by decide +kernel) (by decide +kernel), g_at 1 (by decide +kernel) (by decide +kernel), g_at 41 (by decide +kernel) (by decide +kernel), wc_Nm_leastDistance, ⟨by decide +kernel, by decide +kernel, by decide +kernel⟩⟩
theorem ok_St_has : VOK y_St_has c_St_has 2 (some .boolean) 1 := ⟨g_at 324 (by decide +kernel) (by decide +kernel), g_at 325 (by decide +kernel) (by decide +kernel), g_at 42 (by decide +kernel) (by decide +kernel), wc_St_has, ⟨by decide +kernel, by decide +kernel, by decide +kernel⟩⟩
theorem ok_Co_countDead : VOK y_Co_countDead c_Co_countDead 4 (some .int) 1 := ⟨g_at 328 (by decide +kernel) (by decide +kernel), g_at 329 (by decide +kernel) (by decide +kernel), g_at 47 (by decide +kernel) (by decide +kernel), wc_Co_countDead, ⟨by decide +kernel, by decide +kernel, by decide +kernel⟩⟩
theorem ok_Co_read : VOK y_Co_read c_Co_read 4 none 1 := ⟨g_at 332 (by decide +kernel) (by decide +kernel), g_at 333 (by decide +kernel) (by decide +kernel), g_at 47 (by decide +kernel) (by decide +kernel), wc_Co_read, ⟨by decide +kernel, by decide +kernel, by decide +kernel⟩⟩
theorem ok_Co_isDead : VOK y_Co_isDead c_Co_isDead 2 (some .boolean) 1 := ⟨g_at 336 (by decide +kernel) (by decide +kernel), g_at 337 (by decide +kernel) (by decide +kernel), g_at 47 (by decide +kernel) (by decide +kernel), wc_Co_isDead, ⟨by decide +kernel, by decide +kernel, by decide +kernel⟩⟩
theorem ok_Co_firstPair : VOK y_Co_firstPair c_Co_firstPair 4 (some .int) 1 := ⟨g_at 340 (by decide +kernel) (by decide +kernel), g_at 341 (by decide +kernel) (by decide +kernel), g_at 47 (by decide +kernel) (by decide +kernel), wc_Co_firstPair, ⟨by decide +kernel, by decide +kernel, by decide +kernel⟩⟩
theorem ok_Co_goTogether : VOK y_Co_goTogether c_Co_goTogether 3 (some .boolean) 2 := ⟨g_at 344 (by decide +kernel) (by decide +kernel), g_at 345 (by decide +kernel) (by decide +kernel), g_at 47 (by decide +kernel) (by decide +kernel), wc_Co_goTogether, ⟨by decide +kernel, by decide +kernel, by decide +kernel⟩⟩
theorem ok_Si_fitting : VOK y_Si_fitting c_Si_fitting 5 (some .long) 1 := ⟨g_at 348 (by decide +kernel) (by decide +kernel), g_at 349 (by decide +kernel) (by decide +kernel), g_at 48 (by decide +kernel) (by decide +kernel), wc_Si_fitting, ⟨by decide +kernel, by decide +kernel, by decide +kernel⟩⟩
theorem ok_Si_fits : VOK y_Si_fits c_Si_fits 4 (some .boolean) 1 := ⟨g_at 352 (by decide +kernel) (by decide +kernel), g_at 353 (by decide +kernel) (by decide +kernel), g_at 48 (by decide +kernel) (by decide +kernel), wc_Si_fits, ⟨by decide +kernel, by decide +kernel, by decide +kernel⟩⟩
theorem ok_Si_leastFitting : VOK y_Si_leastFitting c_Si_leastFitting 2 (some .int) 1 := ⟨g_at 357 (by decide +kernel) (by decide +kernel), g_at 358 (by decide +kernel) (by decide +kernel), g_at 48 (by decide +kernel) (by decide +kernel), wc_Si_leastFitting, ⟨by decide +kernel, by decide +kernel, by decide +kernel⟩⟩
theorem ok_Nm_leastOf : SOK y_Nm_leastOf c_Nm_leastOf 3 (some .int) 1 := ⟨g_at 362 (by decide +kernel) (by decide +kernel), g_at 41 (by decide +kernel) (by decide +kernel), wc_Nm_leastOf, ⟨by decide +kernel, by decide +kernel, by decide +kernel⟩⟩
theorem ok_Si_bestToAsk : VOK y_Si_bestToAsk c_Si_bestToAsk 8 (some .int) 1 := ⟨g_at 366 (by decide +kernel) (by decide +kernel), g_at 367 (by decide +kernel) (by decide +kernel), g_at 48 (by decide +kernel) (by decide +kernel), wc_Si_bestToAsk, ⟨by decide +kernel, by decide +kernel, by decide +kernel⟩⟩
theorem ok_Si_greatestLeft : VOK y_Si_greatestLeft c_Si_greatestLeft 8 (some .int) 3 := ⟨g_at 371 (by decide +kernel) (by decide +kernel), g_at 372 (by decide +kernel) (by decide +kernel), g_at 48 (by decide +kernel) (by decide +kernel), wc_Si_greatestLeft, ⟨by decide +kernel, by decide +kernel, by decide +kernel⟩⟩
theorem ok_St_between : VOK y_St_between c_St_between 3 (some .int) 2 := ⟨g_at 376 (by decide +kernel) (by decide +kernel), g_at 377 (by decide +kernel) (by decide +kernel), g_at 42 (by decide +kernel) (by decide +kernel), wc_St_between, ⟨by decide +kernel, by decide +kernel, by decide +kernel⟩⟩
theorem ok_Ma_max : SOK y_Ma_max c_Ma_max 2 (some .int) 2 := ⟨g_at 380 (by decide +kernel) (by decide +kernel), g_at 53 (by decide +kernel) (by decide +kernel), wc_Ma_max, ⟨by decide +kernel, by decide +kernel, by decide +kernel⟩⟩
theorem ok_Bk_firstWrong : VOK y_Bk_firstWrong c_Bk_firstWrong 3 (some .int) 1 := ⟨g_at 383 (by decide +kernel) (by decide +kernel), g_at 384 (by decide +kernel) (by decide +kernel), g_at 49 (by decide +kernel) (by decide +kernel), wc_Bk_firstWrong, ⟨by decide +kernel, by decide +kernel, by decide +kernel⟩⟩
theorem ok_Bk_isRight : VOK y_Bk_isRight c_Bk_isRight 3 (some .boolean) 2 := ⟨g_at 387 (by decide +kernel) (by decide +kernel), g_at 388 (by decide +kernel) (by decide +kernel), g_at 49 (by decide +kernel) (by decide +kernel), wc_Bk_isRight, ⟨by decide +kernel, by decide +kernel, by decide +kernel⟩⟩
theorem ok_St_hasBoth : VOK y_St_hasBoth c_St_hasBoth 3 (some .boolean) 2 := ⟨g_at 391 (by decide +kernel) (by decide +kernel), g_at 392 (by decide +kernel) (by decide +kernel), g_at 42 (by decide +kernel) (by decide +kernel), wc_St_hasBoth, ⟨by decide +kernel, by decide +kernel, by decide +kernel⟩⟩
theorem ok_Nm_hand : VOK y_Nm_hand c_Nm_hand 1 (some .long) 0 := ⟨g_at 398 (by decide +kernel) (by decide +kernel), g_at 399 (by decide +kernel) (by decide +kernel), g_at 41 (by decide +kernel) (by decide +kernel), wc_Nm_hand, ⟨by decide +kernel, by decide +kernel, by decide +kernel⟩⟩
theorem ok_Nm_markAt : VOK y_Nm_markAt c_Nm_markAt 2 (some .long) 1 := ⟨g_at 402 (by decide +kernel) (by decide +kernel), g_at 403 (by decide +kernel) (by decide +kernel), g_at 41 (by decide +kernel) (by decide +kernel), wc_Nm_markAt, ⟨by decide +kernel, by decide +kernel, by decide +kernel⟩⟩
theorem ok_Nm_mark : VOK y_Nm_mark c_Nm_mark 3 (some .int) 2 := ⟨g_at 406 (by decide +kernel) (by decide +kernel), g_at 407 (by decide +kernel) (by decide +kernel), g_at 41 (by decide +kernel) (by decide +kernel), wc_Nm_mark, ⟨by decide +kernel, by decide +kernel, by decide +kernel⟩⟩
theorem ok_Nm_countOthersWithin : VOK y_Nm_countOthersWithin c_Nm_countOthersWithin 5 (some .int) 2 := ⟨g_at 412 (by decide +kernel) (by decide +kernel), g_at 2 (by decide +kernel) (by decide +kernel), g_at 41 (by decide +kernel) (by decide +kernel), wc_Nm_countOthersWithin, ⟨by decide +kernel, by decide +kernel, by decide +kernel⟩⟩
theorem ok_Nm_part : VOK y_Nm_part c_Nm_part 3 (some .int) 2 := ⟨g_at 416 (by decide +kernel) (by decide +kernel), g_at 417 (by decide +kernel) (by decide +kernel), g_at 41 (by decide +kernel) (by decide +kernel), wc_Nm_part, ⟨by decide +kernel, by decide +kernel, by decide +kernel⟩⟩
theorem ok_Nm_countWithPart : VOK y_Nm_countWithPart c_Nm_countWithPart 5 (some .int) 1 := ⟨g_at 421 (by decide +kernel) (by decide +kernel), g_at 3 (by decide +kernel) (by decide +kernel), g_at 41 (by decide +kernel) (by decide +kernel), wc_Nm_countWithPart, ⟨by decide +kernel, by decide +kernel, by decide +kernel⟩⟩
theorem ok_Nm_type : VOK y_Nm_type c_Nm_type 3 (some .int) 2 := ⟨g_at 424 (by decide +kernel) (by decide +kernel), g_at 425 (by decide +kernel) (by decide +kernel), g_at 41 (by decide +kernel) (by decide +kernel), wc_Nm_type, ⟨by decide +kernel, by decide +kernel, by decide +kernel⟩⟩
theorem ok_Pa_remember : VOK y_Pa_remember c_Pa_remember 2 none 1 := ⟨g_at 428 (by decide +kernel) (by decide +kernel), g_at 429 (by decide +kernel) (by decide +kernel), g_at 43 (by decide +kernel) (by decide +kernel), wc_Pa_remember, ⟨by decide +kernel, by decide +kernel, by decide +kernel⟩⟩
theorem ok_St_become : VOK y_St_become c_St_become 3 none 1 := ⟨g_at 432 (by decide +kernel) (by decide +kernel), g_at 433 (by decide +kernel) (by decide +kernel), g_at 42 (by decide +kernel) (by decide +kernel), wc_St_become, ⟨by decide +kernel, by decide +kernel, by decide +kernel⟩⟩
theorem ok_Ma_min : SOK y_Ma_min c_Ma_min 2 (some .int) 2 := ⟨g_at 436 (by decide +kernel) (by decide +kernel), g_at 53 (by decide +kernel) (by decide +kernel), wc_Ma_min, ⟨by decide +kernel, by decide +kernel, by decide +kernel⟩⟩
theorem ok_Pi_withRow : SOK y_Pi_withRow c_Pi_withRow 5 (some .long) 3 := ⟨g_at 439 (by decide +kernel) (by decide +kernel), g_at 54 (by decide +kernel) (by decide +kernel), wc_Pi_withRow, ⟨by decide +kernel, by decide +kernel, by decide +kernel⟩⟩
theorem ok_Nm_flip : VOK y_Nm_flip c_Nm_flip 2 (some .int) 1 := ⟨g_at 444 (by decide +kernel) (by decide +kernel), g_at 445 (by decide +kernel) (by decide +kernel), g_at 41 (by decide +kernel) (by decide +kernel), wc_Nm_flip, ⟨by decide +kernel, by decide +kernel, by decide +kernel⟩⟩
theorem ok_Nm_turn : VOK y_Nm_turn c_Nm_turn 1 (some .int) 0 := ⟨g_at 448 (by decide +kernel) (by decide +kernel), g_at 449 (by decide +kernel) (by decide +kernel), g_at 41 (by decide +kernel) (by decide +kernel), wc_Nm_turn, ⟨by decide +kernel, by decide +kernel, by decide +kernel⟩⟩
theorem ok_Pi_turned : SOK y_Pi_turned c_Pi_turned 6 (some .long) 1 := ⟨g_at 452 (by decide +kernel) (by decide +kernel), g_at 54 (by decide +kernel) (by decide +kernel), wc_Pi_turned, ⟨by decide +kernel, by decide +kernel, by decide +kernel⟩⟩
theorem ok_Pi_hasDot : SOK y_Pi_hasDot c_Pi_hasDot 4 (some .boolean) 3 := ⟨g_at 455 (by decide +kernel) (by decide +kernel), g_at 54 (by decide +kernel) (by decide +kernel), wc_Pi_hasDot, ⟨by decide +kernel, by decide +kernel, by decide +kernel⟩⟩
theorem ok_Pi_dotAt : SOK y_Pi_dotAt c_Pi_dotAt 2 (some .long) 2 := ⟨g_at 459 (by decide +kernel) (by decide +kernel), g_at 54 (by decide +kernel) (by decide +kernel), wc_Pi_dotAt, ⟨by decide +kernel, by decide +kernel, by decide +kernel⟩⟩
theorem ok_Pi_firstRow : SOK y_Pi_firstRow c_Pi_firstRow 2 (some .int) 1 := ⟨g_at 462 (by decide +kernel) (by decide +kernel), g_at 54 (by decide +kernel) (by decide +kernel), wc_Pi_firstRow, ⟨by decide +kernel, by decide +kernel, by decide +kernel⟩⟩
theorem ok_Nm_mirror : VOK y_Nm_mirror c_Nm_mirror 1 (some .int) 0 := ⟨g_at 465 (by decide +kernel) (by decide +kernel), g_at 466 (by decide +kernel) (by decide +kernel), g_at 41 (by decide +kernel) (by decide +kernel), wc_Nm_mirror, ⟨by decide +kernel, by decide +kernel, by decide +kernel⟩⟩
theorem ok_Pi_mirrored : SOK y_Pi_mirrored c_Pi_mirrored 6 (some .long) 1 := ⟨g_at 469 (by decide +kernel) (by decide +kernel), g_at 54 (by decide +kernel) (by decide +kernel), wc_Pi_mirrored, ⟨by decide +kernel, by decide +kernel, by decide +kernel⟩⟩
theorem ok_Nm_hold : VOK y_Nm_hold c_Nm_hold 3 (some .int) 1 := ⟨g_at 472 (by decide +kernel) (by decide +kernel), g_at 473 (by decide +kernel) (by decide +kernel), g_at 41 (by decide +kernel) (by decide +kernel), wc_Nm_hold, ⟨by decide +kernel, by decide +kernel, by decide +kernel⟩⟩
theorem ok_Nm_put : VOK y_Nm_put c_Nm_put 2 (some .int) 1 := ⟨g_at 476 (by decide +kernel) (by decide +kernel), g_at 477 (by decide +kernel) (by decide +kernel), g_at 41 (by decide +kernel) (by decide +kernel), wc_Nm_put, ⟨by decide +kernel, by decide +kernel, by decide +kernel⟩⟩
theorem ok_Nm_isKind : SOK y_Nm_isKind c_Nm_isKind 1 (some .boolean) 1 := ⟨g_at 480 (by decide +kernel) (by decide +kernel), g_at 41 (by decide +kernel) (by decide +kernel), wc_Nm_isKind, ⟨by decide +kernel, by decide +kernel, by decide +kernel⟩⟩
theorem ok_St_addHand : VOK y_St_addHand c_St_addHand 2 none 1 := ⟨g_at 485 (by decide +kernel) (by decide +kernel), g_at 486 (by decide +kernel) (by decide +kernel), g_at 42 (by decide +kernel) (by decide +kernel), wc_St_addHand, ⟨by decide +kernel, by decide +kernel, by decide +kernel⟩⟩
theorem ok_Nm_cut : VOK y_Nm_cut c_Nm_cut 3 (some .int) 1 := ⟨g_at 489 (by decide +kernel) (by decide +kernel), g_at 490 (by decide +kernel) (by decide +kernel), g_at 41 (by decide +kernel) (by decide +kernel), wc_Nm_cut, ⟨by decide +kernel, by decide +kernel, by decide +kernel⟩⟩
theorem ok_Nm_take : VOK y_Nm_take c_Nm_take 2 (some .int) 1 := ⟨g_at 493 (by decide +kernel) (by decide +kernel), g_at 494 (by decide +kernel) (by decide +kernel), g_at 41 (by decide +kernel) (by decide +kernel), wc_Nm_take, ⟨by decide +kernel, by decide +kernel, by decide +kernel⟩⟩
theorem ok_St_remove : VOK y_St_remove c_St_remove 3 none 1 := ⟨g_at 497 (by decide +kernel) (by decide +kernel), g_at 498 (by decide +kernel) (by decide +kernel), g_at 42 (by decide +kernel) (by decide +kernel), wc_St_remove, ⟨by decide +kernel, by decide +kernel, by decide +kernel⟩⟩
theorem ok_Nm_kind : VOK y_Nm_kind c_Nm_kind 4 (some .int) 2 := ⟨g_at 501 (by decide +kernel) (by decide +kernel), g_at 502 (by decide +kernel) (by decide +kernel), g_at 41 (by decide +kernel) (by decide +kernel), wc_Nm_kind, ⟨by decide +kernel, by decide +kernel, by decide +kernel⟩⟩
theorem ok_Nm_drift : VOK y_Nm_drift c_Nm_drift 3 (some .int) 1 := ⟨g_at 505 (by decide +kernel) (by decide +kernel), g_at 506 (by decide +kernel) (by decide +kernel), g_at 41 (by decide +kernel) (by decide +kernel), wc_Nm_drift, ⟨by decide +kernel, by decide +kernel, by decide +kernel⟩⟩
theorem ok_Nm_changeHandByDraws : VOK y_Nm_changeHandByDraws c_Nm_changeHandByDraws 2 none 0 := ⟨g_at 510 (by decide +kernel) (by decide +kernel), g_at 4 (by decide +kernel) (by decide +kernel), g_at 41 (by decide +kernel) (by decide +kernel), wc_Nm_changeHandByDraws, ⟨by decide +kernel, by decide +kernel, by decide +kernel⟩⟩
theorem ok_Dr_next : VOK y_Dr_next c_Dr_next 2 (some .int) 1 := ⟨g_at 513 (by decide +kernel) (by decide +kernel), g_at 514 (by decide +kernel) (by decide +kernel), g_at 50 (by decide +kernel) (by decide +kernel), wc_Dr_next, ⟨by decide +kernel, by decide +kernel, by decide +kernel⟩⟩
theorem ok_Pi_ofEqualRows : SOK y_Pi_ofEqualRows c_Pi_ofEqualRows 4 (some .long) 1 := ⟨g_at 522 (by decide +kernel) (by decide +kernel), g_at 54 (by decide +kernel) (by decide +kernel), wc_Pi_ofEqualRows, ⟨by decide +kernel, by decide +kernel, by decide +kernel⟩⟩
theorem ok_Nm_putIfUnlikeAll : VOK y_Nm_putIfUnlikeAll c_Nm_putIfUnlikeAll 1 none 0 := ⟨g_at 527 (by decide +kernel) (by decide +kernel), g_at 5 (by decide +kernel) (by decide +kernel), g_at 41 (by decide +kernel) (by decide +kernel), wc_Nm_putIfUnlikeAll, ⟨by decide +kernel, by decide +kernel, by decide +kernel⟩⟩
theorem ok_Nm_undo : VOK y_Nm_undo c_Nm_undo 2 (some .int) 1 := ⟨g_at 530 (by decide +kernel) (by decide +kernel), g_at 531 (by decide +kernel) (by decide +kernel), g_at 41 (by decide +kernel) (by decide +kernel), wc_Nm_undo, ⟨by decide +kernel, by decide +kernel, by decide +kernel⟩⟩
theorem ok_Pa_bringBack : VOK y_Pa_bringBack c_Pa_bringBack 3 none 2 := ⟨g_at 534 (by decide +kernel) (by decide +kernel), g_at 535 (by decide +kernel) (by decide +kernel), g_at 43 (by decide +kernel) (by decide +kernel), wc_Pa_bringBack, ⟨by decide +kernel, by decide +kernel, by decide +kernel⟩⟩
theorem ok_Nm_near : VOK y_Nm_near c_Nm_near 5 (some .long) 1 := ⟨g_at 538 (by decide +kernel) (by decide +kernel), g_at 539 (by decide +kernel) (by decide +kernel), g_at 41 (by decide +kernel) (by decide +kernel), wc_Nm_near, ⟨by decide +kernel, by decide +kernel, by decide +kernel⟩⟩
theorem ok_Nm_isDistance : SOK y_Nm_isDistance c_Nm_isDistance 1 (some .boolean) 1 := ⟨g_at 542 (by decide +kernel) (by decide +kernel), g_at 41 (by decide +kernel) (by decide +kernel), wc_Nm_isDistance, ⟨by decide +kernel, by decide +kernel, by decide +kernel⟩⟩
theorem ok_Nm_isNear : VOK y_Nm_isNear c_Nm_isNear 4 (some .boolean) 2 := ⟨g_at 546 (by decide +kernel) (by decide +kernel), g_at 6 (by decide +kernel) (by decide +kernel), g_at 41 (by decide +kernel) (by decide +kernel), wc_Nm_isNear, ⟨by decide +kernel, by decide +kernel, by decide +kernel⟩⟩
theorem ok_Nm_nearest : VOK y_Nm_nearest c_Nm_nearest 2 (some .int) 1 := ⟨g_at 549 (by decide +kernel) (by decide +kernel), g_at 550 (by decide +kernel) (by decide +kernel), g_at 41 (by decide +kernel) (by decide +kernel), wc_Nm_nearest, ⟨by decide +kernel, by decide +kernel, by decide +kernel⟩⟩
theorem ok_Nm_apart : VOK y_Nm_apart c_Nm_apart 3 (some .int) 2 := ⟨g_at 553 (by decide +kernel) (by decide +kernel), g_at 554 (by decide +kernel) (by decide +kernel), g_at 41 (by decide +kernel) (by decide +kernel), wc_Nm_apart, ⟨by decide +kernel, by decide +kernel, by decide +kernel⟩⟩
theorem ok_Nm_groups : VOK y_Nm_groups c_Nm_groups 2 (some .int) 1 := ⟨g_at 558 (by decide +kernel) (by decide +kernel), g_at 559 (by decide +kernel) (by decide +kernel), g_at 41 (by decide +kernel) (by decide +kernel), wc_Nm_groups, ⟨by decide +kernel, by decide +kernel, by decide +kernel⟩⟩
theorem ok_Gr_join : VOK y_Gr_join c_Gr_join 6 none 2 := ⟨g_at 562 (by decide +kernel) (by decide +kernel), g_at 563 (by decide +kernel) (by decide +kernel), g_at 46 (by decide +kernel) (by decide +kernel), wc_Gr_join, ⟨by decide +kernel, by decide +kernel, by decide +kernel⟩⟩
theorem ok_Gr_findClose : VOK y_Gr_findClose c_Gr_findClose 5 none 2 := ⟨g_at 566 (by decide +kernel) (by decide +kernel), g_at 567 (by decide +kernel) (by decide +kernel), g_at 46 (by decide +kernel) (by decide +kernel), wc_Gr_findClose, ⟨by decide +kernel, by decide +kernel, by decide +kernel⟩⟩
theorem ok_Gr_spread : VOK y_Gr_spread c_Gr_spread 9 (some .long) 2 := ⟨g_at 572 (by decide +kernel) (by decide +kernel), g_at 573 (by decide +kernel) (by decide +kernel), g_at 46 (by decide +kernel) (by decide +kernel), wc_Gr_spread, ⟨by decide +kernel, by decide +kernel, by decide +kernel⟩⟩
theorem ok_Nm_group : VOK y_Nm_group c_Nm_group 4 (some .int) 3 := ⟨g_at 576 (by decide +kernel) (by decide +kernel), g_at 577 (by decide +kernel) (by decide +kernel), g_at 41 (by decide +kernel) (by decide +kernel), wc_Nm_group, ⟨by decide +kernel, by decide +kernel, by decide +kernel⟩⟩
theorem ok_Gr_has : VOK y_Gr_has c_Gr_has 2 (some .boolean) 1 := ⟨g_at 580 (by decide +kernel) (by decide +kernel), g_at 581 (by decide +kernel) (by decide +kernel), g_at 46 (by decide +kernel) (by decide +kernel), wc_Gr_has, ⟨by decide +kernel, by decide +kernel, by decide +kernel⟩⟩
theorem ok_St_widthOf : VOK y_St_widthOf c_St_widthOf 6 (some .int) 1 := ⟨g_at 585 (by decide +kernel) (by decide +kernel), g_at 586 (by decide +kernel) (by decide +kernel), g_at 42 (by decide +kernel) (by decide +kernel), wc_St_widthOf, ⟨by decide +kernel, by decide +kernel, by decide +kernel⟩⟩
theorem ok_Nm_middle : VOK y_Nm_middle c_Nm_middle 3 (some .long) 2 := ⟨g_at 592 (by decide +kernel) (by decide +kernel), g_at 593 (by decide +kernel) (by decide +kernel), g_at 41 (by decide +kernel) (by decide +kernel), wc_Nm_middle, ⟨by decide +kernel, by decide +kernel, by decide +kernel⟩⟩
theorem ok_Co_mostOf : VOK y_Co_mostOf c_Co_mostOf 8 (some .long) 2 := ⟨g_at 596 (by decide +kernel) (by decide +kernel), g_at 597 (by decide +kernel) (by decide +kernel), g_at 47 (by decide +kernel) (by decide +kernel), wc_Co_mostOf, ⟨by decide +kernel, by decide +kernel, by decide +kernel⟩⟩
theorem ok_Nm_fewest : VOK y_Nm_fewest c_Nm_fewest 7 (some .int) 2 := ⟨g_at 601 (by decide +kernel) (by decide +kernel), g_at 602 (by decide +kernel) (by decide +kernel), g_at 41 (by decide +kernel) (by decide +kernel), wc_Nm_fewest, ⟨by decide +kernel, by decide +kernel, by decide +kernel⟩⟩
theorem ok_Pt_beginEvenly : VOK y_Pt_beginEvenly c_Pt_beginEvenly 9 none 2 := ⟨g_at 605 (by decide +kernel) (by decide +kernel), g_at 606 (by decide +kernel) (by decide +kernel), g_at 45 (by decide +kernel) (by decide +kernel), wc_Pt_beginEvenly, ⟨by decide +kernel, by decide +kernel, by decide +kernel⟩⟩
theorem ok_Pt_turnOf : SOK y_Pt_turnOf c_Pt_turnOf 3 (some .int) 3 := ⟨g_at 610 (by decide +kernel) (by decide +kernel), g_at 45 (by decide +kernel) (by decide +kernel), wc_Pt_turnOf, ⟨by decide +kernel, by decide +kernel, by decide +kernel⟩⟩
theorem ok_Nm_countAllLooks : VOK y_Nm_countAllLooks c_Nm_countAllLooks 5 (some .int) 1 := ⟨g_at 615 (by decide +kernel) (by decide +kernel), g_at 7 (by decide +kernel) (by decide +kernel), g_at 41 (by decide +kernel) (by decide +kernel), wc_Nm_countAllLooks, ⟨by decide +kernel, by decide +kernel, by decide +kernel⟩⟩
theorem ok_Nm_see : VOK y_Nm_see c_Nm_see 2 (some .int) 1 := ⟨g_at 618 (by decide +kernel) (by decide +kernel), g_at 619 (by decide +kernel) (by decide +kernel), g_at 41 (by decide +kernel) (by decide +kernel), wc_Nm_see, ⟨by decide +kernel, by decide +kernel, by decide +kernel⟩⟩
theorem ok_Si_add : VOK y_Si_add c_Si_add 4 none 2 := ⟨g_at 622 (by decide +kernel) (by decide +kernel), g_at 623 (by decide +kernel) (by decide +kernel), g_at 48 (by decide +kernel) (by decide +kernel), wc_Si_add, ⟨by decide +kernel, by decide +kernel, by decide +kernel⟩⟩
theorem ok_Nm_write : VOK y_Nm_write c_Nm_write 4 (some .int) 3 := ⟨g_at 626 (by decide +kernel) (by decide +kernel), g_at 627 (by decide +kernel) (by decide +kernel), g_at 41 (by decide +kernel) (by decide +kernel), wc_Nm_write, ⟨by decide +kernel, by decide +kernel, by decide +kernel⟩⟩
theorem ok_Bk_add : VOK y_Bk_add c_Bk_add 4 none 3 := ⟨g_at 630 (by decide +kernel) (by decide +kernel), g_at 631 (by decide +kernel) (by decide +kernel), g_at 49 (by decide +kernel) (by decide +kernel), wc_Bk_add, ⟨by decide +kernel, by decide +kernel, by decide +kernel⟩⟩
theorem ok_Nm_tear : VOK y_Nm_tear c_Nm_tear 2 (some .int) 0 := ⟨g_at 634 (by decide +kernel) (by decide +kernel), g_at 635 (by decide +kernel) (by decide +kernel), g_at 41 (by decide +kernel) (by decide +kernel), wc_Nm_tear, ⟨by decide +kernel, by decide +kernel, by decide +kernel⟩⟩
theorem ok_Nm_seed : VOK y_Nm_seed c_Nm_seed 3 (some .int) 1 := ⟨g_at 638 (by decide +kernel) (by decide +kernel), g_at 639 (by decide +kernel) (by decide +kernel), g_at 41 (by decide +kernel) (by decide +kernel), wc_Nm_seed, ⟨by decide +kernel, by decide +kernel, by decide +kernel⟩⟩
theorem ok_Nm_keep : VOK y_Nm_keep c_Nm_keep 2 (some .int) 1 := ⟨g_at 642 (by decide +kernel) (by decide +kernel), g_at 643 (by decide +kernel) (by decide +kernel), g_at 41 (by decide +kernel) (by decide +kernel), wc_Nm_keep, ⟨by decide +kernel, by decide +kernel, by decide +kernel⟩⟩
theorem ok_Pa_forget : VOK y_Pa_forget c_Pa_forget 1 none 0 := ⟨g_at 647 (by decide +kernel) (by decide +kernel), g_at 648 (by decide +kernel) (by decide +kernel), g_at 43 (by decide +kernel) (by decide +kernel), wc_Pa_forget, ⟨by decide +kernel, by decide +kernel, by decide +kernel⟩⟩
theorem ok_Nm_goBack : VOK y_Nm_goBack c_Nm_goBack 2 (some .int) 1 := ⟨g_at 651 (by decide +kernel) (by decide +kernel), g_at 652 (by decide +kernel) (by decide +kernel), g_at 41 (by decide +kernel) (by decide +kernel), wc_Nm_goBack, ⟨by decide +kernel, by decide +kernel, by decide +kernel⟩⟩
theorem ok_Mo_told : VOK y_Mo_told c_Mo_told 2 (some .int) 1 := ⟨g_at 721 (by decide +kernel) (by decide +kernel), g_at 722 (by decide +kernel) (by decide +kernel), g_at 51 (by decide +kernel) (by decide +kernel), wc_Mo_told, ⟨by decide +kernel, by decide +kernel, by decide +kernel⟩⟩
theorem ok_Mo_marks : VOK y_Mo_marks c_Mo_marks 1 (some .int) 0 := ⟨g_at 726 (by decide +kernel) (by decide +kernel), g_at 8 (by decide +kernel) (by decide +kernel), g_at 51 (by decide +kernel) (by decide +kernel), wc_Mo_marks, ⟨by decide +kernel, by decide +kernel, by decide +kernel⟩⟩
theorem ok_Mo_parts : VOK y_Mo_parts c_Mo_parts 1 (some .int) 0 := ⟨g_at 730 (by decide +kernel) (by decide +kernel), g_at 9 (by decide +kernel) (by decide +kernel), g_at 51 (by decide +kernel) (by decide +kernel), wc_Mo_parts, ⟨by decide +kernel, by decide +kernel, by decide +kernel⟩⟩
theorem ok_Mo_ones : SOK y_Mo_ones c_Mo_ones 4 (some .int) 1 := ⟨g_at 733 (by decide +kernel) (by decide +kernel), g_at 51 (by decide +kernel) (by decide +kernel), wc_Mo_ones, ⟨by decide +kernel, by decide +kernel, by decide +kernel⟩⟩
theorem ok_Mo_like : VOK y_Mo_like c_Mo_like 5 (some .int) 1 := ⟨g_at 737 (by decide +kernel) (by decide +kernel), g_at 10 (by decide +kernel) (by decide +kernel), g_at 51 (by decide +kernel) (by decide +kernel), wc_Mo_like, ⟨by decide +kernel, by decide +kernel, by decide +kernel⟩⟩
theorem ok_Mo_own : VOK y_Mo_own c_Mo_own 2 (some .long) 1 := ⟨g_at 741 (by decide +kernel) (by decide +kernel), g_at 11 (by decide +kernel) (by decide +kernel), g_at 51 (by decide +kernel) (by decide +kernel), wc_Mo_own, ⟨by decide +kernel, by decide +kernel, by decide +kernel⟩⟩
theorem ok_Mo_looked : VOK y_Mo_looked c_Mo_looked 5 (some .int) 1 := ⟨g_at 745 (by decide +kernel) (by decide +kernel), g_at 12 (by decide +kernel) (by decide +kernel), g_at 51 (by decide +kernel) (by decide +kernel), wc_Mo_looked, ⟨by decide +kernel, by decide +kernel, by decide +kernel⟩⟩
theorem ok_Mo_isLooked : SOK y_Mo_isLooked c_Mo_isLooked 11 (some .boolean) 3 := ⟨g_at 748 (by decide +kernel) (by decide +kernel), g_at 51 (by decide +kernel) (by decide +kernel), wc_Mo_isLooked, ⟨by decide +kernel, by decide +kernel, by decide +kernel⟩⟩
theorem ok_Mo_has : SOK y_Mo_has c_Mo_has 3 (some .boolean) 2 := ⟨g_at 751 (by decide +kernel) (by decide +kernel), g_at 51 (by decide +kernel) (by decide +kernel), wc_Mo_has, ⟨by decide +kernel, by decide +kernel, by decide +kernel⟩⟩
theorem ok_Mo_off : VOK y_Mo_off c_Mo_off 2 (some .int) 1 := ⟨g_at 755 (by decide +kernel) (by decide +kernel), g_at 13 (by decide +kernel) (by decide +kernel), g_at 51 (by decide +kernel) (by decide +kernel), wc_Mo_off, ⟨by decide +kernel, by decide +kernel, by decide +kernel⟩⟩
theorem ok_Mo_first : VOK y_Mo_first c_Mo_first 3 (some .int) 1 := ⟨g_at 759 (by decide +kernel) (by decide +kernel), g_at 14 (by decide +kernel) (by decide +kernel), g_at 51 (by decide +kernel) (by decide +kernel), wc_Mo_first, ⟨by decide +kernel, by decide +kernel, by decide +kernel⟩⟩
theorem ok_Mo_nearestOf : VOK y_Mo_nearestOf c_Mo_nearestOf 4 (some .int) 1 := ⟨g_at 763 (by decide +kernel) (by decide +kernel), g_at 15 (by decide +kernel) (by decide +kernel), g_at 51 (by decide +kernel) (by decide +kernel), wc_Mo_nearestOf, ⟨by decide +kernel, by decide +kernel, by decide +kernel⟩⟩
theorem ok_Mo_ahead : VOK y_Mo_ahead c_Mo_ahead 4 (some .int) 1 := ⟨g_at 767 (by decide +kernel) (by decide +kernel), g_at 16 (by decide +kernel) (by decide +kernel), g_at 51 (by decide +kernel) (by decide +kernel), wc_Mo_ahead, ⟨by decide +kernel, by decide +kernel, by decide +kernel⟩⟩
theorem ok_Mo_dead : VOK y_Mo_dead c_Mo_dead 3 (some .int) 0 := ⟨g_at 771 (by decide +kernel) (by decide +kernel), g_at 17 (by decide +kernel) (by decide +kernel), g_at 51 (by decide +kernel) (by decide +kernel), wc_Mo_dead, ⟨by decide +kernel, by decide +kernel, by decide +kernel⟩⟩
theorem ok_Mo_isDead : VOK y_Mo_isDead c_Mo_isDead 4 (some .boolean) 1 := ⟨g_at 775 (by decide +kernel) (by decide +kernel), g_at 18 (by decide +kernel) (by decide +kernel), g_at 51 (by decide +kernel) (by decide +kernel), wc_Mo_isDead, ⟨by decide +kernel, by decide +kernel, by decide +kernel⟩⟩
theorem ok_Mo_together : VOK y_Mo_together c_Mo_together 3 (some .int) 0 := ⟨g_at 779 (by decide +kernel) (by decide +kernel), g_at 19 (by decide +kernel) (by decide +kernel), g_at 51 (by decide +kernel) (by decide +kernel), wc_Mo_together, ⟨by decide +kernel, by decide +kernel, by decide +kernel⟩⟩
theorem ok_Mo_areTogether : VOK y_Mo_areTogether c_Mo_areTogether 7 (some .boolean) 2 := ⟨g_at 783 (by decide +kernel) (by decide +kernel), g_at 20 (by decide +kernel) (by decide +kernel), g_at 51 (by decide +kernel) (by decide +kernel), wc_Mo_areTogether, ⟨by decide +kernel, by decide +kernel, by decide +kernel⟩⟩
theorem ok_Mo_could : VOK y_Mo_could c_Mo_could 5 (some .int) 1 := ⟨g_at 787 (by decide +kernel) (by decide +kernel), g_at 21 (by decide +kernel) (by decide +kernel), g_at 51 (by decide +kernel) (by decide +kernel), wc_Mo_could, ⟨by decide +kernel, by decide +kernel, by decide +kernel⟩⟩
theorem ok_Mo_couldBe : VOK y_Mo_couldBe c_Mo_couldBe 4 (some .boolean) 1 := ⟨g_at 791 (by decide +kernel) (by decide +kernel), g_at 22 (by decide +kernel) (by decide +kernel), g_at 51 (by decide +kernel) (by decide +kernel), wc_Mo_couldBe, ⟨by decide +kernel, by decide +kernel, by decide +kernel⟩⟩
theorem ok_Mo_asked : VOK y_Mo_asked c_Mo_asked 7 (some .int) 0 := ⟨g_at 795 (by decide +kernel) (by decide +kernel), g_at 23 (by decide +kernel) (by decide +kernel), g_at 51 (by decide +kernel) (by decide +kernel), wc_Mo_asked, ⟨by decide +kernel, by decide +kernel, by decide +kernel⟩⟩
theorem ok_Mo_wrong : VOK y_Mo_wrong c_Mo_wrong 3 (some .int) 0 := ⟨g_at 799 (by decide +kernel) (by decide +kernel), g_at 24 (by decide +kernel) (by decide +kernel), g_at 51 (by decide +kernel) (by decide +kernel), wc_Mo_wrong, ⟨by decide +kernel, by decide +kernel, by decide +kernel⟩⟩
theorem ok_Mo_isMark : VOK y_Mo_isMark c_Mo_isMark 2 (some .boolean) 1 := ⟨g_at 803 (by decide +kernel) (by decide +kernel), g_at 25 (by decide +kernel) (by decide +kernel), g_at 51 (by decide +kernel) (by decide +kernel), wc_Mo_isMark, ⟨by decide +kernel, by decide +kernel, by decide +kernel⟩⟩
theorem ok_Mo_in : SOK y_Mo_in c_Mo_in 6 (some .boolean) 3 := ⟨g_at 806 (by decide +kernel) (by decide +kernel), g_at 51 (by decide +kernel) (by decide +kernel), wc_Mo_in, ⟨by decide +kernel, by decide +kernel, by decide +kernel⟩⟩
theorem ok_Mo_hand : VOK y_Mo_hand c_Mo_hand 1 (some .long) 0 := ⟨g_at 810 (by decide +kernel) (by decide +kernel), g_at 811 (by decide +kernel) (by decide +kernel), g_at 51 (by decide +kernel) (by decide +kernel), wc_Mo_hand, ⟨by decide +kernel, by decide +kernel, by decide +kernel⟩⟩
theorem ok_Mo_markAt : VOK y_Mo_markAt c_Mo_markAt 2 (some .long) 1 := ⟨g_at 814 (by decide +kernel) (by decide +kernel), g_at 815 (by decide +kernel) (by decide +kernel), g_at 51 (by decide +kernel) (by decide +kernel), wc_Mo_markAt, ⟨by decide +kernel, by decide +kernel, by decide +kernel⟩⟩
theorem ok_Mo_mark : VOK y_Mo_mark c_Mo_mark 5 (some .int) 2 := ⟨g_at 818 (by decide +kernel) (by decide +kernel), g_at 819 (by decide +kernel) (by decide +kernel), g_at 51 (by decide +kernel) (by decide +kernel), wc_Mo_mark, ⟨by decide +kernel, by decide +kernel, by decide +kernel⟩⟩
theorem ok_Mo_part : VOK y_Mo_part c_Mo_part 3 (some .int) 2 := ⟨g_at 823 (by decide +kernel) (by decide +kernel), g_at 824 (by decide +kernel) (by decide +kernel), g_at 51 (by decide +kernel) (by decide +kernel), wc_Mo_part, ⟨by decide +kernel, by decide +kernel, by decide +kernel⟩⟩
theorem ok_Mo_beginOf : VOK y_Mo_beginOf c_Mo_beginOf 4 (some .int) 1 := ⟨g_at 828 (by decide +kernel) (by decide +kernel), g_at 26 (by decide +kernel) (by decide +kernel), g_at 51 (by decide +kernel) (by decide +kernel), wc_Mo_beginOf, ⟨by decide +kernel, by decide +kernel, by decide +kernel⟩⟩
theorem ok_Mo_endOf : VOK y_Mo_endOf c_Mo_endOf 2 (some .int) 1 := ⟨g_at 832 (by decide +kernel) (by decide +kernel), g_at 27 (by decide +kernel) (by decide +kernel), g_at 51 (by decide +kernel) (by decide +kernel), wc_Mo_endOf, ⟨by decide +kernel, by decide +kernel, by decide +kernel⟩⟩
theorem ok_Mo_have : VOK y_Mo_have c_Mo_have 6 (some .int) 1 := ⟨g_at 836 (by decide +kernel) (by decide +kernel), g_at 28 (by decide +kernel) (by decide +kernel), g_at 51 (by decide +kernel) (by decide +kernel), wc_Mo_have, ⟨by decide +kernel, by decide +kernel, by decide +kernel⟩⟩
theorem ok_Mo_type : VOK y_Mo_type c_Mo_type 3 (some .int) 2 := ⟨g_at 839 (by decide +kernel) (by decide +kernel), g_at 840 (by decide +kernel) (by decide +kernel), g_at 51 (by decide +kernel) (by decide +kernel), wc_Mo_type, ⟨by decide +kernel, by decide +kernel, by decide +kernel⟩⟩
theorem ok_Mo_note : VOK y_Mo_note c_Mo_note 2 none 0 := ⟨g_at 846 (by decide +kernel) (by decide +kernel), g_at 29 (by decide +kernel) (by decide +kernel), g_at 51 (by decide +kernel) (by decide +kernel), wc_Mo_note, ⟨by decide +kernel, by decide +kernel, by decide +kernel⟩⟩
theorem ok_Mo_lay : VOK y_Mo_lay c_Mo_lay 5 none 3 := ⟨g_at 850 (by decide +kernel) (by decide +kernel), g_at 30 (by decide +kernel) (by decide +kernel), g_at 51 (by decide +kernel) (by decide +kernel), wc_Mo_lay, ⟨by decide +kernel, by decide +kernel, by decide +kernel⟩⟩
theorem ok_Mo_flip : VOK y_Mo_flip c_Mo_flip 2 (some .int) 1 := ⟨g_at 854 (by decide +kernel) (by decide +kernel), g_at 855 (by decide +kernel) (by decide +kernel), g_at 51 (by decide +kernel) (by decide +kernel), wc_Mo_flip, ⟨by decide +kernel, by decide +kernel, by decide +kernel⟩⟩
theorem ok_Mo_turn : VOK y_Mo_turn c_Mo_turn 4 (some .int) 0 := ⟨g_at 859 (by decide +kernel) (by decide +kernel), g_at 860 (by decide +kernel) (by decide +kernel), g_at 51 (by decide +kernel) (by decide +kernel), wc_Mo_turn, ⟨by decide +kernel, by decide +kernel, by decide +kernel⟩⟩
theorem ok_Mo_row : VOK y_Mo_row c_Mo_row 1 (some .int) 0 := ⟨g_at 864 (by decide +kernel) (by decide +kernel), g_at 31 (by decide +kernel) (by decide +kernel), g_at 51 (by decide +kernel) (by decide +kernel), wc_Mo_row, ⟨by decide +kernel, by decide +kernel, by decide +kernel⟩⟩
theorem ok_Mo_mirror : VOK y_Mo_mirror c_Mo_mirror 4 (some .int) 0 := ⟨g_at 867 (by decide +kernel) (by decide +kernel), g_at 868 (by decide +kernel) (by decide +kernel), g_at 51 (by decide +kernel) (by decide +kernel), wc_Mo_mirror, ⟨by decide +kernel, by decide +kernel, by decide +kernel⟩⟩
theorem ok_Mo_hold : VOK y_Mo_hold c_Mo_hold 3 (some .int) 1 := ⟨g_at 871 (by decide +kernel) (by decide +kernel), g_at 872 (by decide +kernel) (by decide +kernel), g_at 51 (by decide +kernel) (by decide +kernel), wc_Mo_hold, ⟨by decide +kernel, by decide +kernel, by decide +kernel⟩⟩
theorem ok_Mo_put : VOK y_Mo_put c_Mo_put 2 (some .int) 1 := ⟨g_at 875 (by decide +kernel) (by decide +kernel), g_at 876 (by decide +kernel) (by decide +kernel), g_at 51 (by decide +kernel) (by decide +kernel), wc_Mo_put, ⟨by decide +kernel, by decide +kernel, by decide +kernel⟩⟩
theorem ok_Mo_add : VOK y_Mo_add c_Mo_add 2 none 1 := ⟨g_at 883 (by decide +kernel) (by decide +kernel), g_at 32 (by decide +kernel) (by decide +kernel), g_at 51 (by decide +kernel) (by decide +kernel), wc_Mo_add, ⟨by decide +kernel, by decide +kernel, by decide +kernel⟩⟩
theorem ok_Mo_cut : VOK y_Mo_cut c_Mo_cut 3 (some .int) 1 := ⟨g_at 886 (by decide +kernel) (by decide +kernel), g_at 887 (by decide +kernel) (by decide +kernel), g_at 51 (by decide +kernel) (by decide +kernel), wc_Mo_cut, ⟨by decide +kernel, by decide +kernel, by decide +kernel⟩⟩
theorem ok_Mo_take : VOK y_Mo_take c_Mo_take 4 (some .int) 1 := ⟨g_at 890 (by decide +kernel) (by decide +kernel), g_at 891 (by decide +kernel) (by decide +kernel), g_at 51 (by decide +kernel) (by decide +kernel), wc_Mo_take, ⟨by decide +kernel, by decide +kernel, by decide +kernel⟩⟩
theorem ok_Mo_kind : VOK y_Mo_kind c_Mo_kind 4 (some .int) 2 := ⟨g_at 894 (by decide +kernel) (by decide +kernel), g_at 895 (by decide +kernel) (by decide +kernel), g_at 51 (by decide +kernel) (by decide +kernel), wc_Mo_kind, ⟨by decide +kernel, by decide +kernel, by decide +kernel⟩⟩
theorem ok_Mo_drift : VOK y_Mo_drift c_Mo_drift 3 (some .int) 1 := ⟨g_at 898 (by decide +kernel) (by decide +kernel), g_at 899 (by decide +kernel) (by decide +kernel), g_at 51 (by decide +kernel) (by decide +kernel), wc_Mo_drift, ⟨by decide +kernel, by decide +kernel, by decide +kernel⟩⟩
theorem ok_Mo_lot : VOK y_Mo_lot c_Mo_lot 8 none 0 := ⟨g_at 904 (by decide +kernel) (by decide +kernel), g_at 33 (by decide +kernel) (by decide +kernel), g_at 51 (by decide +kernel) (by decide +kernel), wc_Mo_lot, ⟨by decide +kernel, by decide +kernel, by decide +kernel⟩⟩
theorem ok_Mo_draw : VOK y_Mo_draw c_Mo_draw 2 (some .int) 1 := ⟨g_at 908 (by decide +kernel) (by decide +kernel), g_at 34 (by decide +kernel) (by decide +kernel), g_at 51 (by decide +kernel) (by decide +kernel), wc_Mo_draw, ⟨by decide +kernel, by decide +kernel, by decide +kernel⟩⟩
theorem ok_Mo_undo : VOK y_Mo_undo c_Mo_undo 2 (some .int) 1 := ⟨g_at 915 (by decide +kernel) (by decide +kernel), g_at 916 (by decide +kernel) (by decide +kernel), g_at 51 (by decide +kernel) (by decide +kernel), wc_Mo_undo, ⟨by decide +kernel, by decide +kernel, by decide +kernel⟩⟩
theorem ok_Mo_become : VOK y_Mo_become c_Mo_become 5 none 3 := ⟨g_at 920 (by decide +kernel) (by decide +kernel), g_at 35 (by decide +kernel) (by decide +kernel), g_at 51 (by decide +kernel) (by decide +kernel), wc_Mo_become, ⟨by decide +kernel, by decide +kernel, by decide +kernel⟩⟩
theorem ok_Mo_near : VOK y_Mo_near c_Mo_near 7 (some .long) 1 := ⟨g_at 923 (by decide +kernel) (by decide +kernel), g_at 924 (by decide +kernel) (by decide +kernel), g_at 51 (by decide +kernel) (by decide +kernel), wc_Mo_near, ⟨by decide +kernel, by decide +kernel, by decide +kernel⟩⟩
theorem ok_Mo_nearest : VOK y_Mo_nearest c_Mo_nearest 2 (some .int) 1 := ⟨g_at 928 (by decide +kernel) (by decide +kernel), g_at 929 (by decide +kernel) (by decide +kernel), g_at 51 (by decide +kernel) (by decide +kernel), wc_Mo_nearest, ⟨by decide +kernel, by decide +kernel, by decide +kernel⟩⟩
theorem ok_Mo_apart : VOK y_Mo_apart c_Mo_apart 3 (some .int) 2 := ⟨g_at 932 (by decide +kernel) (by decide +kernel), g_at 933 (by decide +kernel) (by decide +kernel), g_at 51 (by decide +kernel) (by decide +kernel), wc_Mo_apart, ⟨by decide +kernel, by decide +kernel, by decide +kernel⟩⟩
theorem ok_Mo_groups : VOK y_Mo_groups c_Mo_groups 2 (some .int) 1 := ⟨g_at 936 (by decide +kernel) (by decide +kernel), g_at 937 (by decide +kernel) (by decide +kernel), g_at 51 (by decide +kernel) (by decide +kernel), wc_Mo_groups, ⟨by decide +kernel, by decide +kernel, by decide +kernel⟩⟩
theorem ok_Mo_layGroups : VOK y_Mo_layGroups c_Mo_layGroups 5 (some .int) 1 := ⟨g_at 941 (by decide +kernel) (by decide +kernel), g_at 36 (by decide +kernel) (by decide +kernel), g_at 51 (by decide +kernel) (by decide +kernel), wc_Mo_layGroups, ⟨by decide +kernel, by decide +kernel, by decide +kernel⟩⟩
theorem ok_Mo_group : VOK y_Mo_group c_Mo_group 5 (some .int) 3 := ⟨g_at 944 (by decide +kernel) (by decide +kernel), g_at 945 (by decide +kernel) (by decide +kernel), g_at 51 (by decide +kernel) (by decide +kernel), wc_Mo_group, ⟨by decide +kernel, by decide +kernel, by decide +kernel⟩⟩
theorem ok_Mo_leastOf : VOK y_Mo_leastOf c_Mo_leastOf 4 (some .int) 1 := ⟨g_at 949 (by decide +kernel) (by decide +kernel), g_at 37 (by decide +kernel) (by decide +kernel), g_at 51 (by decide +kernel) (by decide +kernel), wc_Mo_leastOf, ⟨by decide +kernel, by decide +kernel, by decide +kernel⟩⟩
theorem ok_Mo_manyOf : VOK y_Mo_manyOf c_Mo_manyOf 4 (some .int) 1 := ⟨g_at 953 (by decide +kernel) (by decide +kernel), g_at 38 (by decide +kernel) (by decide +kernel), g_at 51 (by decide +kernel) (by decide +kernel), wc_Mo_manyOf, ⟨by decide +kernel, by decide +kernel, by decide +kernel⟩⟩
theorem ok_Mo_wide : VOK y_Mo_wide c_Mo_wide 6 (some .int) 1 := ⟨g_at 957 (by decide +kernel) (by decide +kernel), g_at 39 (by decide +kernel) (by decide +kernel), g_at 51 (by decide +kernel) (by decide +kernel), wc_Mo_wide, ⟨by decide +kernel, by decide +kernel, by decide +kernel⟩⟩
theorem ok_Mo_middle : VOK y_Mo_middle c_Mo_middle 9 (some .long) 2 := ⟨g_at 960 (by decide +kernel) (by decide +kernel), g_at 961 (by decide +kernel) (by decide +kernel), g_at 51 (by decide +kernel) (by decide +kernel), wc_Mo_middle, ⟨by decide +kernel, by decide +kernel, by decide +kernel⟩⟩
theorem ok_Mo_fewest : VOK y_Mo_fewest c_Mo_fewest 9 (some .int) 2 := ⟨g_at 964 (by decide +kernel) (by decide +kernel), g_at 965 (by decide +kernel) (by decide +kernel), g_at 51 (by decide +kernel) (by decide +kernel), wc_Mo_fewest, ⟨by decide +kernel, by decide +kernel, by decide +kernel⟩⟩
theorem ok_Mo_cutBy : SOK y_Mo_cutBy c_Mo_cutBy 6 (some .long) 2 := ⟨g_at 969 (by decide +kernel) (by decide +kernel), g_at 51 (by decide +kernel) (by decide +kernel), wc_Mo_cutBy, ⟨by decide +kernel, by decide +kernel, by decide +kernel⟩⟩
theorem ok_Mo_isMore : SOK y_Mo_isMore c_Mo_isMore 5 (some .boolean) 3 := ⟨g_at 972 (by decide +kernel) (by decide +kernel), g_at 51 (by decide +kernel) (by decide +kernel), wc_Mo_isMore, ⟨by decide +kernel, by decide +kernel, by decide +kernel⟩⟩
theorem ok_Mo_see : VOK y_Mo_see c_Mo_see 2 (some .int) 1 := ⟨g_at 975 (by decide +kernel) (by decide +kernel), g_at 976 (by decide +kernel) (by decide +kernel), g_at 51 (by decide +kernel) (by decide +kernel), wc_Mo_see, ⟨by decide +kernel, by decide +kernel, by decide +kernel⟩⟩
theorem ok_Mo_write : VOK y_Mo_write c_Mo_write 4 (some .int) 3 := ⟨g_at 979 (by decide +kernel) (by decide +kernel), g_at 980 (by decide +kernel) (by decide +kernel), g_at 51 (by decide +kernel) (by decide +kernel), wc_Mo_write, ⟨by decide +kernel, by decide +kernel, by decide +kernel⟩⟩
theorem ok_Mo_tear : VOK y_Mo_tear c_Mo_tear 2 (some .int) 0 := ⟨g_at 983 (by decide +kernel) (by decide +kernel), g_at 984 (by decide +kernel) (by decide +kernel), g_at 51 (by decide +kernel) (by decide +kernel), wc_Mo_tear, ⟨by decide +kernel, by decide +kernel, by decide +kernel⟩⟩
theorem ok_Mo_seed : VOK y_Mo_seed c_Mo_seed 3 (some .int) 1 := ⟨g_at 987 (by decide +kernel) (by decide +kernel), g_at 988 (by decide +kernel) (by decide +kernel), g_at 51 (by decide +kernel) (by decide +kernel), wc_Mo_seed, ⟨by decide +kernel, by decide +kernel, by decide +kernel⟩⟩
theorem ok_Mo_keep : VOK y_Mo_keep c_Mo_keep 2 (some .int) 1 := ⟨g_at 991 (by decide +kernel) (by decide +kernel), g_at 992 (by decide +kernel) (by decide +kernel), g_at 51 (by decide +kernel) (by decide +kernel), wc_Mo_keep, ⟨by decide +kernel, by decide +kernel, by decide +kernel⟩⟩
theorem ok_Mo_goBack : VOK y_Mo_goBack c_Mo_goBack 2 (some .int) 1 := ⟨g_at 995 (by decide +kernel) (by decide +kernel), g_at 996 (by decide +kernel) (by decide +kernel), g_at 51 (by decide +kernel) (by decide +kernel), wc_Mo_goBack, ⟨by decide +kernel, by decide +kernel, by decide +kernel⟩⟩
theorem e_0 {o : OM} (f : Nat → Int32) (g : Nat → Int64) : cE o f g 0 = .inr (9, fNm o 0 f g) := rfl
theorem b_0 : 0 < 111 := by decide
theorem e_1 {o : OM} (f : Nat → Int32) (g : Nat → Int64) : cE o f g 1 = .inr (8, fSt o 1 f g) := rfl
theorem b_1 : 1 < 111 := by decide
theorem e_2 {o : OM} (f : Nat → Int32) (g : Nat → Int64) : cE o f g 2 = aJ o 40 g := rfl
theorem b_2 : 2 < 111 := by decide
theorem e_3 {o : OM} (f : Nat → Int32) (g : Nat → Int64) : cE o f g 3 = aI o 40 f := rfl
theorem b_3 : 3 < 111 := by decide
theorem e_4 {o : OM} (f : Nat → Int32) (g : Nat → Int64) : cE o f g 4 = .inr (6, fPa o 4 f g) := rfl
theorem b_4 : 4 < 111 := by decide
theorem e_5 {o : OM} (f : Nat → Int32) (g : Nat → Int64) : cE o f g 5 = aSt o 20 (fun k => some (ads o (6 + 3 * k))) := rfl
theorem b_5 : 5 < 111 := by decide
theorem e_66 {o : OM} (f : Nat → Int32) (g : Nat → Int64) : cE o f g 66 = aIm o 2 (fun k => some (ads o (67 + 4 * k))) := rfl
theorem b_66 : 66 < 111 := by decide
theorem e_67 {o : OM} (f : Nat → Int32) (g : Nat → Int64) : cE o f g 67 = .inr (4, fIm o 67 f g) := rfl
theorem b_67 : 67 < 111 := by decide
theorem e_68 {o : OM} (f : Nat → Int32) (g : Nat → Int64) : cE o f g 68 = .inr (8, fSt o 68 f g) := rfl
theorem b_68 : 68 < 111 := by decide
theorem e_69 {o : OM} (f : Nat → Int32) (g : Nat → Int64) : cE o f g 69 = aJ o 40 g := rfl
theorem b_69 : 69 < 111 := by decide
theorem e_70 {o : OM} (f : Nat → Int32) (g : Nat → Int64) : cE o f g 70 = aI o 40 f := rfl
theorem b_70 : 70 < 111 := by decide
theorem e_71 {o : OM} (f : Nat → Int32) (g : Nat → Int64) : cE o f g 71 = .inr (4, fIm o 71 f g) := rfl
theorem b_71 : 71 < 111 := by decide
theorem e_72 {o : OM} (f : Nat → Int32) (g : Nat → Int64) : cE o f g 72 = .inr (8, fSt o 72 f g) := rfl
theorem b_72 : 72 < 111 := by decide
theorem e_73 {o : OM} (f : Nat → Int32) (g : Nat → Int64) : cE o f g 73 = aJ o 40 g := rfl
theorem b_73 : 73 < 111 := by decide
theorem e_74 {o : OM} (f : Nat → Int32) (g : Nat → Int64) : cE o f g 74 = aI o 40 f := rfl
theorem b_74 : 74 < 111 := by decide
theorem e_75 {o : OM} (f : Nat → Int32) (g : Nat → Int64) : cE o f g 75 = .inr (5, fPt o 75 f g) := rfl
theorem b_75 : 75 < 111 := by decide
theorem e_76 {o : OM} (f : Nat → Int32) (g : Nat → Int64) : cE o f g 76 = aI o 8 f := rfl
theorem b_76 : 76 < 111 := by decide
theorem e_77 {o : OM} (f : Nat → Int32) (g : Nat → Int64) : cE o f g 77 = aJ o 8 g := rfl
theorem b_77 : 77 < 111 := by decide
theorem e_78 {o : OM} (f : Nat → Int32) (g : Nat → Int64) : cE o f g 78 = .inr (5, fPt o 78 f g) := rfl
theorem b_78 : 78 < 111 := by decide
theorem e_79 {o : OM} (f : Nat → Int32) (g : Nat → Int64) : cE o f g 79 = aI o 8 f := rfl
theorem b_79 : 79 < 111 := by decide
theorem e_80 {o : OM} (f : Nat → Int32) (g : Nat → Int64) : cE o f g 80 = aJ o 8 g := rfl
theorem b_80 : 80 < 111 := by decide
theorem e_81 {o : OM} (f : Nat → Int32) (g : Nat → Int64) : cE o f g 81 = .inr (3, fGr o 81 f g) := rfl
theorem b_81 : 81 < 111 := by decide
theorem e_82 {o : OM} (f : Nat → Int32) (g : Nat → Int64) : cE o f g 82 = aJ o 40 g := rfl
theorem b_82 : 82 < 111 := by decide
theorem e_83 {o : OM} (f : Nat → Int32) (g : Nat → Int64) : cE o f g 83 = aJ o 40 g := rfl
theorem b_83 : 83 < 111 := by decide
theorem e_84 {o : OM} (f : Nat → Int32) (g : Nat → Int64) : cE o f g 84 = .inr (1, fCo o 84 f g) := rfl
theorem b_84 : 84 < 111 := by decide
theorem e_85 {o : OM} (f : Nat → Int32) (g : Nat → Int64) : cE o f g 85 = aJ o 64 g := rfl
theorem b_85 : 85 < 111 := by decide
theorem e_86 {o : OM} (f : Nat → Int32) (g : Nat → Int64) : cE o f g 86 = .inr (7, fSi o 86 f g) := rfl
theorem b_86 : 86 < 111 := by decide
theorem e_87 {o : OM} (f : Nat → Int32) (g : Nat → Int64) : cE o f g 87 = aJ o 6 g := rfl
theorem b_87 : 87 < 111 := by decide
theorem e_88 {o : OM} (f : Nat → Int32) (g : Nat → Int64) : cE o f g 88 = aI o 6 f := rfl
theorem b_88 : 88 < 111 := by decide
theorem e_89 {o : OM} (f : Nat → Int32) (g : Nat → Int64) : cE o f g 89 = aI o 65 f := rfl
theorem b_89 : 89 < 111 := by decide
theorem e_90 {o : OM} (f : Nat → Int32) (g : Nat → Int64) : cE o f g 90 = .inr (0, fBk o 90 f g) := rfl
theorem b_90 : 90 < 111 := by decide
theorem e_91 {o : OM} (f : Nat → Int32) (g : Nat → Int64) : cE o f g 91 = aI o 20 f := rfl
theorem b_91 : 91 < 111 := by decide
theorem e_92 {o : OM} (f : Nat → Int32) (g : Nat → Int64) : cE o f g 92 = aI o 20 f := rfl
theorem b_92 : 92 < 111 := by decide
theorem e_93 {o : OM} (f : Nat → Int32) (g : Nat → Int64) : cE o f g 93 = aI o 20 f := rfl
theorem b_93 : 93 < 111 := by decide
theorem e_94 {o : OM} (f : Nat → Int32) (g : Nat → Int64) : cE o f g 94 = .inr (2, fDr o 94 f g) := rfl
theorem b_94 : 94 < 111 := by decide
theorem e_95 {o : OM} (f : Nat → Int32) (g : Nat → Int64) : cE o f g 95 = .inr (10, fMo o 95 f g) := rfl
theorem b_95 : 95 < 111 := by decide
theorem e_96 {o : OM} (f : Nat → Int32) (g : Nat → Int64) : cE o f g 96 = aJ o 43 g := rfl
theorem b_96 : 96 < 111 := by decide
theorem e_97 {o : OM} (f : Nat → Int32) (g : Nat → Int64) : cE o f g 97 = aI o 40 f := rfl
theorem b_97 : 97 < 111 := by decide
theorem e_98 {o : OM} (f : Nat → Int32) (g : Nat → Int64) : cE o f g 98 = aJ o 860 g := rfl
theorem b_98 : 98 < 111 := by decide
theorem e_99 {o : OM} (f : Nat → Int32) (g : Nat → Int64) : cE o f g 99 = aI o 800 f := rfl
theorem b_99 : 99 < 111 := by decide
theorem e_100 {o : OM} (f : Nat → Int32) (g : Nat → Int64) : cE o f g 100 = aJ o 86 g := rfl
theorem b_100 : 100 < 111 := by decide
theorem e_101 {o : OM} (f : Nat → Int32) (g : Nat → Int64) : cE o f g 101 = aI o 80 f := rfl
theorem b_101 : 101 < 111 := by decide
theorem e_102 {o : OM} (f : Nat → Int32) (g : Nat → Int64) : cE o f g 102 = aI o 2 f := rfl
theorem b_102 : 102 < 111 := by decide
theorem e_103 {o : OM} (f : Nat → Int32) (g : Nat → Int64) : cE o f g 103 = aZ o 2 f := rfl
theorem b_103 : 103 < 111 := by decide
theorem e_104 {o : OM} (f : Nat → Int32) (g : Nat → Int64) : cE o f g 104 = aJ o 6 g := rfl
theorem b_104 : 104 < 111 := by decide
theorem e_105 {o : OM} (f : Nat → Int32) (g : Nat → Int64) : cE o f g 105 = aI o 6 f := rfl
theorem b_105 : 105 < 111 := by decide
theorem e_106 {o : OM} (f : Nat → Int32) (g : Nat → Int64) : cE o f g 106 = aI o 20 f := rfl
theorem b_106 : 106 < 111 := by decide
theorem e_107 {o : OM} (f : Nat → Int32) (g : Nat → Int64) : cE o f g 107 = aI o 20 f := rfl
theorem b_107 : 107 < 111 := by decide
theorem e_108 {o : OM} (f : Nat → Int32) (g : Nat → Int64) : cE o f g 108 = aI o 20 f := rfl
theorem b_108 : 108 < 111 := by decide
theorem e_109 {o : OM} (f : Nat → Int32) (g : Nat → Int64) : cE o f g 109 = aI o 40 f := rfl
theorem b_109 : 109 < 111 := by decide
theorem e_110 {o : OM} (f : Nat → Int32) (g : Nat → Int64) : cE o f g 110 = aI o 65 f := rfl
theorem b_110 : 110 < 111 := by decide
/-- the stores: now, the twenty of the past, the two images -/
def isSt (a : Nat) : Prop := a = 1 ∨ a = 68 ∨ a = 72 ∨ ∃ k, k < 20 ∧ a = 6 + 3 * k
theorem isSt.b0 {a : Nat} (h : isSt a) : a < 111 := by rcases h with h | h | h | ⟨k, h, h2⟩ <;> omega
theorem isSt.b1 {a : Nat} (h : isSt a) : a + 1 < 111 := by rcases h with h | h | h | ⟨k, h, h2⟩ <;> omega
theorem isSt.b2 {a : Nat} (h : isSt a) : a + 2 < 111 := by rcases h with h | h | h | ⟨k, h, h2⟩ <;> omega
theorem isSt.e0 {o : OM} {a : Nat} (h : isSt a) (f : Nat → Int32) (g : Nat → Int64) : cE o f g a = .inr (8, fSt o a f g) := by
  rcases h with rfl | rfl | rfl | ⟨k, h, rfl⟩
  · rfl
  · rfl
  · rfl
  · unfold cE; rw [if_pos (by omega), if_pos (by omega)]
theorem isSt.e1 {o : OM} {a : Nat} (h : isSt a) (f : Nat → Int32) (g : Nat → Int64) : cE o f g (a + 1) = aJ o 40 g := by
  rcases h with rfl | rfl | rfl | ⟨k, h, rfl⟩
  · rfl
  · rfl
  · rfl
  · unfold cE; rw [if_pos (by omega), if_neg (by omega), if_pos (by omega)]
theorem isSt.e2 {o : OM} {a : Nat} (h : isSt a) (f : Nat → Int32) (g : Nat → Int64) : cE o f g (a + 2) = aI o 40 f := by
  rcases h with rfl | rfl | rfl | ⟨k, h, rfl⟩
  · rfl
  · rfl
  · rfl
  · unfold cE; rw [if_pos (by omega), if_neg (by omega), if_neg (by omega)]
def isPt (a : Nat) : Prop := a = 75 ∨ a = 78
theorem isPt.b0 {a : Nat} (h : isPt a) : a < 111 := by rcases h with h | h <;> omega
theorem isPt.b1 {a : Nat} (h : isPt a) : a + 1 < 111 := by rcases h with h | h <;> omega
theorem isPt.b2 {a : Nat} (h : isPt a) : a + 2 < 111 := by rcases h with h | h <;> omega
theorem isPt.e0 {o : OM} {a : Nat} (h : isPt a) (f : Nat → Int32) (g : Nat → Int64) : cE o f g a = .inr (5, fPt o a f g) := by
  rcases h with rfl | rfl <;> rfl
theorem isPt.e1 {o : OM} {a : Nat} (h : isPt a) (f : Nat → Int32) (g : Nat → Int64) : cE o f g (a + 1) = aI o 8 f := by
  rcases h with rfl | rfl <;> rfl
theorem isPt.e2 {o : OM} {a : Nat} (h : isPt a) (f : Nat → Int32) (g : Nat → Int64) : cE o f g (a + 2) = aJ o 8 g := by
  rcases h with rfl | rfl <;> rfl
theorem isSt.now : isSt 1 := Or.inl rfl
theorem isSt.im0 : isSt 68 := Or.inr (Or.inl rfl)
theorem isSt.im1 : isSt 72 := Or.inr (Or.inr (Or.inl rfl))
theorem isSt.ring {k : Nat} (h : k < 20) : isSt (6 + 3 * k) := Or.inr (Or.inr (Or.inr ⟨k, h, rfl⟩))
end
section
/-! pure facts: bits of longs, counts -/
theorem bI_add (a : Nat) (b : Bool) : nI a + bI b = nI (a + b.toNat) := by cases b <;> simp [bI, nI, Int32.ofNat_add]
theorem pk_dec {a : Nat} (h : 0 < a) : nI a + Int32.ofInt (-1) = nI (a - 1) := by
  rw [show Int32.ofInt (-1) = (-1 : Int32) from by decide]; exact sb_m1 h
theorem bI_sub {a : Nat} {b : Bool} (h : b.toNat ≤ a) : nI a - bI b = nI (a - b.toNat) := by
  cases b
  · simp [bI]
  · exact pk_sub h
theorem bI_inj (a b : Bool) : bI a = bI b ↔ a = b := by cases a <;> cases b <;> decide
theorem bI_nI (b : Bool) : bI b = nI b.toNat := by cases b <;> rfl
section ROWS3
variable {γ : GT} {l : Launch} {o : OM} {own : String} {cc : ByteArray} {n : Nat} {r : Option FieldType} {fr lo : Nat} {P : Option Value → MI → ML → Prop}
variable {mi : MI} {ml : ML} {pc : Nat} {lv : List (Nat × Value)} {st rest : List Value}
theorem r_ifeqQ (X : Cx γ l o own cc n r fr lo P) {x : Int32} {b : Bool} {off : Int} {tgt : Nat} (d : decode cc pc = .ok (.ifCond .eq off, 3)) (ht : (pc : Int) + off = (tgt : Int)) (hc : x = 0 ↔ b = true) (kt : b = true → V γ o n mi ml tgt lv rest) (kf : b = false → V γ o n mi ml (pc + 3) lv rest) : V γ o n mi ml pc lv (.int x :: rest) := r_ifeq X d ht hc kt (fun q => kf (by simpa using q))
theorem r_ifneQ (X : Cx γ l o own cc n r fr lo P) {x : Int32} {b : Bool} {off : Int} {tgt : Nat} (d : decode cc pc = .ok (.ifCond .ne off, 3)) (ht : (pc : Int) + off = (tgt : Int)) (hc : x = 0 ↔ b = true) (kt : b = false → V γ o n mi ml tgt lv rest) (kf : b = true → V γ o n mi ml (pc + 3) lv rest) : V γ o n mi ml pc lv (.int x :: rest) := r_ifne X d ht (not_congr hc) (fun q => kt (by simpa using q)) (fun q => kf (by simpa using q))
theorem r_icneP (X : Cx γ l o own cc n r fr lo P) {x y : Int32} {c : Prop} {off : Int} {tgt : Nat} (d : decode cc pc = .ok (.if_icmp .ne off, 3)) (ht : (pc : Int) + off = (tgt : Int)) (hc : (x = y) ↔ c) (kt : ¬ c → V γ o n mi ml tgt lv rest) (kf : c → V γ o n mi ml (pc + 3) lv rest) : V γ o n mi ml pc lv (.int y :: .int x :: rest) := r_icne X d ht (not_congr hc) kt (fun q => kf (Classical.not_not.mp q))
theorem r_ifneP (X : Cx γ l o own cc n r fr lo P) {x : Int32} {c : Prop} {off : Int} {tgt : Nat} (d : decode cc pc = .ok (.ifCond .ne off, 3)) (ht : (pc : Int) + off = (tgt : Int)) (hc : (x = 0) ↔ c) (kt : ¬ c → V γ o n mi ml tgt lv rest) (kf : c → V γ o n mi ml (pc + 3) lv rest) : V γ o n mi ml pc lv (.int x :: rest) := r_ifne X d ht (not_congr hc) kt (fun q => kf (Classical.not_not.mp q))
end ROWS3
def bt (x : Int64) (i : Nat) : Bool := x.toBitVec.getLsbD i
theorem bt_ext {x y : Int64} (h : ∀ i, i < 64 → bt x i = bt y i) : x = y := Int64.toBitVec_inj.mp (BitVec.eq_of_getLsbD_eq (fun i hi => h i hi))
theorem bt_or (x y : Int64) (i : Nat) : bt (x ||| y) i = (bt x i || bt y i) := by unfold bt; rw [Int64.toBitVec_or, BitVec.getLsbD_or]
theorem bt_and (x y : Int64) (i : Nat) : bt (x &&& y) i = (bt x i && bt y i) := by unfold bt; rw [Int64.toBitVec_and, BitVec.getLsbD_and]
theorem bt_xor (x y : Int64) (i : Nat) : bt (x ^^^ y) i = (bt x i ^^ bt y i) := by unfold bt; rw [Int64.toBitVec_xor, BitVec.getLsbD_xor]
theorem bt_big {x : Int64} {i : Nat} (h : 64 ≤ i) : bt x i = false := BitVec.getLsbD_of_ge _ _ h
theorem bt_0 (i : Nat) : bt 0 i = false := BitVec.getLsbD_zero
theorem bt_1 (i : Nat) : bt 1 i = decide (i = 0) := by
  rcases Nat.lt_or_ge i 64 with h | h
  · exact (by decide +kernel : ∀ i, i < 64 → bt 1 i = decide (i = 0)) i h
  · rw [bt_big h, decide_eq_false (by omega)]
theorem s_l64 : ∀ n, n < 64 → (((nI n).toInt64 &&& 63).toBitVec.smod 64).toNat = n := by decide +kernel
theorem s_u64 : ∀ n, n < 64 → (((nI n).toInt64.toUInt64 &&& Int64.toUInt64 63).toBitVec % 64).toNat = n := by decide +kernel
theorem bt_shl (x : Int64) {k i : Nat} (hk : k < 64) (hi : i < 64) : bt (shl x k) i = (decide (k ≤ i) && bt x (i - k)) := by
  unfold bt shl
  rw [Int64.toBitVec_shiftLeft]
  show (x.toBitVec <<< (((nI k).toInt64 &&& 63).toBitVec.smod 64).toNat).getLsbD i = _
  rw [s_l64 k hk, BitVec.getLsbD_shiftLeft]
  rcases Nat.lt_or_ge i k with h | h
  · simp [h, Nat.not_le.mpr h]
  · simp [hi, h, Nat.not_lt.mpr h]
theorem bt_ushr (x : Int64) {k : Nat} (hk : k < 64) (i : Nat) : bt (ushr x k) i = bt x (k + i) := by
  show (x.toUInt64 >>> ((nI k).toInt64.toUInt64 &&& Int64.toUInt64 63)).toBitVec.getLsbD i = x.toUInt64.toBitVec.getLsbD (k + i)
  rw [UInt64.toBitVec_shiftRight]
  show (x.toUInt64.toBitVec >>> (((nI k).toInt64.toUInt64 &&& Int64.toUInt64 63).toBitVec % 64).toNat).getLsbD i = _
  rw [s_u64 k hk, BitVec.getLsbD_ushiftRight]
theorem bt_shr (x : Int64) {k i : Nat} (hk : k < 64) (hi : i < 64) : bt (shr x k) i = if k + i < 64 then bt x (k + i) else bt x 63 := by
  unfold bt shr
  rw [Int64.toBitVec_shiftRight]
  show (x.toBitVec.sshiftRight (((nI k).toInt64 &&& 63).toBitVec.smod 64).toNat).getLsbD i = _
  rw [s_l64 k hk, BitVec.getLsbD_sshiftRight, BitVec.msb_eq_getLsbD_last]
  simp [hi]
theorem and1_eq1 (y : Int64) : y &&& 1 = 1 ↔ bt y 0 = true := by
  constructor
  · intro h
    have e := congrArg (fun z => bt z 0) h
    simp only [bt_and, bt_1] at e
    simpa using e
  · intro h
    apply bt_ext
    intro i hi
    rw [bt_and, bt_1]
    by_cases e : i = 0
    · subst e; simp [h]
    · simp [e]
theorem and1_eq0 (y : Int64) : y &&& 1 = 0 ↔ bt y 0 = false := by
  constructor
  · intro h
    have e := congrArg (fun z => bt z 0) h
    simp only [bt_and, bt_1, bt_0] at e
    simpa using e
  · intro h
    apply bt_ext
    intro i hi
    rw [bt_and, bt_1, bt_0]
    by_cases e : i = 0
    · subst e; simp [h]
    · simp [e]
theorem has_shr (x : Int64) {k : Nat} (hk : k < 64) : (shr x k) &&& 1 = 1 ↔ bt x k = true := by
  rw [and1_eq1, bt_shr x hk (by omega)]; simp [hk]
theorem has_ushr (x : Int64) {k : Nat} (hk : k < 64) : (ushr x k) &&& 1 = 0 ↔ bt x k = false := by
  rw [and1_eq0, bt_ushr x hk]; simp
/-- how many of the first n are so -/
def ct (p : Nat → Bool) : Nat → Nat
  | 0 => 0
  | n + 1 => ct p n + (p n).toNat
theorem ct_le (p : Nat → Bool) : ∀ n, ct p n ≤ n
  | 0 => Nat.le_refl 0
  | n + 1 => by
    have h := ct_le p n
    have h2 : (p n).toNat ≤ 1 := Bool.toNat_le _
    show ct p n + (p n).toNat ≤ n + 1
    omega
theorem ct_cong {p q : Nat → Bool} : ∀ {n : Nat}, (∀ k, k < n → p k = q k) → ct p n = ct q n
  | 0, _ => rfl
  | n + 1, h => by
    show ct p n + (p n).toNat = ct q n + (q n).toNat
    rw [ct_cong (fun k hk => h k (by omega)), h n (by omega)]
def pop (x : Int64) : Nat := ct (bt x) 64
theorem pop_le (x : Int64) : pop x ≤ 64 := ct_le _ _
theorem pop_lt (x : Int64) : pop x < 2 ^ 31 := by have := pop_le x; omega
/-- the last of the first n that is so, NONE else -/
def lastB (p : Nat → Bool) : Nat → Int32
  | 0 => -1
  | k + 1 => if p k then nI k else lastB p k
/-- all of the first n are so -/
def alB (p : Nat → Bool) : Nat → Bool
  | 0 => true
  | k + 1 => alB p k && p k
theorem alB_iff {p : Nat → Bool} : ∀ {n : Nat}, alB p n = true ↔ ∀ k, k < n → p k = true
  | 0 => by simp [alB]
  | n + 1 => by
    simp only [alB, Bool.and_eq_true, alB_iff (p := p) (n := n)]
    constructor
    · intro h k hk
      rcases Nat.lt_or_ge k n with h2 | h2
      · exact h.1 k h2
      · rw [show k = n by omega]; exact h.2
    · intro h
      exact ⟨fun k hk => h k (by omega), h n (by omega)⟩
theorem alB_no {p : Nat → Bool} {i n : Nat} (h : alB p i = false) (hi : i ≤ n) : alB p n = false := by
  rcases hb : alB p n with _ | _
  · rfl
  · have := alB_iff.mpr (fun k hk => alB_iff.mp hb k (Nat.lt_of_lt_of_le hk hi))
    rw [h] at this; cases this
def ds (x y : Int64) : Nat := pop (x ^^^ y)
theorem ds_le (x y : Int64) : ds x y ≤ 64 := pop_le _
theorem ds_lt (x y : Int64) : ds x y < 2 ^ 31 := pop_lt _
/-- a part alike by a cut, as it is gone through bit by bit -/
def lkS (u c : Int64) : Nat → Bool × Bool
  | 0 => (false, false)
  | b + 1 => ((lkS u c b).1 || (decide (0 < b) && bt c b && (lkS u c b).2), (bt c b || (lkS u c b).2) && !bt u b)
def lk (x y c : Int64) : Bool := (lkS (x ^^^ y) c 64).1 || (lkS (x ^^^ y) c 64).2
def oM (ml : ML) (k : Nat) : Int64 := ml 96 (3 + k)
/-- ahead: how many of n stand nearer than k, by f -/
def ahd (f : Nat → Nat) (n k : Nat) : Nat := ct (fun j => decide (f j < f k) || (decide (f j = f k) && !decide (k ≤ j))) n
theorem alB_d {p : Nat → Bool} (h : p 0 = true) : ∀ n, alB p (n - 1 + 1) = alB p n
  | 0 => by simp [alB, h]
  | _ + 1 => rfl
/-- the first from i on, of d, that is so; NONE else -/
def fromB (p : Nat → Bool) : Nat → Nat → Int32
  | 0, _ => -1
  | d + 1, i => if p i then nI i else fromB p d (i + 1)
/-- the same with a value of its own, and another for none -/
def fromC (p : Nat → Bool) (v : Nat → Int32) (e : Int32) : Nat → Nat → Int32
  | 0, _ => e
  | d + 1, i => if p i then v i else fromC p v e d (i + 1)
theorem fromC_no {p : Nat → Bool} {v : Nat → Int32} {e : Int32} (h : ∀ i, p i = false) : ∀ d i, fromC p v e d i = e
  | 0, _ => rfl
  | d + 1, i => by rw [fromC, h i]; exact fromC_no h d (i + 1)
def deadM (M : Nat → Int64) (n b : Nat) : Bool := alB (fun k => decide (bt (M k) b = bt (M 0) b)) n
def togM (M : Nat → Int64) (n a b : Nat) : Bool := alB (fun k => decide (bt (M k) a = bt (M k) b)) n || alB (fun k => !decide (bt (M k) a = bt (M k) b)) n
def togR (p : Nat → Nat → Bool) : Nat → Nat → Int32
  | 0, _ => -1
  | d + 1, a => fromC (p a) (fun b => nI (64 * a + b)) (togR p d (a + 1)) (63 - a) (a + 1)
def pairM (M : Nat → Int64) (n a b : Nat) : Bool := !deadM M n a && (!deadM M n b && togM M n a b)
def cb (x : Int64) (SM : Nat → Int64) (SA : Nat → Int32) (s : Nat) : Bool := alB (fun i => decide (nI (ds x (SM i)) = SA i)) s
/-- going down from n: how many of the upper i; the least of them -/
def ctD (p : Nat → Bool) (n : Nat) : Nat → Nat
  | 0 => 0
  | i + 1 => ctD p n i + (p (n - i - 1)).toNat
def lastD (p : Nat → Bool) (n : Nat) : Nat → Int32
  | 0 => -1
  | i + 1 => if p (n - i - 1) then nI (n - i - 1) else lastD p n i
theorem ctD_le (p : Nat → Bool) (n : Nat) : ∀ i, ctD p n i ≤ i
  | 0 => Nat.le_refl 0
  | i + 1 => by
    have h := ctD_le p n i
    have h2 : (p (n - i - 1)).toNat ≤ 1 := Bool.toNat_le _
    show ctD p n i + (p (n - i - 1)).toNat ≤ i + 1
    omega
theorem dec_eq (x : Int32) : x + Int32.ofInt (-1) = x - nI 1 := by
  rw [Int32.sub_eq_add_neg]; rfl
def isMk (n : Nat) (k : Int32) : Bool := decide (0 ≤ k) && decide (k < nI n)
theorem isMk_eq {n : Nat} (hn : n < 2 ^ 30) (k : Int32) : (!decide (k.toInt64 < 0) && !decide ((nI n - nI 1).toInt64 < k.toInt64)) = isMk n k := by
  have e1 : (k.toInt64 < 0) ↔ ¬ 0 ≤ k := by
    rw [show (0 : Int64) = (0 : Int32).toInt64 from rfl, Int64.lt_iff_toInt_lt, Int32.toInt_toInt64, Int32.toInt_toInt64, Int32.le_iff_toInt_le]; omega
  have e2 : ((nI n - nI 1).toInt64 < k.toInt64) ↔ ¬ k < nI n := by
    rw [Int64.lt_iff_toInt_lt, Int32.toInt_toInt64, Int32.toInt_toInt64, Int32.lt_iff_toInt_lt, pk_sub_toInt (by omega) (by omega), nI_toInt (by omega)]; omega
  unfold isMk
  simp only [e1, e2]
  by_cases a1 : 0 ≤ k <;> by_cases a2 : k < nI n <;> simp [a1, a2]
theorem isMk_nI {n a : Nat} (hn : n < 2 ^ 31) (ha : a < 2 ^ 31) : isMk n (nI a) = decide (a < n) := by
  unfold isMk
  have e1 : 0 ≤ nI a := nI_pos' ha
  have e2 := nI_ltI ha hn
  simp [e1, e2]
theorem isMk_ex {n : Nat} {k : Int32} (hn : n < 2 ^ 31) (h : isMk n k = true) : ∃ j, j < n ∧ k = nI j := by
  unfold isMk at h
  simp only [Bool.and_eq_true, decide_eq_true_eq] at h
  obtain ⟨j, hj, rfl⟩ := nI_of (x := k) (by rw [Int32.lt_iff_toInt_lt]; have := h.1; rw [Int32.le_iff_toInt_le] at this; omega)
  exact ⟨j, (nI_ltI hj hn).mp h.2, rfl⟩
theorem lastB_ex {p : Nat → Bool} : ∀ {n : Nat}, ¬ lastB p n = -1 → ∃ j, j < n ∧ lastB p n = nI j ∧ p j = true
  | 0, h => absurd rfl h
  | n + 1, h => by
    by_cases hp : p n = true
    · exact ⟨n, by omega, by simp [lastB, hp], hp⟩
    · have e : lastB p (n + 1) = lastB p n := by simp [lastB, hp]
      rw [e] at h
      obtain ⟨j, h1, h2, h3⟩ := lastB_ex h
      exact ⟨j, by omega, by rw [e, h2], h3⟩
theorem tsw_lo {x : Int32} (h : x < 0) : x.toInt < 0 := by rw [Int32.lt_iff_toInt_lt] at h; exact h
theorem tsw_hi {x : Int32} {n : Nat} {m : Int} (hm : n < 2 ^ 31 ∧ m + 1 = (n : Int)) (h : nI n ≤ x) : m < x.toInt := by
  rw [Int32.le_iff_toInt_le, nI_toInt hm.1] at h; omega
/-- a number below m, or none -/
def ix (w : Int32) (m : Nat) : Option Nat := if 0 ≤ w ∧ w < nI m then some w.toNatClampNeg else none
def oI (x : Option Nat) (e : Int32) (f : Nat → Int32) : Int32 := match x with
  | none => e
  | some q => f q
def oJ (x : Option Nat) (e : Int64) (f : Nat → Int64) : Int64 := match x with
  | none => e
  | some q => f q
theorem ix_lo {w : Int32} {m : Nat} (h : w < 0) : ix w m = none := by
  unfold ix; rw [if_neg]; rintro ⟨a, -⟩
  rw [Int32.lt_iff_toInt_lt] at h; rw [Int32.le_iff_toInt_le] at a; omega
theorem ix_hi {w : Int32} {m : Nat} (h : nI m ≤ w) : ix w m = none := by
  unfold ix; rw [if_neg]; rintro ⟨-, a⟩
  rw [Int32.lt_iff_toInt_lt] at a; rw [Int32.le_iff_toInt_le] at h; omega
theorem ix_in {j m : Nat} (h : j < m) (hm : m < 2 ^ 31) : ix (nI j) m = some j := by
  unfold ix; rw [if_pos ⟨nI_pos' (by omega), (nI_ltI (by omega) hm).mpr h⟩, nI_clamp (by omega)]
theorem isMk_ix {n : Nat} {k : Int32} : isMk n k = (ix k n).isSome := by
  unfold isMk ix; by_cases h1 : 0 ≤ k <;> by_cases h2 : k < nI n <;> simp [h1, h2]
theorem isMk_none {n : Nat} {k : Int32} (h : isMk n k = false) : ix k n = none := by
  rw [isMk_ix] at h; simpa using h
/-- ASK: how many of the first j have the number t; the greatest part; the best -/
def cn (f : Nat → Nat) (c : Nat → Bool) (t j : Nat) : Nat := ct (fun k => c k && decide (f k = t)) j
def mst (f : Nat → Nat) (c : Nat → Bool) : Nat → Nat
  | 0 => 0
  | j + 1 => if c j then (if decide (cn f c (f j) j + 1 ≤ mst f c j) then mst f c j else cn f c (f j) j + 1) else mst f c j
theorem cn_le (f : Nat → Nat) (c : Nat → Bool) (t j : Nat) : cn f c t j ≤ j := ct_le _ _
theorem mst_le (f : Nat → Nat) (c : Nat → Bool) : ∀ j, mst f c j ≤ j
  | 0 => Nat.le_refl 0
  | j + 1 => by
    have h := mst_le f c j
    have h2 := cn_le f c (f j) j
    unfold mst
    split
    · split <;> omega
    · omega
def askS (g : Nat → Nat) (few : Nat) : Nat → Nat × Int32
  | 0 => (few, -1)
  | m + 1 => (if decide ((askS g few m).1 ≤ g m) then (askS g few m).1 else g m, if decide ((askS g few m).1 ≤ g m) then (askS g few m).2 else nI m)
theorem askS_le (g : Nat → Nat) (few : Nat) : ∀ m, (askS g few m).1 ≤ few
  | 0 => Nat.le_refl _
  | m + 1 => by
    have h := askS_le g few m
    show (if decide ((askS g few m).1 ≤ g m) then (askS g few m).1 else g m) ≤ few
    split
    · exact h
    · rename_i h2; simp at h2; omega
theorem cn_no {f : Nat → Nat} {c : Nat → Bool} {j : Nat} {r : Nat → Int32} (h : c j = false) (hr : ∀ t, t < 65 → r t = nI (cn f c t j)) : ∀ t, t < 65 → r t = nI (cn f c t (j + 1)) := by
  intro t ht
  rw [hr t ht]
  simp [cn, ct, h]
theorem cn_yes {f : Nat → Nat} {c : Nat → Bool} {j d : Nat} {m : MI} (h : c j = true) (hd : f j = d) (hr : ∀ t, t < 65 → m 110 t = nI (cn f c t j)) : ∀ t, t < 65 → u2 m 110 d (nI (cn f c d j + 1)) 110 t = nI (cn f c t (j + 1)) := by
  intro t ht
  rw [u2_s]
  by_cases e : t = d
  · subst e; rw [uf_s]; simp [cn, ct, h, hd]
  · rw [uf_n _ _ e, hr t ht]
    have e2 : ¬ f j = t := fun q => e (by rw [← q, hd])
    simp [cn, ct, e2]
theorem zf_step {m : MI} {i t : Nat} {x : Int32} (h : ∀ q, q < t → m i q = x) : ∀ q, q < t + 1 → u2 m i t x i q = x := by
  intro q hq
  rw [u2_s]
  by_cases e : q = t
  · subst e; rw [uf_s]
  · rw [uf_n _ _ e]; exact h q (by omega)
theorem in_nat {j a m : Nat} (h1 : a ≤ j) (h2 : j ≤ m) (hm : m < 2 ^ 31) : (!decide (lN j < lN a) && !decide (lN m < lN j)) = true := by
  have e1 := lN_lt (a := j) (b := a) (by omega) (by omega)
  have e2 := lN_lt (a := m) (b := j) (by omega) (by omega)
  simp only [e1, e2]
  simp; omega
theorem in_out {x : Int32} {a m : Nat} (ha : a < 2 ^ 31) (hm : m < 2 ^ 31) (h : x < nI a ∨ nI m < x) : (!decide (x.toInt64 < lN a) && !decide (lN m < x.toInt64)) = false := by
  have e1 : (x.toInt64 < lN a) ↔ x < nI a := by
    rw [← nI_l ha, Int64.lt_iff_toInt_lt, Int32.toInt_toInt64, Int32.toInt_toInt64, Int32.lt_iff_toInt_lt]
  have e2 : (lN m < x.toInt64) ↔ nI m < x := by
    rw [← nI_l hm, Int64.lt_iff_toInt_lt, Int32.toInt_toInt64, Int32.toInt_toInt64, Int32.lt_iff_toInt_lt]
  simp only [e1, e2]
  rcases h with h | h <;> simp [h]
theorem ct_mono (p : Nat → Bool) : ∀ {a b : Nat}, a ≤ b → ct p a ≤ ct p b := by
  intro a b h
  induction b with
  | zero => rw [show a = 0 by omega]; exact Nat.le_refl _
  | succ b ih =>
    rcases Nat.lt_or_ge b a with h2 | h2
    · rw [show a = b + 1 by omega]; exact Nat.le_refl _
    · exact Nat.le_trans (ih h2) (Nat.le_add_right _ _)
/-- where the p-th one stands -/
def kf (q : Nat → Bool) (p : Nat) : Nat → Nat → Nat
  | 0, b => b
  | d + 1, b => if q b && decide (ct q b = p) then b else kf q p d (b + 1)
def kthP (q : Nat → Bool) (n p : Nat) : Nat := kf q p n 0
def kth (c : Int64) (p : Nat) : Nat := kthP (bt c) 64 p
theorem kf_spec (q : Nat → Bool) (p : Nat) : ∀ d b, ct q b ≤ p → p < ct q (b + d) → b ≤ kf q p d b ∧ kf q p d b < b + d ∧ q (kf q p d b) = true ∧ ct q (kf q p d b) = p
  | 0, b, h1, h2 => by
    have h2 : p < ct q b := h2
    omega
  | d + 1, b, h1, h2 => by
    unfold kf
    by_cases h : (q b && decide (ct q b = p)) = true
    · rw [if_pos h]
      simp only [Bool.and_eq_true, decide_eq_true_eq] at h
      exact ⟨Nat.le_refl _, by omega, h.1, h.2⟩
    · rw [if_neg h]
      have h3 : ct q (b + 1) ≤ p := by
        show ct q b + (q b).toNat ≤ p
        simp only [Bool.and_eq_true, decide_eq_true_eq] at h
        rcases hb : q b with _ | _
        · simpa using h1
        · have : ct q b ≠ p := fun e => h ⟨hb, e⟩
          simp; omega
      have h4 := kf_spec q p d (b + 1) h3 (by rw [show b + 1 + d = b + (d + 1) by omega]; exact h2)
      exact ⟨by omega, by omega, h4.2.2.1, h4.2.2.2⟩
theorem kthP_spec {q : Nat → Bool} {n p : Nat} (h : p < ct q n) : kthP q n p < n ∧ q (kthP q n p) = true ∧ ct q (kthP q n p) = p := by
  have := kf_spec q p n 0 (Nat.zero_le _) (by rw [Nat.zero_add]; exact h)
  exact ⟨by have := this.2.1; unfold kthP; omega, this.2.2.1, this.2.2.2⟩
theorem kth_spec {c : Int64} {p : Nat} (h : p < pop c) : kth c p < 64 ∧ bt c (kth c p) = true ∧ ct (bt c) (kth c p) = p := kthP_spec h
theorem kth_lt {c : Int64} {p : Nat} (h : p < pop c) : kth c p < 2 ^ 31 := by have := (kth_spec h).1; omega
theorem kth_mono {c : Int64} {p q : Nat} (h : p < q) (hq : q < pop c) : kth c p < kth c q := by
  obtain ⟨a1, a2, a3⟩ := kth_spec (c := c) (p := p) (by omega)
  obtain ⟨b1, b2, b3⟩ := kth_spec hq
  rcases Nat.lt_or_ge (kth c p) (kth c q) with h2 | h2
  · exact h2
  · have := ct_mono (bt c) h2
    omega
def enM (c : Int64) (p : Nat) : Nat := if decide (pop c ≤ p + 1) then 64 else kth c (p + 1)
theorem enM_le (c : Int64) (p : Nat) : enM c p ≤ 64 := by
  unfold enM; split
  · exact Nat.le_refl _
  · rename_i h; simp at h; have := (kth_spec h).1; omega
theorem enM_gt {c : Int64} {p : Nat} (h : p < pop c) : kth c p < enM c p := by
  unfold enM; split
  · exact (kth_spec h).1
  · rename_i h2; simp at h2; exact kth_mono (by omega) h2
def haveM (M : Nat → Int64) (h c : Int64) (p n : Nat) : Nat := ct (fun k => alB (fun t => decide (bt (M k) (kth c p + t) = bt h (kth c p + t))) (enM c p - kth c p)) n
/-- a set of the first n that are so -/
def stB (p : Nat → Bool) : Nat → Int64
  | 0 => 0
  | k + 1 => stB p k ||| (if p k then shl 1 k else 0)
def nearP (K : Int32) (d q c : Nat) : Bool := (!decide (q < d) && (!decide (K = nI 1) && (!decide (K = nI 2) || (decide (c - 1 ≤ q) || !decide (q / 2 < d)))))
/-- groups: near by b; by others; labels -/
def Rb (M : Nat → Int64) (b j k : Nat) : Prop := ds (M j) (M k) ≤ b
def Cn (M : Nat → Int64) (n b j k : Nat) : Prop := ∀ P : Nat → Prop, P j → (∀ a c, a < n → c < n → P a → Rb M b a c → P c) → P k
def Lv1 (M : Nat → Int64) (n b : Nat) (g : Nat → Nat) : Prop := ∀ k, k < n → g k ≤ k ∧ Cn M n b (g k) k
def Stb (M : Nat → Int64) (n b : Nat) (g : Nat → Nat) : Prop := ∀ j k, j < n → k < n → Rb M b j k → g k ≤ g j
def Lab (M : Nat → Int64) (n b : Nat) (g : Nat → Nat) : Prop := Lv1 M n b g ∧ Stb M n b g
theorem Cn.rf {M : Nat → Int64} {n b j : Nat} : Cn M n b j j := fun _ h _ => h
theorem Cn.step {M : Nat → Int64} {n b i j k : Nat} (h : Cn M n b i j) (hj : j < n) (hk : k < n) (hr : Rb M b j k) : Cn M n b i k := fun P h1 h2 => h2 j k hj hk (h P h1 h2) hr
theorem Lv1.set {M : Nat → Int64} {n b u w : Nat} {g : Nat → Nat} (h : Lv1 M n b g) (hu : u < n) (hw : w < n) (hlt : g u < g w) (hr : Rb M b u w) : Lv1 M n b (uf g w (g u)) := by
  intro k hk
  by_cases e : k = w
  · subst e
    rw [uf_s]
    exact ⟨by have := (h k hk).1; omega, (h u hu).2.step hu hk hr⟩
  · rw [uf_n _ _ e]; exact h k hk
def sm (f : Nat → Nat) : Nat → Nat
  | 0 => 0
  | n + 1 => sm f n + f n
theorem sm_out (f : Nat → Nat) (v : Nat) {i : Nat} : ∀ {n : Nat}, n ≤ i → sm (uf f i v) n = sm f n
  | 0, _ => rfl
  | n + 1, h => by
    show sm (uf f i v) n + uf f i v n = sm f n + f n
    rw [sm_out f v (by omega), uf_n _ _ (by omega)]
theorem sm_uf (f : Nat → Nat) (v : Nat) {i : Nat} : ∀ {n : Nat}, i < n → sm (uf f i v) n + f i = sm f n + v
  | 0, h => absurd h (Nat.not_lt_zero i)
  | n + 1, h => by
    show sm (uf f i v) n + uf f i v n + f i = sm f n + f n + v
    by_cases e : i = n
    · subst e; rw [sm_out f v (Nat.le_refl _), uf_s]; omega
    · have := sm_uf f v (i := i) (n := n) (by omega)
      rw [uf_n _ _ (Ne.symm e)]; omega
/-- the greatest, gone through -/
def mxI (h : Nat → Nat) (m : Nat) : Nat → Nat
  | 0 => m
  | k + 1 => if decide (h k ≤ mxI h m k) then mxI h m k else h k
def mxO (f : Nat → Nat → Nat) : Nat → Nat
  | 0 => 0
  | j + 1 => mxI (f j) (mxO f j) j
theorem mxI_le {h : Nat → Nat} {m c : Nat} (hm : m ≤ c) : ∀ {k : Nat}, (∀ i, i < k → h i ≤ c) → mxI h m k ≤ c
  | 0, _ => hm
  | k + 1, hk => by
    unfold mxI; split
    · exact mxI_le hm (fun i hi => hk i (by omega))
    · exact hk k (by omega)
theorem mxO_le {f : Nat → Nat → Nat} {c : Nat} (h : ∀ j k, f j k ≤ c) : ∀ n, mxO f n ≤ c
  | 0 => Nat.zero_le _
  | n + 1 => mxI_le (mxO_le h n) (fun _ _ => h _ _)
theorem id_step {m : MI} {i t : Nat} (h : ∀ k, k < t → m i k = nI k) : ∀ k, k < t + 1 → u2 m i t (nI t) i k = nI k := by
  intro q hq
  rw [u2_s]
  by_cases e : q = t
  · subst e; rw [uf_s]
  · rw [uf_n _ _ e]; exact h q (by omega)
theorem lab_step {m : MI} {i n w x : Nat} {g : Nat → Nat} (h : ∀ k, k < n → m i k = nI (g k)) : ∀ k, k < n → u2 m i w (nI x) i k = nI (uf g w x k) := by
  intro k hk
  rw [u2_s]
  by_cases e : k = w
  · subst e; rw [uf_s, uf_s]
  · rw [uf_n _ _ e, uf_n _ _ e]; exact h k hk
theorem sm_cong {f g : Nat → Nat} (h : ∀ k, f k = g k) (n : Nat) : sm f n = sm g n := by rw [show f = g from funext h]
theorem sm_le {G2 G : Nat → Nat} {on : Bool} {n : Nat} (h1 : on = true → sm G2 n < sm G n) (h2 : on = false → ∀ k, G2 k = G k) : sm G2 n ≤ sm G n := by
  cases on
  · exact Nat.le_of_eq (sm_cong (h2 rfl) n)
  · exact Nat.le_of_lt (h1 rfl)
theorem ite64 (p : Bool) {x : Nat} (h : x ≤ 64) : (if p then 0 else x) ≤ 64 := by cases p <;> simp [h]
def rootsN (G : Nat → Nat) (n : Nat) : Nat := ct (fun k => decide (G k = k)) n
def rootAt (G : Nat → Nat) (n x : Nat) : Nat := kthP (fun k => decide (G k = k)) n x
def grpM (M : Nat → Int64) (n : Nat) (G : Nat → Nat) (x z : Nat) : Int32 := match z with
  | 0 => nI (ct (fun k => decide (G k = rootAt G n x)) n)
  | 1 => nI (rootAt G n x)
  | _ => nI (mxO (fun a c => if (!decide (G a = rootAt G n x) || !decide (G c = rootAt G n x)) then 0 else ds (M a) (M c)) n)
def stN (p : Nat → Bool) : Nat → Int64
  | 0 => 0
  | k + 1 => stN p k ||| (if p k then 0 else shl 1 k)
def midP (M : Nat → Int64) (n : Nat) (G : Nat → Nat) (r b : Nat) : Bool := decide (2 * ct (fun k => decide (G k = r) && bt (M k) b) n ≤ ct (fun k => decide (G k = r)) n)
def lookP (ml : ML) (v : Bool) (k : Nat) : Bool := lk (oM ml k) (ml 96 0) (ml 96 1) && (!v || !decide (ds (oM ml k) (ml 96 0) < pop (ml 96 1)))
def wrongP (mi : MI) (ml : ML) (n : Nat) (B1 B2 : Nat → Nat) (e : Nat) : Bool := !(isMk n (nI (B1 e)) && isMk n (nI (B2 e))) || !decide (nI (ds (oM ml (B1 e)) (oM ml (B2 e))) = mi 108 e)
def nrst (ml : ML) (n : Nat) (w : Int32) : Int32 := lastB (fun k => decide (nI (ahd (fun q => ds (oM ml q) (ml 96 0)) n k) = w)) n
def cbM (mi : MI) (ml : ML) (s k : Nat) : Bool := cb (oM ml k) (ml 104) (mi 105) s
def toldM (mi : MI) (ml : ML) (n s E : Nat) (B1 B2 : Nat → Nat) (q : Nat) : Int32 := match q with
  | 0 => nI n
  | 1 => nI (pop (ml 96 1))
  | 2 => nI (pop (ml 96 0))
  | 3 => lastB (fun k => decide (oM ml k = ml 96 0)) n
  | 4 => nI (ct (lookP ml false) n)
  | 5 => nI (ct (lookP ml true) n)
  | 6 => nrst ml n 0
  | 7 => if nrst ml n 0 = -1 then -1 else nI (ds (oM ml (nrst ml n 0).toNatClampNeg) (ml 96 0))
  | 8 => nI (ct (fun b => deadM (oM ml) n b) 64)
  | 9 => togR (pairM (oM ml) n) 64 0
  | 10 => nI s
  | 11 => nI (ctD (cbM mi ml s) n n)
  | 12 => lastD (cbM mi ml s) n n
  | 13 => (askS (fun z => mst (fun q => ds (oM ml q) (oM ml z)) (cbM mi ml s) n) (ctD (cbM mi ml s) n n) n).2
  | 14 => nI E
  | 15 => fromB (wrongP mi ml n B1 B2) E 0
  | _ => mi 95 2
def markM (mi : MI) (ml : ML) (n k q : Nat) : Int32 := match q with
  | 0 => mi 97 k
  | 1 => nI (pop (oM ml k))
  | 2 => nI (ds (oM ml k) (ml 96 0))
  | 3 => nI (ct (fun j => (!decide (j = k) && !decide (pop (ml 96 1) ≤ ds (oM ml j) (oM ml k)))) n)
  | _ => bI (lk (oM ml k) (ml 96 0) (ml 96 1))
def partM (ml : ML) (n p q : Nat) : Int32 := match q with
  | 0 => nI (kth (ml 96 1) p)
  | 1 => nI (enM (ml 96 1) p - kth (ml 96 1) p)
  | _ => nI (haveM (oM ml) (ml 96 0) (ml 96 1) p n)
/-- cuts into p parts -/
def moreM (p P h : Nat) : Bool := bif decide (2 ≤ h) then (!decide (64 % P ≤ (if decide (p % 2 = 0) then p / 2 else (P + 1) / 2 + p / 2))) else (bif decide (h = 0) then !decide (64 % P ≤ p) else !decide (p < P - 64 % P))
def cutS (P h : Nat) : Nat → Int64 × Nat
  | 0 => (0, 0)
  | p + 1 => ((cutS P h p).1 ||| shl 1 (cutS P h p).2, (cutS P h p).2 + (64 / P + (moreM p P h).toNat))
theorem cutS_le {P h : Nat} : ∀ p, (cutS P h p).2 ≤ p * (64 / P + 1)
  | 0 => by simp [cutS]
  | p + 1 => by
    have h1 := cutS_le (P := P) (h := h) p
    have h2 : (moreM p P h).toNat ≤ 1 := Bool.toNat_le _
    show (cutS P h p).2 + (64 / P + (moreM p P h).toNat) ≤ (p + 1) * (64 / P + 1)
    rw [Nat.succ_mul]; omega
def looksM (M : Nat → Int64) (n : Nat) (c : Int64) : Nat → Nat
  | 0 => 0
  | j + 1 => looksM M n c j + ct (fun k => lk (M j) (M k) c) n
theorem looksM_le (M : Nat → Int64) (n : Nat) (c : Int64) : ∀ j, looksM M n c j ≤ j * n
  | 0 => by simp [looksM]
  | j + 1 => by
    have h1 := looksM_le M n c j
    have h2 := ct_le (fun k => lk (M j) (M k) c) n
    show looksM M n c j + ct (fun k => lk (M j) (M k) c) n ≤ (j + 1) * n
    rw [Nat.succ_mul]; omega
def fewS (f : Nat → Nat) : Nat → Nat × Nat
  | 0 => (0, 0)
  | h + 1 => (if (decide (h = 0) || !decide ((fewS f h).1 ≤ f h)) then f h else (fewS f h).1, if (decide (h ≤ 0) || decide ((fewS f h).1 ≤ f h)) then (fewS f h).2 else h)
theorem fewS_le {f : Nat → Nat} {B : Nat} (h : ∀ i, f i ≤ B) : ∀ i, (fewS f i).1 ≤ B
  | 0 => Nat.zero_le _
  | i + 1 => by
    show (if (decide (i = 0) || !decide ((fewS f i).1 ≤ f i)) then f i else (fewS f i).1) ≤ B
    split
    · exact h i
    · exact fewS_le h i
theorem fewS2_le (f : Nat → Nat) : ∀ i, (fewS f i).2 ≤ i
  | 0 => Nat.zero_le _
  | i + 1 => by
    show (if (decide (i ≤ 0) || decide ((fewS f i).1 ≤ f i)) then (fewS f i).2 else i) ≤ i + 1
    split
    · have := fewS2_le f i; omega
    · omega
theorem looksM_40 (M : Nat → Int64) {n : Nat} (c : Int64) (hn : n ≤ 40) {j : Nat} (hj : j ≤ n) : looksM M n c j ≤ 1600 := by
  have h1 := looksM_le M n c j
  have h2 : j * n ≤ 40 * 40 := Nat.mul_le_mul (by omega) hn
  omega
end
section
/-! maps: copies and shifts of rows -/
def cpL {α : Type} (m : Nat → Nat → α) (dst dp src sp len : Nat) : Nat → Nat → α := fun a k => if a = dst ∧ dp ≤ k ∧ k < dp + len then m src (sp + (k - dp)) else m a k
def shL {α : Type} (m : Nat → Nat → α) (id lo d len : Nat) : Nat → Nat → α := fun a k => if a = id ∧ lo ≤ k ∧ k < lo + len then m a (k + d) else m a k
theorem u2_at {α : Type} (f : Nat → Nat → α) (i k : Nat) (v : α) (a b : Nat) : u2 f i k v a b = if a = i ∧ b = k then v else f a b := by
  by_cases h : a = i
  · subst h; rw [u2_s]; by_cases h2 : b = k <;> simp [uf, h2]
  · rw [u2_n _ _ _ h]; simp [h]
theorem cpL_0 {α : Type} (m : Nat → Nat → α) (dst dp src sp : Nat) : cpL m dst dp src sp 0 = m := by
  funext a k; unfold cpL; rw [if_neg (by omega)]
theorem cpL_n {α : Type} (m : Nat → Nat → α) {dst dp src sp len a : Nat} (h : a ≠ dst) : cpL m dst dp src sp len a = m a := by
  funext k; unfold cpL; rw [if_neg (by intro q; exact h q.1)]
theorem cpL_in {α : Type} (m : Nat → Nat → α) {dst dp src sp len j : Nat} (h : j < len) : cpL m dst dp src sp len dst (dp + j) = m src (sp + j) := by
  unfold cpL; rw [if_pos (by omega), show dp + j - dp = j by omega]
theorem cpL_out {α : Type} (m : Nat → Nat → α) {dst dp src sp len a k : Nat} (h : k < dp ∨ dp + len ≤ k) : cpL m dst dp src sp len a k = m a k := by
  unfold cpL; rw [if_neg (by omega)]
theorem cpL_step {α : Type} (m : Nat → Nat → α) {dst dp src sp i x y : Nat} (hd : src ≠ dst) (hx : x = dp + i) (hy : y = sp + i) : cpL m dst dp src sp (i + 1) = u2 (cpL m dst dp src sp i) dst x (cpL m dst dp src sp i src y) := by
  subst hx; subst hy
  funext a k
  rw [u2_at, cpL_n m hd]
  unfold cpL
  by_cases h1 : a = dst ∧ k = dp + i
  · rw [if_pos h1, if_pos (by omega), h1.2, show dp + i - dp = i by omega]
  · rw [if_neg h1]
    by_cases h2 : a = dst ∧ dp ≤ k ∧ k < dp + i
    · rw [if_pos (by omega), if_pos h2]
    · rw [if_neg (by omega), if_neg h2]
theorem shL_0 {α : Type} (m : Nat → Nat → α) (id lo d : Nat) : shL m id lo d 0 = m := by
  funext a k; unfold shL; rw [if_neg (by omega)]
theorem shL_n {α : Type} (m : Nat → Nat → α) {id lo d len a : Nat} (h : a ≠ id) : shL m id lo d len a = m a := by
  funext k; unfold shL; rw [if_neg (by intro q; exact h q.1)]
theorem shL_in {α : Type} (m : Nat → Nat → α) {id lo d len k : Nat} (h : lo ≤ k) (h2 : k < lo + len) : shL m id lo d len id k = m id (k + d) := by
  unfold shL; rw [if_pos ⟨rfl, h, h2⟩]
theorem shL_out {α : Type} (m : Nat → Nat → α) {id lo d len a k : Nat} (h : k < lo ∨ lo + len ≤ k) : shL m id lo d len a k = m a k := by
  unfold shL; rw [if_neg (by omega)]
theorem shL_step {α : Type} (m : Nat → Nat → α) {id lo d i x y : Nat} (hd : 0 < d) (hx : x = lo + i) (hy : y = lo + i + d) : shL m id lo d (i + 1) = u2 (shL m id lo d i) id x (shL m id lo d i id y) := by
  subst hx; subst hy
  funext a k
  rw [u2_at]
  unfold shL
  by_cases h1 : a = id ∧ k = lo + i
  · rw [if_pos h1, if_pos (by omega), if_neg (by omega), h1.1, h1.2]
  · rw [if_neg h1]
    by_cases h2 : a = id ∧ lo ≤ k ∧ k < lo + i
    · rw [if_pos (by omega), if_pos h2]
    · rw [if_neg (by omega), if_neg h2]
theorem u2_u2 {α : Type} (f : Nat → Nat → α) (i k : Nat) (v w : α) : u2 (u2 f i k v) i k w = u2 f i k w := by
  funext a b; rw [u2_at, u2_at, u2_at]; by_cases h : a = i ∧ b = k <;> simp [h]
theorem u2_same {α : Type} (f : Nat → Nat → α) (i k : Nat) : u2 f i k (f i k) = f := by
  funext a b; rw [u2_at]; split
  · rename_i h; rw [h.1, h.2]
  · rfl
/-- what note() does: the past is one longer, or goes on by one -/
def noteI (mi : MI) (c : Nat) : MI := if c = 20 then u2 (cpL (u2 (shL mi 99 0 40 760) 95 2 (nI 19)) 99 (40 * 19) 97 0 40) 95 2 (nI (19 + 1)) else u2 (cpL mi 99 (40 * c) 97 0 40) 95 2 (nI (c + 1))
def noteL (ml : ML) (c : Nat) : ML := if c = 20 then cpL (shL ml 98 0 43 817) 98 (43 * 19) 96 0 43 else cpL ml 98 (43 * c) 96 0 43
theorem noteL_n (ml : ML) (c : Nat) {a : Nat} (h : a ≠ 98) : noteL ml c a = ml a := by
  unfold noteL; split
  · rw [cpL_n _ h, shL_n _ h]
  · rw [cpL_n _ h]
theorem noteI_n (mi : MI) (c : Nat) {a : Nat} (h : a ≠ 99) (h2 : a ≠ 95) : noteI mi c a = mi a := by
  unfold noteI; split
  · rw [u2_n _ _ _ h2, cpL_n _ h, u2_n _ _ _ h2, shL_n _ h]
  · rw [u2_n _ _ _ h2, cpL_n _ h]
theorem noteI_95 (mi : MI) (c : Nat) {k : Nat} (h : k ≠ 2) : noteI mi c 95 k = mi 95 k := by
  unfold noteI; split
  · rw [u2_s, uf_n _ _ h, cpL_n _ (by decide), u2_s, uf_n _ _ h, shL_n _ (by decide)]
  · rw [u2_s, uf_n _ _ h, cpL_n _ (by decide)]
theorem noteI_c (mi : MI) (c : Nat) : noteI mi c 95 2 = if c = 20 then nI 20 else nI (c + 1) := by
  unfold noteI; split
  · rw [u2_s, uf_s]
  · rw [u2_s, uf_s]
/-- the next seed -/
def nxt (z : Nat) : Nat := (z * 1103515245 + 12345) % 2147483648
theorem nxt_lt (z : Nat) : nxt z < 2147483648 := Nat.mod_lt _ (by decide)
/-- pictures -/
def turnS (h : Int64) : Nat → Int64
  | 0 => 0
  | b + 1 => turnS h b ||| (if bt h b then shl 1 (8 * (b % 8) + 7 - b / 8) else 0)
def mirS (h : Int64) : Nat → Int64
  | 0 => 0
  | b + 1 => mirS h b ||| (if bt h b then shl 1 (b / 8 * 8 + 7 - b % 8) else 0)
def rowsS (x : Int64) : Nat → Int64
  | 0 => 0
  | r + 1 => rowsS x r ||| shl x (8 * r)
def typed (h : Int64) (r d : Nat) : Int64 := h &&& (shl 255 (8 * r) ^^^ (-1)) ||| shl (lN d) (8 * r)
theorem pop_pos {x : Int64} (h : bt x 0 = true) : 1 ≤ pop x := by
  have := ct_mono (bt x) (show 1 ≤ 64 by decide)
  have e : ct (bt x) 1 = 1 := by simp [ct, h]
  unfold pop; omega
/-- one of the times by draws, in the reference -/
def lotW (z : Nat) : Nat := nxt z / 65536 % 4
def lotH (h : Int64) (z : Nat) : Int64 := if lotW z = 0 then rowsS (lN (nxt (nxt (nxt z)) / 65536 % 256)) 8 else if lotW z = 1 ∨ lotW z = 2 then h ^^^ shl 1 (nxt (nxt z) / 65536 % 64) else h
def lotZ (z : Nat) : Nat := if lotW z = 0 then nxt (nxt (nxt z)) else if lotW z = 1 ∨ lotW z = 2 then nxt (nxt z) else nxt z
theorem lotZ_lt (z : Nat) : lotZ z < 2147483648 := by
  unfold lotZ; split
  · exact nxt_lt _
  · split <;> exact nxt_lt _
def lotA (ml : ML) (n z : Nat) : Bool := decide (lastB (fun k => decide (oM ml k = lotH (ml 96 0) z)) n = -1) && decide (n < 40)
def lotI (mi : MI) (ml : ML) (c n z : Nat) : MI := if lotA ml n z then u2 (u2 (noteI mi c) 95 9 (nI (lotZ z))) 97 n (nI 0) else u2 (noteI mi c) 95 9 (nI (lotZ z))
def lotL (ml : ML) (c n z : Nat) : ML := if lotA ml n z then u2 (u2 (u2 (noteL ml c) 96 0 (lotH (ml 96 0) z)) 96 (3 + n) (lotH (ml 96 0) z)) 96 2 (lN (n + 1)) else u2 (noteL ml c) 96 0 (lotH (ml 96 0) z)
theorem oM_u0 (ml : ML) (x : Int64) (k : Nat) : oM (u2 ml 96 0 x) k = oM ml k := by unfold oM; rw [u2_s, uf_n _ _ (by omega)]
theorem oM_note (ml : ML) (c k : Nat) : oM (noteL ml c) k = oM ml k := by unfold oM; rw [noteL_n _ _ (by decide)]
/-- the end of a lot: what was found, what was done -/
theorem lot_end {mi mi' : MI} {ml ml' : ML} {c n z : Nat} {h : Int64} {Z : Nat} (hn : n ≤ 40) (eh : h = lotH (ml 96 0) z) (eZ : Z = lotZ z) :
    (lastB (fun k => decide (oM (u2 (noteL ml c) 96 0 h) k = h)) n = -1 → n < 40 → mi' = u2 (u2 (noteI mi c) 95 9 (nI Z)) 97 n (nI 0) → ml' = u2 (u2 (u2 (noteL ml c) 96 0 h) 96 (3 + n) h) 96 2 (lN (n + 1)) → mi' = lotI mi ml c n z ∧ ml' = lotL ml c n z) ∧
    (¬ (lastB (fun k => decide (oM (u2 (noteL ml c) 96 0 h) k = h)) n = -1 ∧ n < 40) → mi' = u2 (noteI mi c) 95 9 (nI Z) → ml' = u2 (noteL ml c) 96 0 h → mi' = lotI mi ml c n z ∧ ml' = lotL ml c n z) := by
  subst eh; subst eZ
  simp only [oM_u0, oM_note]
  refine ⟨fun h1 h2 e1 e2 => ?_, fun h1 e1 e2 => ?_⟩
  · have hA : lotA ml n z = true := by unfold lotA; simp [h1, h2]
    unfold lotI lotL; rw [if_pos hA, if_pos hA]; exact ⟨e1, e2⟩
  · have hA : ¬ lotA ml n z = true := by
      unfold lotA
      intro q
      simp only [Bool.and_eq_true, decide_eq_true_eq] at q
      exact h1 q
    unfold lotI lotL; rw [if_neg hA, if_neg hA]; exact ⟨e1, e2⟩
/-- n times by draws, in the reference: maps, past, marks, seed -/
def drS (mi : MI) (ml : ML) (c n z : Nat) : Nat → MI × ML × Nat × Nat × Nat
  | 0 => (mi, ml, c, n, z)
  | i + 1 => (lotI (drS mi ml c n z i).1 (drS mi ml c n z i).2.1 (drS mi ml c n z i).2.2.1 (drS mi ml c n z i).2.2.2.1 (drS mi ml c n z i).2.2.2.2, lotL (drS mi ml c n z i).2.1 (drS mi ml c n z i).2.2.1 (drS mi ml c n z i).2.2.2.1 (drS mi ml c n z i).2.2.2.2,
      (if (drS mi ml c n z i).2.2.1 = 20 then 20 else (drS mi ml c n z i).2.2.1 + 1), (if lotA (drS mi ml c n z i).2.1 (drS mi ml c n z i).2.2.2.1 (drS mi ml c n z i).2.2.2.2 then (drS mi ml c n z i).2.2.2.1 + 1 else (drS mi ml c n z i).2.2.2.1), lotZ (drS mi ml c n z i).2.2.2.2)
theorem lotI_c (mi : MI) (ml : ML) (c n z : Nat) : lotI mi ml c n z 95 2 = nI (if c = 20 then 20 else c + 1) := by
  unfold lotI; split
  · rw [u2_n _ _ _ (by decide), u2_s, uf_n _ _ (by decide), noteI_c]; split <;> rfl
  · rw [u2_s, uf_n _ _ (by decide), noteI_c]; split <;> rfl
theorem lotI_z (mi : MI) (ml : ML) (c n z : Nat) : lotI mi ml c n z 95 9 = nI (lotZ z) := by
  unfold lotI; split
  · rw [u2_n _ _ _ (by decide), u2_s, uf_s]
  · rw [u2_s, uf_s]
theorem lotL_n {ml : ML} {c n z : Nat} (h : ml 96 2 = lN n) : lotL ml c n z 96 2 = lN (if lotA ml n z then n + 1 else n) := by
  unfold lotL; split
  · rw [u2_s, uf_s]
  · rw [u2_s, uf_n _ _ (by decide), noteL_n _ _ (by decide), h]
theorem drS_ok {mi : MI} {ml : ML} {c n z : Nat} (hc : mi 95 2 = nI c) (hc20 : c ≤ 20) (hn : ml 96 2 = lN n) (hn40 : n ≤ 40) (hz : mi 95 9 = nI z) (hz31 : z < 2147483648) : ∀ i, (drS mi ml c n z i).1 95 2 = nI (drS mi ml c n z i).2.2.1 ∧ (drS mi ml c n z i).2.2.1 ≤ 20 ∧ (drS mi ml c n z i).2.1 96 2 = lN (drS mi ml c n z i).2.2.2.1 ∧ (drS mi ml c n z i).2.2.2.1 ≤ 40 ∧ (drS mi ml c n z i).1 95 9 = nI (drS mi ml c n z i).2.2.2.2 ∧ (drS mi ml c n z i).2.2.2.2 < 2147483648
  | 0 => ⟨hc, hc20, hn, hn40, hz, hz31⟩
  | i + 1 => by
    obtain ⟨h1, h2, h3, h4, h5, h6⟩ := drS_ok hc hc20 hn hn40 hz hz31 i
    refine ⟨lotI_c _ _ _ _ _, ?_, lotL_n h3, ?_, lotI_z _ _ _ _ _, lotZ_lt _⟩
    · show (if (drS mi ml c n z i).2.2.1 = 20 then 20 else (drS mi ml c n z i).2.2.1 + 1) ≤ 20
      split <;> omega
    · show (if lotA (drS mi ml c n z i).2.1 (drS mi ml c n z i).2.2.2.1 (drS mi ml c n z i).2.2.2.2 then (drS mi ml c n z i).2.2.2.1 + 1 else (drS mi ml c n z i).2.2.2.1) ≤ 40
      split
      · rename_i hA
        unfold lotA at hA
        simp only [Bool.and_eq_true, decide_eq_true_eq] at hA
        omega
      · exact h4
end
section
/-! Long.bitCount counts the ones -/
theorem land_app (w a b u v : Nat) (hu : u < 2 ^ w) (hv : v < 2 ^ w) : (2 ^ w * a + u) &&& (2 ^ w * b + v) = 2 ^ w * (a &&& b) + (u &&& v) := by
  apply Nat.eq_of_testBit_eq
  intro i
  have huv : u &&& v < 2 ^ w := Nat.lt_of_le_of_lt Nat.and_le_left hu
  rw [Nat.testBit_and, Nat.testBit_two_pow_mul_add a hu, Nat.testBit_two_pow_mul_add b hv, Nat.testBit_two_pow_mul_add _ huv]
  split
  · rw [Nat.testBit_and]
  · rw [Nat.testBit_and]
theorem land256 (a b : Nat) {u v : Nat} (hu : u < 256) (hv : v < 256) : (256 * a + u) &&& (256 * b + v) = 256 * (a &&& b) + (u &&& v) := land_app 8 a b u v hu hv
def mk8 (b : Nat) : Nat → Nat
  | 0 => 0
  | k + 1 => 256 * mk8 b k + b
def q1 (k X : Nat) : Nat := X - (X / 2 &&& mk8 85 k)
def q2 (k Y : Nat) : Nat := (Y &&& mk8 51 k) + (Y / 4 &&& mk8 51 k)
def q3 (k Y : Nat) : Nat := (Y + Y / 16) &&& mk8 15 k
def b1 (u : Nat) : Nat := u - (u / 2 &&& 85)
def b2 (y : Nat) : Nat := (y &&& 51) + (y / 4 &&& 51)
def b3 (y : Nat) : Nat := (y + y / 16) &&& 15
theorem t_b1 : ∀ u, u < 256 → ∀ t, t < 2 → ((128 * t + u / 2) &&& 85) = (u / 2 &&& 85) ∧ (u / 2 &&& 85) ≤ u ∧ b1 u < 256 := by decide +kernel
theorem t_b2 : ∀ u, u < 256 → ∀ t, t < 4 → ((64 * t + b1 u / 4) &&& 51) = (b1 u / 4 &&& 51) ∧ b2 (b1 u) < 256 ∧ b2 (b1 u) % 16 ≤ 4 ∧ b2 (b1 u) ≤ 68 := by decide +kernel
theorem t_b3 : ∀ u, u < 256 → ∀ t, t < 5 → ((b2 (b1 u) + b2 (b1 u) / 16 + 16 * t) &&& 15) = b3 (b2 (b1 u)) ∧ b3 (b2 (b1 u)) ≤ 8 := by decide +kernel
theorem q1_s (k X u : Nat) (hu : u < 256) : q1 (k + 1) (256 * X + u) = 256 * q1 k X + b1 u := by
  unfold q1
  have e : (256 * X + u) / 2 = 256 * (X / 2) + (128 * (X % 2) + u / 2) := by omega
  obtain ⟨h1, h2, h3⟩ := t_b1 u hu (X % 2) (Nat.mod_lt _ (by decide))
  rw [e, mk8, land256 _ _ (by omega) (by decide), h1]
  have h4 : (X / 2 &&& mk8 85 k) ≤ X := Nat.le_trans Nat.and_le_left (Nat.div_le_self _ _)
  unfold b1
  omega
theorem q2_s (k Y u : Nat) (hu : u < 256) : q2 (k + 1) (256 * Y + b1 u) = 256 * q2 k Y + b2 (b1 u) := by
  unfold q2
  have hb := (t_b1 u hu 0 (by decide)).2.2
  have e : (256 * Y + b1 u) / 4 = 256 * (Y / 4) + (64 * (Y % 4) + b1 u / 4) := by omega
  obtain ⟨h1, h2, h3⟩ := t_b2 u hu (Y % 4) (Nat.mod_lt _ (by decide))
  rw [e, mk8, land256 _ _ hb (by decide), land256 _ _ (by omega) (by decide), h1]
  unfold b2
  omega
theorem q2_m {k X u : Nat} (hu : u < 256) : q2 (k + 1) (q1 (k + 1) (256 * X + u)) % 16 ≤ 4 := by
  rw [q1_s k X u hu, q2_s k _ u hu]
  have := (t_b2 u hu 0 (by decide)).2.2.1
  omega
theorem q3_s (k Y u : Nat) (hu : u < 256) (hY : Y % 16 ≤ 4) : q3 (k + 1) (256 * Y + b2 (b1 u)) = 256 * q3 k Y + b3 (b2 (b1 u)) := by
  unfold q3
  obtain ⟨-, h2, -, h5⟩ := t_b2 u hu 0 (by decide)
  have e : 256 * Y + b2 (b1 u) + (256 * Y + b2 (b1 u)) / 16 = 256 * (Y + Y / 16) + (b2 (b1 u) + b2 (b1 u) / 16 + 16 * (Y % 16)) := by omega
  obtain ⟨h1, -⟩ := t_b3 u hu (Y % 16) (by omega)
  rw [e, mk8, land256 _ _ (by omega) (by decide), h1]
def qq (k X : Nat) : Nat := q3 k (q2 k (q1 k X))
theorem qq_s (k X u : Nat) (hu : u < 256) (hX : q2 k (q1 k X) % 16 ≤ 4) : qq (k + 1) (256 * X + u) = 256 * qq k X + b3 (b2 (b1 u)) := by
  unfold qq; rw [q1_s k X u hu, q2_s k _ u hu, q3_s k _ u hu hX]
def p8 (u : Nat) : Nat := b3 (b2 (b1 u))
theorem qm (k X : Nat) : q2 k (q1 k X) % 16 ≤ 4 := by
  cases k with
  | zero => simp [q2, mk8]
  | succ k =>
    have e : X = 256 * (X / 256) + X % 256 := by omega
    rw [e]; exact q2_m (Nat.mod_lt _ (by decide))
theorem qq_r (k X : Nat) : qq (k + 1) X = 256 * qq k (X / 256) + p8 (X % 256) := by
  have e : X = 256 * (X / 256) + X % 256 := by omega
  have h := qq_s k (X / 256) (X % 256) (Nat.mod_lt _ (by decide)) (qm k _)
  rw [← e] at h
  exact h
def byt (X j : Nat) : Nat := X / 256 ^ j % 256
theorem p8_le (u : Nat) (h : u < 256) : p8 u ≤ 8 := (t_b3 u h 0 (by decide)).2
theorem qq_8 (X : Nat) : qq 8 X = p8 (X % 256) + 256 * (p8 (X / 256 % 256) + 256 * (p8 (X / 256 / 256 % 256) + 256 * (p8 (X / 256 / 256 / 256 % 256) + 256 * (p8 (X / 256 / 256 / 256 / 256 % 256) + 256 * (p8 (X / 256 / 256 / 256 / 256 / 256 % 256) + 256 * (p8 (X / 256 / 256 / 256 / 256 / 256 / 256 % 256) + 256 * p8 (X / 256 / 256 / 256 / 256 / 256 / 256 / 256 % 256))))))) := by
  rw [qq_r, qq_r, qq_r, qq_r, qq_r, qq_r, qq_r, qq_r]
  have : qq 0 (X / 256 / 256 / 256 / 256 / 256 / 256 / 256 / 256) = 0 := by simp [qq, q3, mk8]
  omega
theorem dv (a T : Nat) (h : a < 256) : (a + 256 * T) / 256 = T := by omega
theorem fold8 {d0 d1 d2 d3 d4 d5 d6 d7 : Nat} (h0 : d0 ≤ 8) (h1 : d1 ≤ 8) (h2 : d2 ≤ 8) (h3 : d3 ≤ 8) (h4 : d4 ≤ 8) (h5 : d5 ≤ 8) (h6 : d6 ≤ 8) (h7 : d7 ≤ 8) {Y A B C : Nat} (hY : Y = d0 + 256 * (d1 + 256 * (d2 + 256 * (d3 + 256 * (d4 + 256 * (d5 + 256 * (d6 + 256 * (d7)))))))) (hA : A = Y + Y / 256) (hB : B = A + A / 256 / 256) (hC : C = B + B / 256 / 256 / 256 / 256) : C % 128 = d0 + d1 + d2 + d3 + d4 + d5 + d6 + d7 ∧ C < 2 ^ 63 := by
  rw [hY, dv _ _ (by omega)] at hA
  have e1 : A = (d0 + d1) + 256 * ((d1 + d2) + 256 * ((d2 + d3) + 256 * ((d3 + d4) + 256 * ((d4 + d5) + 256 * ((d5 + d6) + 256 * ((d6 + d7) + 256 * ((d7)))))))) := by rw [hA]; simp only [Nat.mul_add]; omega
  clear hA hY
  rw [e1, dv _ _ (by omega), dv _ _ (by omega)] at hB
  have e2 : B = (d0 + d1 + d2 + d3) + 256 * ((d1 + d2 + d3 + d4) + 256 * ((d2 + d3 + d4 + d5) + 256 * ((d3 + d4 + d5 + d6) + 256 * ((d4 + d5 + d6 + d7) + 256 * ((d5 + d6 + d7) + 256 * ((d6 + d7) + 256 * ((d7)))))))) := by rw [hB]; simp only [Nat.mul_add]; omega
  clear hB e1
  rw [e2, dv _ _ (by omega), dv _ _ (by omega), dv _ _ (by omega), dv _ _ (by omega)] at hC
  have e3 : C = (d0 + d1 + d2 + d3 + d4 + d5 + d6 + d7) + 256 * ((d1 + d2 + d3 + d4 + d5 + d6 + d7) + 256 * ((d2 + d3 + d4 + d5 + d6 + d7) + 256 * ((d3 + d4 + d5 + d6 + d7) + 256 * ((d4 + d5 + d6 + d7) + 256 * ((d5 + d6 + d7) + 256 * ((d6 + d7) + 256 * ((d7)))))))) := by rw [hC]; simp only [Nat.mul_add]; omega
  clear hC e2
  constructor
  · rw [e3]
    generalize (d1 + d2 + d3 + d4 + d5 + d6 + d7) + 256 * ((d2 + d3 + d4 + d5 + d6 + d7) + 256 * ((d3 + d4 + d5 + d6 + d7) + 256 * ((d4 + d5 + d6 + d7) + 256 * ((d5 + d6 + d7) + 256 * ((d6 + d7) + 256 * ((d7))))))) = T
    omega
  · rw [e3]
    simp only [Nat.mul_add]
    omega
theorem p8_ct : ∀ u, u < 256 → p8 u = ct (fun i => u.testBit i) 8 := by decide +kernel
theorem ct_add (p : Nat → Bool) (m : Nat) : ∀ n, ct p (m + n) = ct p m + ct (fun i => p (m + i)) n
  | 0 => rfl
  | n + 1 => by
    show ct p (m + n) + (p (m + n)).toNat = ct p m + (ct (fun i => p (m + i)) n + (p (m + n)).toNat)
    rw [ct_add p m n]; omega
theorem ct_byte (X j : Nat) : ct (fun i => X.testBit (8 * j + i)) 8 = p8 (X / 256 ^ j % 256) := by
  rw [p8_ct _ (Nat.mod_lt _ (by decide))]
  apply ct_cong
  intro i hi
  rw [show (256 : Nat) = 2 ^ 8 from rfl, Nat.testBit_mod_two_pow, ← Nat.pow_mul, Nat.testBit_div_two_pow, Nat.add_comm (8 * j) i]
  simp [hi]
theorem bt_tb (x : Int64) (i : Nat) : bt x i = x.toBitVec.toNat.testBit i := rfl
theorem pop_p8 (x : Int64) : pop x = p8 (x.toBitVec.toNat / 256 ^ 0 % 256) + p8 (x.toBitVec.toNat / 256 ^ 1 % 256) + p8 (x.toBitVec.toNat / 256 ^ 2 % 256) + p8 (x.toBitVec.toNat / 256 ^ 3 % 256) + p8 (x.toBitVec.toNat / 256 ^ 4 % 256) + p8 (x.toBitVec.toNat / 256 ^ 5 % 256) + p8 (x.toBitVec.toNat / 256 ^ 6 % 256) + p8 (x.toBitVec.toNat / 256 ^ 7 % 256) := by
  have e : pop x = ct (fun i => x.toBitVec.toNat.testBit i) (8 + (8 + (8 + (8 + (8 + (8 + (8 + 8))))))) := rfl
  rw [e, ct_add _ 8, ct_add _ 8, ct_add _ 8, ct_add _ 8, ct_add _ 8, ct_add _ 8, ct_add _ 8]
  have h : ∀ j, ct (fun i => x.toBitVec.toNat.testBit (8 * j + i)) 8 = p8 (x.toBitVec.toNat / 256 ^ j % 256) := ct_byte _
  have h0 := h 0; have h1 := h 1; have h2 := h 2; have h3 := h 3; have h4 := h 4; have h5 := h 5; have h6 := h 6; have h7 := h 7
  simp only [Nat.mul_zero, Nat.zero_add, Nat.mul_one] at h0 h1
  rw [← h0, ← h1, ← h2, ← h3, ← h4, ← h5, ← h6, ← h7]
  have g : ∀ a b i : Nat, a + (b + i) = (a + b) + i := fun a b i => by omega
  simp only [g]
theorem lN_tb (n : Nat) : (lN n).toBitVec = BitVec.ofNat 64 n := rfl
theorem lN_tn {n : Nat} (h : n < 2 ^ 64) : (lN n).toBitVec.toNat = n := by rw [lN_tb, BitVec.toNat_ofNat, Nat.mod_eq_of_lt h]
theorem lN_of (x : Int64) : lN x.toBitVec.toNat = x := by
  apply Int64.toBitVec_inj.mp
  rw [lN_tb, BitVec.ofNat_toNat, BitVec.setWidth_eq]
theorem lN_land (a b : Nat) : lN a &&& lN b = lN (a &&& b) := by
  apply Int64.toBitVec_inj.1
  show BitVec.ofNat 64 a &&& BitVec.ofNat 64 b = BitVec.ofNat 64 (a &&& b)
  apply BitVec.eq_of_getLsbD_eq
  intro i hi
  simp [hi]
theorem ushr_lN {X k : Nat} (hX : X < 2 ^ 64) (hk : k < 64) : ushr (lN X) k = lN (X / 2 ^ k) := by
  apply bt_ext
  intro i hi
  rw [bt_ushr _ hk, bt_tb, bt_tb, lN_tn hX, lN_tn (Nat.lt_of_le_of_lt (Nat.div_le_self _ _) hX), Nat.testBit_div_two_pow, Nat.add_comm]
theorem nI_127 (a : Nat) : nI a &&& nI 127 = nI (a % 128) := by
  apply Int32.toBitVec_inj.1
  show BitVec.ofNat 32 a &&& BitVec.ofNat 32 127 = BitVec.ofNat 32 (a % 128)
  apply BitVec.eq_of_getLsbD_eq
  intro i hi
  have h1 : (127 : Nat).testBit i = decide (i < 7) := (by decide +kernel : ∀ i, i < 32 → (127 : Nat).testBit i = decide (i < 7)) i hi
  rw [BitVec.getLsbD_and, BitVec.getLsbD_ofNat, BitVec.getLsbD_ofNat, BitVec.getLsbD_ofNat, h1, show (128 : Nat) = 2 ^ 7 from rfl, Nat.testBit_mod_two_pow]
  simp [hi, Bool.and_comm]
theorem q_le (X : Nat) (hX : X < 2 ^ 64) : q1 8 X < 2 ^ 64 ∧ q2 8 (q1 8 X) < 2 ^ 63 ∧ (X / 2 &&& mk8 85 8) ≤ X := by
  refine ⟨Nat.lt_of_le_of_lt (Nat.sub_le _ _) hX, ?_, Nat.le_trans Nat.and_le_left (Nat.div_le_self _ _)⟩
  unfold q2
  have h1 : (q1 8 X &&& mk8 51 8) ≤ mk8 51 8 := Nat.and_le_right
  have h2 : (q1 8 X / 4 &&& mk8 51 8) ≤ mk8 51 8 := Nat.and_le_right
  have h3 : mk8 51 8 = 3689348814741910323 := by decide
  omega
/-- the end of bitCount -/
theorem bc_end {X : Nat} (hX : X < 2 ^ 64) {A B C : Nat} (hA : A = qq 8 X + qq 8 X / 256) (hB : B = A + A / 65536) (hC : C = B + B / 4294967296) : nI (C % 128) = nI (pop (lN X)) := by
  have e := fold8 (B := B) (C := C) (p8_le (X % 256) (Nat.mod_lt _ (by decide))) (p8_le (X / 256 % 256) (Nat.mod_lt _ (by decide))) (p8_le (X / 256 / 256 % 256) (Nat.mod_lt _ (by decide))) (p8_le (X / 256 / 256 / 256 % 256) (Nat.mod_lt _ (by decide))) (p8_le (X / 256 / 256 / 256 / 256 % 256) (Nat.mod_lt _ (by decide))) (p8_le (X / 256 / 256 / 256 / 256 / 256 % 256) (Nat.mod_lt _ (by decide))) (p8_le (X / 256 / 256 / 256 / 256 / 256 / 256 % 256) (Nat.mod_lt _ (by decide))) (p8_le (X / 256 / 256 / 256 / 256 / 256 / 256 / 256 % 256) (Nat.mod_lt _ (by decide))) (qq_8 X) hA (by rw [hB, Nat.div_div_eq_div_mul]) (by rw [hC, Nat.div_div_eq_div_mul, Nat.div_div_eq_div_mul, Nat.div_div_eq_div_mul])
  rw [e.1, pop_p8, lN_tn hX]
  simp only [Nat.div_div_eq_div_mul, Nat.pow_zero, Nat.div_one, Nat.reducePow, Nat.reduceMul]
theorem isMk_cl (n : Nat) (k : Int32) : (!decide (k < 0) && !decide (nI n ≤ k)) = isMk n k := by
  have e1 : (k < 0) ↔ ¬ 0 ≤ k := by rw [Int32.lt_iff_toInt_lt, Int32.le_iff_toInt_le]; omega
  have e2 : (nI n ≤ k) ↔ ¬ k < nI n := by rw [Int32.lt_iff_toInt_lt, Int32.le_iff_toInt_le]; omega
  unfold isMk
  simp only [e1, e2]
  by_cases a1 : 0 ≤ k <;> by_cases a2 : k < nI n <;> simp [a1, a2]
theorem or0 (x : Int64) : x ||| 0 = x := by
  apply bt_ext; intro i hi; rw [bt_or, bt_0, Bool.or_false]
/-- the widest of a set, gone through as the class does -/
def wdI (b : Nat → Bool) (f : Nat → Nat → Nat) (j m : Nat) : Nat → Nat
  | 0 => m
  | t + 1 => if b j && b (j + 1 + t) then (if decide (wdI b f j m t < f j (j + 1 + t)) then f j (j + 1 + t) else wdI b f j m t) else wdI b f j m t
def wdO (b : Nat → Bool) (f : Nat → Nat → Nat) (n : Nat) : Nat → Nat
  | 0 => 0
  | j + 1 => wdI b f j (wdO b f n j) (n - (j + 1))
theorem wdI_le {b : Nat → Bool} {f : Nat → Nat → Nat} {j m : Nat} (hf : ∀ x y, f x y ≤ 64) (hm : m ≤ 64) : ∀ t, wdI b f j m t ≤ 64
  | 0 => hm
  | t + 1 => by
    have h := wdI_le (b := b) (j := j) hf hm t
    unfold wdI; split
    · split
      · exact hf _ _
      · exact h
    · exact h
theorem wdO_le {b : Nat → Bool} {f : Nat → Nat → Nat} {n : Nat} (hf : ∀ x y, f x y ≤ 64) : ∀ j, wdO b f n j ≤ 64
  | 0 => Nat.zero_le _
  | j + 1 => wdI_le hf (wdO_le hf j) _
theorem lN_mask31 (a : Nat) : lN a &&& lN 2147483647 = lN (a % 2147483648) := by
  rw [lN_land, show (2147483647 : Nat) = 2 ^ 31 - 1 from rfl, Nat.and_two_pow_sub_one_eq_mod]
/-- one part alike, by the masks -/
def anyP (d : Int64) (mk : Nat → Int64) (c : Nat) : Bool := !alB (fun p => !decide (d &&& mk p = 0)) c
def turnO (p P h : Nat) : Nat := if h = 0 then p else if h = 1 then P - 1 - p else if p % 2 = 0 then p / 2 else (P + 1) / 2 + p / 2
def evS (P h : Nat) : Nat → Int64 × Nat
  | 0 => (0, 0)
  | p + 1 => ((evS P h p).1 ||| shl 1 (evS P h p).2, (evS P h p).2 + (if decide (64 - 64 / P * P ≤ turnO p P h) then 64 / P else 64 / P + 1))
def rowsE (d : Nat) : Nat → Int64
  | 0 => 0
  | r + 1 => typed (rowsE d r) r d
theorem fromB_hit {p : Nat → Bool} {d i : Nat} (h : p i = true) : fromB p (d + 1) i = nI i := by rw [fromB, if_pos h]
theorem fromB_miss {p : Nat → Bool} {d i : Nat} (h : p i = false) : fromB p (d + 1) i = fromB p d (i + 1) := by rw [fromB, if_neg (by rw [h]; decide)]
theorem ct_t {p : Nat → Bool} {n : Nat} (h : p n = true) : ct p (n + 1) = ct p n + 1 := by rw [ct, h]; rfl
theorem ct_f {p : Nat → Bool} {n : Nat} (h : p n = false) : ct p (n + 1) = ct p n := by rw [ct, h]; rfl
theorem wdI_y {b : Nat → Bool} {f : Nat → Nat → Nat} {j m t : Nat} (h1 : b j = true) (h2 : b (j + 1 + t) = true) : wdI b f j m (t + 1) = if decide (wdI b f j m t < f j (j + 1 + t)) then f j (j + 1 + t) else wdI b f j m t := by
  rw [wdI, if_pos (by rw [h1, h2]; rfl)]
theorem wdI_n1 {b : Nat → Bool} {f : Nat → Nat → Nat} {j m t : Nat} (h1 : b j = false) : wdI b f j m (t + 1) = wdI b f j m t := by
  rw [wdI, if_neg (by rw [h1]; simp)]
theorem wdI_n2 {b : Nat → Bool} {f : Nat → Nat → Nat} {j m t : Nat} (h1 : b (j + 1 + t) = false) : wdI b f j m (t + 1) = wdI b f j m t := by
  rw [wdI, if_neg (by rw [h1]; simp)]
section ROWS4
variable {γ : GT} {l : Launch} {o : OM} {own : String} {cc : ByteArray} {n : Nat} {r : Option FieldType} {fr lo : Nat} {P : Option Value → MI → ML → Prop}
variable {mi : MI} {ml : ML} {pc : Nat} {lv : List (Nat × Value)} {rest : List Value}
theorem w_ma_s : Cond.static y_Ma_max ∈ gtbl := ok_Ma_max.1
theorem w_ma_i : Cond.initialized "java/lang/Math" ∈ gtbl := ok_Ma_max.2.1
theorem r_max (X : Cx γ l o own cc n r fr lo P) {ix a b : Nat} (ha : a < 2147483648) (hb : b < 2147483648) (w : Cond.methodLink own ix y_Ma_max ∈ gtbl) (hfr : 1 ≤ fr) (hlo : (rest.map fun v => v.category).sum + 13 ≤ lo) (d : decode cc pc = .ok (.invokestatic ix, 3)) (k : V γ o n mi ml (pc + 3) lv (.int (nI (if decide (a < b) then b else a)) :: rest)) : V γ o n mi ml pc lv (.int (nI b) :: .int (nI a) :: rest) := by
  obtain ⟨x1, x2, x3, x4, x5, x6, x7, x8, x9, x10, x11, x12⟩ := X
  intro H locs ls h1 h2 h3
  refine va_mmax x1 x2 (by rw [x3]; exact h3.1.symm) x4 (x5 _ w) (x5 _ ok_Ma_max.1) (x5 _ w_ma_i) (x5 _ wc_Ma_max) (by rw [x9]; exact hfr) (by rw [x10]; exact hlo) (Nat.zero_le _) (Nat.zero_le _) d ?_
  have e : (if nI a < nI b then nI b else nI a) = nI (if decide (a < b) then b else a) := by
    have := nI_ltI ha hb
    by_cases h : a < b <;> simp [this, h]
  rw [e]
  exact k H locs ls h1 h2 h3
theorem r_min (X : Cx γ l o own cc n r fr lo P) {ix a b : Nat} (ha : a < 2147483648) (hb : b < 2147483648) (w : Cond.methodLink own ix y_Ma_min ∈ gtbl) (hfr : 1 ≤ fr) (hlo : (rest.map fun v => v.category).sum + 13 ≤ lo) (d : decode cc pc = .ok (.invokestatic ix, 3)) (k : V γ o n mi ml (pc + 3) lv (.int (nI (if decide (b < a) then b else a)) :: rest)) : V γ o n mi ml pc lv (.int (nI b) :: .int (nI a) :: rest) := by
  obtain ⟨x1, x2, x3, x4, x5, x6, x7, x8, x9, x10, x11, x12⟩ := X
  intro H locs ls h1 h2 h3
  refine va_mmin x1 x2 (by rw [x3]; exact h3.1.symm) x4 (x5 _ w) (x5 _ ok_Ma_min.1) (x5 _ w_ma_i) (x5 _ wc_Ma_min) (by rw [x9]; exact hfr) (by rw [x10]; exact hlo) (Nat.zero_le _) (Nat.zero_le _) d ?_
  have e : (if nI b < nI a then nI b else nI a) = nI (if decide (b < a) then b else a) := by
    have := nI_ltI hb ha
    by_cases h : b < a <;> simp [this, h]
  rw [e]
  exact k H locs ls h1 h2 h3
end ROWS4
end
section
/-! pure facts for the class: pictures, the past's ring, parts -/
theorem turn_y {x : Int64} {r c : Nat} (hc : c < 8) (h : bt x (8 * r + c) = true) : turnS x (8 * r + c + 1) = turnS x (8 * r + c) ||| shl 1 (8 * c + (7 - r)) ∨ 8 ≤ r := by
  rcases Nat.lt_or_ge r 8 with hr | hr
  · left
    rw [turnS, if_pos h, show 8 * ((8 * r + c) % 8) + 7 - (8 * r + c) / 8 = 8 * c + (7 - r) by omega]
  · right; exact hr
theorem turn_n {x : Int64} {b : Nat} (h : bt x b = false) : turnS x (b + 1) = turnS x b := by
  rw [turnS, if_neg (by rw [h]; decide), or0]
theorem mir_y {x : Int64} {r c : Nat} (hc : c < 8) (h : bt x (8 * r + c) = true) : mirS x (8 * r + c + 1) = mirS x (8 * r + c) ||| shl 1 (8 * r + (7 - c)) := by
  rw [mirS, if_pos h, show (8 * r + c) / 8 * 8 + 7 - (8 * r + c) % 8 = 8 * r + (7 - c) by omega]
theorem mir_n {x : Int64} {b : Nat} (h : bt x b = false) : mirS x (b + 1) = mirS x b := by
  rw [mirS, if_neg (by rw [h]; decide), or0]
theorem sub_add20 {a b : Nat} (h : b ≤ a + 20) : nI a - nI b + nI 20 = nI (a + 20 - b) := by
  rw [← pk_sub h, ← nI_add, Int32.sub_eq_add_neg, Int32.sub_eq_add_neg, Int32.add_assoc, Int32.add_comm (-nI b), ← Int32.add_assoc]
def bkN (nx q : Nat) : Nat := if decide (nx < q) then nx + 20 - q else nx - q
theorem bkN_lt {nx q : Nat} (h : nx < 20) (hq : q ≤ 20) (h1 : 1 ≤ q) : bkN nx q < 20 := by
  unfold bkN; split
  · rename_i h2; simp at h2; omega
  · omega
/-- a store becomes another -/
def bcI (mi : MI) (a b n : Nat) : MI := cpL (u2 mi a 2 (nI n)) (a + 2) 0 (b + 2) 0 n
def bcL (ml : ML) (a b n : Nat) : ML := cpL (u2 (u2 ml a 0 (ml b 0)) a 1 (ml b 1)) (a + 1) 0 (b + 1) 0 n
theorem bcI_n (mi : MI) {a b n t : Nat} (h : t ≠ a) (h2 : t ≠ a + 2) : bcI mi a b n t = mi t := by unfold bcI; rw [cpL_n _ h2, u2_n _ _ _ h]
theorem bcL_n (ml : ML) {a b n t : Nat} (h : t ≠ a) (h2 : t ≠ a + 1) : bcL ml a b n t = ml t := by unfold bcL; rw [cpL_n _ h2, u2_n _ _ _ h, u2_n _ _ _ h]
def remI (mi : MI) (nx c n : Nat) : MI := u2 (u2 (bcI mi (6 + 3 * nx) 1 n) 4 1 (nI (if decide (20 ≤ nx + 1) then 0 else nx + 1))) 4 2 (nI (if decide (20 < c + 1) then 20 else c + 1))
def remL (ml : ML) (nx n : Nat) : ML := bcL ml (6 + 3 * nx) 1 n
theorem remI_n (mi : MI) {nx c n t : Nat} (h : t ≠ 6 + 3 * nx) (h2 : t ≠ 6 + 3 * nx + 2) (h3 : t ≠ 4) : remI mi nx c n t = mi t := by unfold remI; rw [u2_n _ _ _ h3, u2_n _ _ _ h3, bcI_n _ h h2]
theorem remL_n (ml : ML) {nx n t : Nat} (h : t ≠ 6 + 3 * nx) (h2 : t ≠ 6 + 3 * nx + 1) : remL ml nx n t = ml t := bcL_n _ h h2
/-- parts as a cut says -/
def PtOK (mi : MI) (ml : ML) (a : Nat) (x : Int64) : Prop := mi a 2 = nI (pop x) ∧ (∀ p, p < pop x → mi (a + 1) p = nI (kth x p)) ∧ ∀ p, p < pop x → ∀ j, j < 64 → bt (ml (a + 2) p) j = (decide (kth x p ≤ j) && decide (j < enM x p))
theorem kth_un {x : Int64} {b : Nat} (hb : b < 64) (h : bt x b = true) : kth x (ct (bt x) b) = b := by
  have h1 : ct (bt x) b < pop x := by
    have := ct_mono (bt x) (show b + 1 ≤ 64 by omega)
    have e : ct (bt x) (b + 1) = ct (bt x) b + 1 := ct_t h
    unfold pop; omega
  obtain ⟨a1, a2, a3⟩ := kth_spec h1
  rcases Nat.lt_trichotomy (kth x (ct (bt x) b)) b with q | q | q
  · have := ct_mono (bt x) (show kth x (ct (bt x) b) + 1 ≤ b by omega)
    rw [ct_t a2] at this; omega
  · exact q
  · have := ct_mono (bt x) (show b + 1 ≤ kth x (ct (bt x) b) by omega)
    rw [ct_t h] at this; omega
theorem kth_ge {x : Int64} {p i : Nat} (hp : p < pop x) (h : ct (bt x) i ≤ p) : i ≤ kth x p := by
  obtain ⟨a1, a2, a3⟩ := kth_spec hp
  rcases Nat.lt_or_ge (kth x p) i with q | q
  · have := ct_mono (bt x) (show kth x p + 1 ≤ i by omega)
    rw [ct_t a2] at this; omega
  · exact q
theorem kth_lt_of {x : Int64} {p i : Nat} (hp : p < pop x) (h : p < ct (bt x) i) : kth x p < i := by
  obtain ⟨a1, a2, a3⟩ := kth_spec hp
  rcases Nat.lt_or_ge (kth x p) i with q | q
  · exact q
  · have := ct_mono (bt x) q
    omega
theorem en_gt {x : Int64} {p i : Nat} (hi : i < 64) (h : ct (bt x) (i + 1) ≤ p + 1) : i < enM x p := by
  unfold enM; split
  · exact hi
  · rename_i h2; simp at h2; exact kth_ge h2 h
theorem en_le {x : Int64} {p i : Nat} (hi : i ≤ 64) (h : p + 1 < ct (bt x) i) : enM x p < i := by
  have h0 := ct_mono (bt x) hi
  unfold enM; split
  · rename_i h2; simp at h2; unfold pop at h2; omega
  · rename_i h2; simp at h2; exact kth_lt_of h2 h
theorem bt_sh1 {i j : Nat} (hi : i < 64) (hj : j < 64) : bt (shl 1 i) j = decide (j = i) := by
  rw [bt_shl 1 hi hj, bt_1]
  by_cases h : j = i
  · subst h; simp
  · by_cases h2 : i ≤ j
    · have : ¬ j - i = 0 := by omega
      simp [h, this]
    · simp [h, h2]
/-- masks while they are laid: up to bit i -/
def mkP (x : Int64) (i p j : Nat) : Bool := decide (kth x p ≤ j) && (decide (j < i) && decide (j < enM x p))
theorem mk_old {x : Int64} {i p j : Nat} (hi : i < 64) (h : p + 1 < ct (bt x) (i + 1)) : mkP x (i + 1) p j = mkP x i p j := by
  unfold mkP
  have := en_le (show i + 1 ≤ 64 by omega) h
  by_cases h1 : j < enM x p
  · have h2 : j < i := by omega
    have h3 : j < i + 1 := by omega
    simp [h1, h2, h3]
  · simp [h1]
theorem mk_cur {x : Int64} {i p j : Nat} (hi : i < 64) (hj : j < 64) (hp : p + 1 = ct (bt x) (i + 1)) {M : Int64} (hM : bt M j = mkP x i p j) : bt (M ||| shl 1 i) j = mkP x (i + 1) p j := by
  rw [bt_or, bt_sh1 hi hj, hM]
  have hp2 : p < pop x := by have := ct_mono (bt x) (show i + 1 ≤ 64 by omega); unfold pop; omega
  have h1 := en_gt hi (show ct (bt x) (i + 1) ≤ p + 1 by omega)
  have h2 := kth_lt_of hp2 (show p < ct (bt x) (i + 1) by omega)
  unfold mkP
  by_cases e : j = i
  · subst e
    have h3 : kth x p ≤ j := by omega
    simp [h1, h3]
  · have e2 : (j < i + 1) ↔ (j < i) := by omega
    simp [e, e2]
theorem mk_new {x : Int64} {i p j : Nat} (hi : i < 64) (hb : bt x i = true) (hp : p = ct (bt x) i) : mkP x i p j = false := by
  unfold mkP; subst hp
  rw [kth_un hi hb]
  by_cases e : j < i
  · simp [Nat.not_le.mpr e]
  · simp [e]
theorem mk_end {x : Int64} {p j : Nat} (hj : j < 64) : mkP x 64 p j = (decide (kth x p ≤ j) && decide (j < enM x p)) := by
  unfold mkP; simp [hj]
def ptI (mi : MI) (a : Nat) (x : Int64) (i : Nat) : Prop := mi a 2 = nI (ct (bt x) i) ∧ ∀ p, p < ct (bt x) i → mi (a + 1) p = nI (kth x p)
def ptL (ml : ML) (a : Nat) (x : Int64) (i : Nat) : Prop := ∀ p, p < ct (bt x) i → ∀ j, j < 64 → bt (ml (a + 2) p) j = mkP x i p j
theorem pt_hit_I {mi : MI} {a i : Nat} {x : Int64} (hi : i < 64) (hb : bt x i = true) (h : ptI mi a x i) : ptI (u2 (u2 mi (a + 1) (ct (bt x) i) (nI i)) a 2 (nI (ct (bt x) i + 1))) a x (i + 1) := by
  refine ⟨by rw [u2_s, uf_s, ct_t hb], fun p hp => ?_⟩
  rw [u2_n _ _ _ (by omega), u2_s]
  rw [ct_t hb] at hp
  by_cases e : p = ct (bt x) i
  · subst e; rw [uf_s, kth_un hi hb]
  · rw [uf_n _ _ e]; exact h.2 p (by omega)
theorem pt_miss_I {mi : MI} {a i : Nat} {x : Int64} (hb : bt x i = false) (h : ptI mi a x i) : ptI mi a x (i + 1) := by
  unfold ptI; rw [ct_f hb]; exact h
theorem pt_hit_L {ml : ML} {a i : Nat} {x : Int64} (hi : i < 64) (hb : bt x i = true) (h : ptL ml a x i) : ptL (u2 (u2 ml (a + 2) (ct (bt x) i) 0) (a + 2) (ct (bt x) i) ((0 : Int64) ||| shl 1 i)) a x (i + 1) := by
  intro p hp j hj
  rw [u2_s]
  by_cases e : p = ct (bt x) i
  · subst e; rw [uf_s]
    exact mk_cur hi hj (ct_t hb).symm (by rw [bt_0, mk_new hi hb rfl])
  · rw [uf_n _ _ e, u2_s, uf_n _ _ e]
    rw [ct_t hb] at hp
    rw [h p (by omega) j hj, mk_old hi (by rw [ct_t hb]; omega)]
theorem pt_miss_L {ml : ML} {a i c : Nat} {x : Int64} (hi : i < 64) (hb : bt x i = false) (hc : c + 1 = ct (bt x) i) (h : ptL ml a x i) : ptL (u2 ml (a + 2) c (ml (a + 2) c ||| shl 1 i)) a x (i + 1) := by
  intro p hp j hj
  rw [u2_s]
  rw [ct_f hb] at hp
  by_cases e : p = c
  · subst e; rw [uf_s]
    exact mk_cur hi hj (by rw [ct_f hb]; exact hc) (h p hp j hj)
  · rw [uf_n _ _ e, h p hp j hj, mk_old hi (by rw [ct_f hb]; omega)]
end
section
/-! pure words for the class: columns, groups, what is seen, the book -/
theorem stB_y {p : Nat → Bool} {k : Nat} (h : p k = true) : stB p (k + 1) = stB p k ||| shl 1 k := by rw [stB, if_pos h]
theorem stB_n {p : Nat → Bool} {k : Nat} (h : p k = false) : stB p (k + 1) = stB p k := by rw [stB, if_neg (by rw [h]; decide), or0]
def mstC (f : Nat → Nat) (c : Nat → Bool) : Nat → Nat
  | 0 => 0
  | j + 1 => if c j then (if decide (mstC f c j < cn f c (f j) j + 1) then cn f c (f j) j + 1 else mstC f c j) else mstC f c j
theorem mstC_y {f : Nat → Nat} {c : Nat → Bool} {j : Nat} (h : c j = true) : mstC f c (j + 1) = if decide (mstC f c j < cn f c (f j) j + 1) then cn f c (f j) j + 1 else mstC f c j := by rw [mstC, if_pos h]
theorem mstC_n {f : Nat → Nat} {c : Nat → Bool} {j : Nat} (h : c j = false) : mstC f c (j + 1) = mstC f c j := by rw [mstC, if_neg (by rw [h]; decide)]
theorem mstC_eq (f : Nat → Nat) (c : Nat → Bool) : ∀ j, mstC f c j = mst f c j
  | 0 => rfl
  | j + 1 => by
    have ih := mstC_eq f c j
    unfold mstC mst
    rw [ih]
    by_cases h : c j = true
    · rw [if_pos h, if_pos h]
      by_cases h1 : cn f c (f j) j + 1 ≤ mst f c j
      · have h2 : ¬ mst f c j < cn f c (f j) j + 1 := by omega
        simp [h1, h2]
      · have h2 : mst f c j < cn f c (f j) j + 1 := by omega
        simp [h1, h2]
    · rw [if_neg h, if_neg h]
theorem mstC_le (f : Nat → Nat) (c : Nat → Bool) (j : Nat) : mstC f c j ≤ j := by rw [mstC_eq]; exact mst_le f c j
theorem cn_noA {A : Nat} {f : Nat → Nat} {c : Nat → Bool} {j : Nat} {m : MI} (h : c j = false) (hr : ∀ t, t < 65 → m A t = nI (cn f c t j)) : ∀ t, t < 65 → m A t = nI (cn f c t (j + 1)) := by
  intro t ht
  rw [hr t ht]
  simp [cn, ct, h]
theorem cn_yesA {A : Nat} {f : Nat → Nat} {c : Nat → Bool} {j d : Nat} {m : MI} (h : c j = true) (hd : f j = d) (hr : ∀ t, t < 65 → m A t = nI (cn f c t j)) : ∀ t, t < 65 → u2 m A d (nI (cn f c d j + 1)) A t = nI (cn f c t (j + 1)) := by
  intro t ht
  rw [u2_s]
  by_cases e : t = d
  · subst e; rw [uf_s]; simp [cn, ct, h, hd]
  · rw [uf_n _ _ e, hr t ht]
    have e2 : ¬ f j = t := fun q => e (by rw [← q, hd])
    simp [cn, ct, e2]
theorem askS_y {g : Nat → Nat} {few m : Nat} (h : (askS g few m).1 ≤ g m) : askS g few (m + 1) = askS g few m := by
  rw [askS, if_pos (by simpa using h), if_pos (by simpa using h)]
theorem askS_n {g : Nat → Nat} {few m : Nat} (h : ¬ (askS g few m).1 ≤ g m) : askS g few (m + 1) = (g m, nI m) := by
  rw [askS, if_neg (by simpa using h), if_neg (by simpa using h)]
/-- columns -/
def colS (M : Nat → Int64) (b : Nat) : Nat → Int64
  | 0 => 0
  | k + 1 => colS M b k ||| shl (ushr (M k) b &&& 1) k
def allS (n : Nat) : Int64 := shl 1 n - 1
def deadC (M : Nat → Int64) (n b : Nat) : Bool := decide (colS M b n = 0) || decide (colS M b n = allS n)
def goC (M : Nat → Int64) (n a b : Nat) : Bool := !deadC M n a && (decide (colS M a n = colS M b n) || decide (colS M a n = allS n ^^^ colS M b n))
/-- groups by spreading -/
def clS (M : Nat → Int64) (n b j : Nat) : Int64 := stB (fun k => !decide (b < ds (M j) (M k))) n
def psS (cl : Nat → Int64) (s : Int64) : Nat → Int64
  | 0 => s
  | k + 1 => if bt (psS cl s k) k then psS cl s k ||| cl k else psS cl s k
theorem psS_y {cl : Nat → Int64} {s : Int64} {k : Nat} (h : bt (psS cl s k) k = true) : psS cl s (k + 1) = psS cl s k ||| cl k := by rw [psS, if_pos h]
theorem psS_n {cl : Nat → Int64} {s : Int64} {k : Nat} (h : bt (psS cl s k) k = false) : psS cl s (k + 1) = psS cl s k := by rw [psS, if_neg (by rw [h]; decide)]
def sprS (cl : Nat → Int64) (n : Nat) (s : Int64) : Nat → Int64
  | 0 => s
  | r + 1 => psS cl (sprS cl n s r) n
theorem sprS_fix {cl : Nat → Int64} {n : Nat} {s : Int64} {i : Nat} (h : psS cl (sprS cl n s i) n = sprS cl n s i) : ∀ d, sprS cl n s (i + d) = sprS cl n s i
  | 0 => rfl
  | d + 1 => by
    show psS cl (sprS cl n s (i + d)) n = _
    rw [sprS_fix h d, h]
def jnS (cl : Nat → Int64) (n : Nat) : Nat → Int64 × Nat
  | 0 => (0, 0)
  | k + 1 => if bt (jnS cl n k).1 k then jnS cl n k else ((jnS cl n k).1 ||| sprS cl n (cl k) n, (jnS cl n k).2 + 1)
theorem jnS_y {cl : Nat → Int64} {n k : Nat} (h : bt (jnS cl n k).1 k = true) : jnS cl n (k + 1) = jnS cl n k := by rw [jnS, if_pos h]
theorem jnS_n {cl : Nat → Int64} {n k : Nat} (h : bt (jnS cl n k).1 k = false) : jnS cl n (k + 1) = ((jnS cl n k).1 ||| sprS cl n (cl k) n, (jnS cl n k).2 + 1) := by rw [jnS, if_neg (by rw [h]; decide)]
theorem jnS_le (cl : Nat → Int64) (n : Nat) : ∀ k, (jnS cl n k).2 ≤ k
  | 0 => Nat.le_refl 0
  | k + 1 => by
    have h := jnS_le cl n k
    by_cases e : bt (jnS cl n k).1 k = true
    · rw [jnS_y e]; omega
    · rw [jnS_n (by simpa using e)]; show (jnS cl n k).2 + 1 ≤ k + 1; omega
theorem jnS_mono {cl : Nat → Int64} {n : Nat} : ∀ {a b : Nat}, a ≤ b → (jnS cl n a).2 ≤ (jnS cl n b).2 := by
  intro a b h
  induction b with
  | zero => rw [show a = 0 by omega]; exact Nat.le_refl _
  | succ b ih =>
    rcases Nat.lt_or_ge b a with h2 | h2
    · rw [show a = b + 1 by omega]; exact Nat.le_refl _
    · refine Nat.le_trans (ih h2) ?_
      by_cases e : bt (jnS cl n b).1 b = true
      · rw [jnS_y e]; exact Nat.le_refl _
      · rw [jnS_n (by simpa using e)]; exact Nat.le_succ _
def jnOK (z : ML) (cl : Nat → Int64) (n i : Nat) : Prop := ∀ k, k < i → bt (jnS cl n k).1 k = false → z 82 (jnS cl n k).2 = sprS cl n (cl k) n
theorem jnOK_y {z : ML} {cl : Nat → Int64} {n i : Nat} (hb : bt (jnS cl n i).1 i = true) (h : jnOK z cl n i) : jnOK z cl n (i + 1) := by
  intro k hk hf
  rcases Nat.lt_or_ge k i with q | q
  · exact h k q hf
  · rw [show k = i by omega] at hf; rw [hb] at hf; cases hf
theorem jnOK_n {z : ML} {cl : Nat → Int64} {n i : Nat} (hb : bt (jnS cl n i).1 i = false) (h : jnOK z cl n i) : jnOK (u2 z 82 (jnS cl n i).2 (sprS cl n (cl i) n)) cl n (i + 1) := by
  intro k hk hf
  rw [u2_s]
  rcases Nat.lt_or_ge k i with q | q
  · have h1 : (jnS cl n (k + 1)).2 ≤ (jnS cl n i).2 := jnS_mono q
    rw [jnS_n hf] at h1
    have h2 : (jnS cl n k).2 + 1 ≤ (jnS cl n i).2 := h1
    rw [uf_n _ _ (by omega)]; exact h k q hf
  · rw [show k = i by omega, uf_s]
def rgC (mi : MI) (ml : ML) (n : Nat) (B1 B2 : Nat → Nat) (e : Nat) : Bool := (isMk n (nI (B1 e)) && (isMk n (nI (B2 e)) && !decide (nI (B1 e) = nI (B2 e)))) && decide (nI (ds (ml 2 (B1 e)) (ml 2 (B2 e))) = mi 93 e)
theorem col_st {z : ML} {M : Nat → Int64} {n i : Nat} (h : ∀ b, b < i → z 85 b = colS M b n) (h2 : z 85 i = colS M i n) : ∀ b, b < i + 1 → z 85 b = colS M b n := by
  intro b hb
  rcases Nat.lt_or_ge b i with q | q
  · exact h b q
  · rw [show b = i by omega]; exact h2
theorem cl_st {z : ML} {f : Nat → Int64} {i : Nat} (h : ∀ b, b < i → z 83 b = f b) (h2 : z 83 i = f i) : ∀ b, b < i + 1 → z 83 b = f b := by
  intro b hb
  rcases Nat.lt_or_ge b i with q | q
  · exact h b q
  · rw [show b = i by omega]; exact h2
theorem row_kept {z : ML} {A i : Nat} {x : Int64} {f : Nat → Int64} (h : ∀ b, b < i → z A b = f b) : ∀ b, b < i → u2 z A i x A b = f b := by
  intro b hb; rw [u2_s, uf_n _ _ (by omega)]; exact h b hb
/-- even cuts: begin with bit 0, eight parts at most -/
theorem ev_ok : ∀ P, P < 9 → 1 ≤ P → ∀ h, h < 3 → bt (evS P h P).1 0 = true ∧ pop (evS P h P).1 ≤ 8 := by decide +kernel
theorem fromC_hit {p : Nat → Bool} {v : Nat → Int32} {e : Int32} {d i : Nat} (h : p i = true) : fromC p v e (d + 1) i = v i := by rw [fromC, if_pos h]
theorem fromC_miss {p : Nat → Bool} {v : Nat → Int32} {e : Int32} {d i : Nat} (h : p i = false) : fromC p v e (d + 1) i = fromC p v e d (i + 1) := by rw [fromC, if_neg (by rw [h]; decide)]
theorem turnO_lt {p P h : Nat} (hp : p < P) (hP : P ≤ 8) : turnO p P h < 2 ^ 31 := by
  unfold turnO; split
  · omega
  · split
    · omega
    · split <;> omega
end
section
/-! pure words for NearMarks' own methods -/
theorem rng_in {q m : Nat} (h : q ≤ m) (hm : m < 2 ^ 31) : (!decide (nI q < 0) && !decide (nI m < nI q)) = true := by
  have e1 : ¬ nI q < 0 := nI_pos (by omega)
  have e2 : ¬ nI m < nI q := nI_nlt h hm
  simp [e1, e2]
theorem rng_out {x : Int32} {m : Nat} (h : x < nI 0 ∨ nI m < x) : (!decide (x < 0) && !decide (nI m < x)) = false := by
  rcases h with h | h
  · have h : x < 0 := h
    simp [h]
  · simp [h]
theorem isMk_of {n : Nat} {p : Int32} (h1 : ¬ p < 0) (h2 : p < nI n) : isMk n p = true := by
  rw [← isMk_cl]
  have e2 : ¬ nI n ≤ p := by rw [Int32.le_iff_toInt_le]; rw [Int32.lt_iff_toInt_lt] at h2; omega
  simp [h1, e2]
theorem raw_lo {x : Int32} {a b c : Nat} (ha : b < 2 ^ 31) (hb : c < 2 ^ 31) (e : c = b + 1) (h : x < nI a ∨ nI b < x) (h1 : ¬ x < nI a) (h2 : ¬ nI c ≤ x) : False := by
  rcases h with h | h
  · exact h1 h
  · rw [Int32.lt_iff_toInt_lt, nI_toInt ha] at h
    rw [Int32.le_iff_toInt_le, nI_toInt hb] at h2
    omega
theorem raw_le {x : Int32} {a b : Nat} (h : x < nI a ∨ nI b < x) (h1 : ¬ x < nI a) (h2 : x ≤ nI b) : False := by
  rcases h with h | h
  · exact h1 h
  · rw [Int32.lt_iff_toInt_lt] at h; rw [Int32.le_iff_toInt_le] at h2; omega
theorem raw_lt {x : Int32} {a b c : Nat} (ha : b < 2 ^ 31) (hb : c < 2 ^ 31) (e : c = b + 1) (h : x < nI a ∨ nI b < x) (h1 : ¬ x < nI a) (h2 : x < nI c) : False := by
  refine raw_lo ha hb e h h1 (fun q => ?_)
  rw [Int32.lt_iff_toInt_lt] at h2; rw [Int32.le_iff_toInt_le] at q; omega
def lookC (ml : ML) (P : Nat) (w : Int32) (k : Nat) : Bool := !decide (nI (ds (ml 2 k) (ml 1 0)) ≤ w) && anyP (ml 2 k ^^^ ml 1 0) (ml 77) P
def nrsC (ml : ML) (n : Nat) (w : Int32) : Int32 := fromB (fun k => decide (nI (ahd (fun q => ds (ml 2 q) (ml 1 0)) n k) = w)) n 0
def othC (ml : ML) (k r j : Nat) : Bool := !decide (j = k) && !decide (r < ds (ml 2 j) (ml 2 k))
def withC (ml : ML) (x : Int64) (k : Nat) : Bool := decide ((ml 2 k ^^^ ml 1 0) &&& x = 0)
def cbC (mi : MI) (ml : ML) (s k : Nat) : Bool := cb (ml 2 k) (ml 87) (mi 88) s
def toldC (mi : MI) (ml : ML) (n P s E : Nat) (B1 B2 : Nat → Nat) (q : Nat) : Int32 := match q with
  | 0 => nI n
  | 1 => nI P
  | 2 => nI (pop (ml 1 0))
  | 3 => fromB (fun k => decide (ml 2 k = ml 1 0)) n 0
  | 4 => nI (ct (lookC ml P (-1)) n)
  | 5 => nI (ct (lookC ml P (nI (P - 1))) n)
  | 6 => nrsC ml n (nI 0)
  | 7 => if isMk n (nrsC ml n (nI 0)) then nI (ds (ml 2 (nrsC ml n (nI 0)).toNatClampNeg) (ml 1 0)) else -1
  | 8 => nI (ct (deadC (ml 2) n) 64)
  | 9 => togR (goC (ml 2) n) 64 0
  | 10 => nI s
  | 11 => nI (pop (stB (cbC mi ml s) n))
  | 12 => fromB (bt (stB (cbC mi ml s) n)) 64 0
  | 13 => (askS (fun k => mstC (fun q => ds (ml 2 q) (ml 2 k)) (bt (stB (cbC mi ml s) n)) n) (pop (stB (cbC mi ml s) n)) n).2
  | 14 => nI E
  | 15 => fromB (fun e => !rgC mi ml n B1 B2 e) E 0
  | _ => mi 4 2
def markC (mi : MI) (ml : ML) (n P k q : Nat) : Int32 := match q with
  | 0 => mi 3 k
  | 1 => nI (pop (ml 2 k))
  | 2 => nI (ds (ml 2 k) (ml 1 0))
  | 3 => nI (ct (othC ml k (P - 1)) n)
  | _ => bI (anyP (ml 2 k ^^^ ml 1 0) (ml 77) P)
def partC (mi : MI) (ml : ML) (n p q : Nat) : Int32 := match q with
  | 0 => mi 76 p
  | 1 => nI (pop (ml 77 p))
  | _ => nI (ct (withC ml (ml 77 p)) n)
def nearQ (K : Int32) (d q P : Nat) : Bool := (!decide (q < d) && !decide (K = nI 1)) && (decide (K = 0) || (decide (P - 1 ≤ q) || !decide (q / 2 < d)))
theorem jn_ct (cl : Nat → Int64) (n : Nat) : ∀ i, ct (fun k => !bt (jnS cl n k).1 k) i = (jnS cl n i).2
  | 0 => rfl
  | i + 1 => by
    have ih := jn_ct cl n i
    by_cases e : bt (jnS cl n i).1 i = true
    · rw [ct_f (by simp [e]), jnS_y e, ih]
    · have e : bt (jnS cl n i).1 i = false := by simpa using e
      rw [ct_t (by simp [e]), jnS_n e, ih]
def rtC (cl : Nat → Int64) (n x : Nat) : Nat := kthP (fun k => !bt (jnS cl n k).1 k) n x
def setC (cl : Nat → Int64) (n x : Nat) : Int64 := sprS cl n (cl (rtC cl n x)) n
theorem set_at {z : ML} {cl : Nat → Int64} {n x : Nat} (h : jnOK z cl n n) (hx : x < (jnS cl n n).2) : z 82 x = setC cl n x := by
  rw [← jn_ct] at hx
  obtain ⟨h1, h2, h3⟩ := kthP_spec hx
  have h4 := h _ h1 (by simpa using h2)
  rw [← jn_ct] at h4
  unfold setC rtC
  rw [← h4, h3]
def grpC (ml : ML) (cl : Nat → Int64) (n x z : Nat) : Int32 := match z with
  | 0 => nI (pop (setC cl n x))
  | 1 => fromB (bt (setC cl n x)) 64 0
  | _ => nI (wdO (bt (setC cl n x)) (fun p q => ds (ml 2 p) (ml 2 q)) n n)
/-- drifts in the class -/
def lotHC (h : Int64) (z : Nat) : Int64 := if lotW z = 0 then rowsE (nxt (nxt (nxt z)) / 65536 % 256) 8 else if lotW z = 1 ∨ lotW z = 2 then h ^^^ shl 1 (nxt (nxt z) / 65536 % 64) else h
def putA (ml : ML) (n : Nat) : Bool := decide (n < 40) && decide (fromB (fun k => decide (ml 2 k = ml 1 0)) n 0 = -1)
def putI (mi : MI) (ml : ML) (n : Nat) : MI := if putA ml n then u2 (u2 mi 3 n (nI 0)) 1 2 (nI (n + 1)) else mi
def putL (ml : ML) (n : Nat) : ML := if putA ml n then u2 ml 2 n (ml 1 0) else ml
/-- pairs of the class's even cuts -/
def prO (M : Nat → Int64) (n : Nat) (mk : Nat → Int64) (c : Nat) : Nat → Nat
  | 0 => 0
  | j + 1 => prO M n mk c j + ct (fun t => anyP (M j ^^^ M (j + 1 + t)) mk c) (n - (j + 1))
theorem prO_le (M : Nat → Int64) (n : Nat) (mk : Nat → Int64) (c : Nat) : ∀ j, prO M n mk c j ≤ j * n
  | 0 => by simp [prO]
  | j + 1 => by
    have h1 := prO_le M n mk c j
    have h2 := ct_le (fun t => anyP (M j ^^^ M (j + 1 + t)) mk c) (n - (j + 1))
    show prO M n mk c j + ct (fun t => anyP (M j ^^^ M (j + 1 + t)) mk c) (n - (j + 1)) ≤ (j + 1) * n
    rw [Nat.succ_mul]; omega
/-- one time by draws in the class, and n times -/
def lcI (mi : MI) (ml : ML) (nx c n z : Nat) : MI := putI (u2 (remI mi nx c n) 94 0 (nI (lotZ z))) (u2 (remL ml nx n) 1 0 (lotHC (ml 1 0) z)) n
def lcL (ml : ML) (nx n z : Nat) : ML := putL (u2 (remL ml nx n) 1 0 (lotHC (ml 1 0) z)) n
def nxP (nx : Nat) : Nat := if decide (20 ≤ nx + 1) then 0 else nx + 1
def cP (c : Nat) : Nat := if decide (20 < c + 1) then 20 else c + 1
def nP (ml : ML) (nx n z : Nat) : Nat := if putA (u2 (remL ml nx n) 1 0 (lotHC (ml 1 0) z)) n then n + 1 else n
theorem nxP_lt {nx : Nat} (h : nx < 20) : nxP nx < 20 := by unfold nxP; split <;> simp_all <;> omega
theorem cP_le {c : Nat} (h : c ≤ 20) : cP c ≤ 20 := by unfold cP; split <;> simp_all <;> omega
theorem putA_lt {ml : ML} {n : Nat} (h : putA ml n = true) : n < 40 := by unfold putA at h; simp at h; exact h.1
theorem nP_le {ml : ML} {nx n z : Nat} (h : n ≤ 40) : nP ml nx n z ≤ 40 := by
  unfold nP; split
  · rename_i q; have := putA_lt q; omega
  · exact h
def dcS (mi : MI) (ml : ML) (nx c n z : Nat) : Nat → MI × ML × Nat × Nat × Nat × Nat
  | 0 => (mi, ml, nx, c, n, z)
  | i + 1 => (lcI (dcS mi ml nx c n z i).1 (dcS mi ml nx c n z i).2.1 (dcS mi ml nx c n z i).2.2.1 (dcS mi ml nx c n z i).2.2.2.1 (dcS mi ml nx c n z i).2.2.2.2.1 (dcS mi ml nx c n z i).2.2.2.2.2,
      lcL (dcS mi ml nx c n z i).2.1 (dcS mi ml nx c n z i).2.2.1 (dcS mi ml nx c n z i).2.2.2.2.1 (dcS mi ml nx c n z i).2.2.2.2.2,
      nxP (dcS mi ml nx c n z i).2.2.1, cP (dcS mi ml nx c n z i).2.2.2.1, nP (dcS mi ml nx c n z i).2.1 (dcS mi ml nx c n z i).2.2.1 (dcS mi ml nx c n z i).2.2.2.2.1 (dcS mi ml nx c n z i).2.2.2.2.2, lotZ (dcS mi ml nx c n z i).2.2.2.2.2)
theorem putI_n (mi : MI) (ml : ML) {n t : Nat} (h1 : t ≠ 1) (h3 : t ≠ 3) : putI mi ml n t = mi t := by
  unfold putI; split
  · rw [u2_n _ _ _ h1, u2_n _ _ _ h3]
  · rfl
theorem putI_c {mi : MI} {ml : ML} {n : Nat} (h : mi 1 2 = nI n) : putI mi ml n 1 2 = nI (if putA ml n then n + 1 else n) := by
  unfold putI; split
  · rw [u2_s, uf_s]
  · exact h
def okC (mi : MI) (nx c n z : Nat) : Prop := mi 4 1 = nI nx ∧ nx < 20 ∧ mi 4 2 = nI c ∧ c ≤ 20 ∧ mi 1 2 = nI n ∧ n ≤ 40 ∧ mi 94 0 = nI z ∧ z < 2147483648
theorem lc_ok {mi : MI} {ml : ML} {nx c n z : Nat} (h : okC mi nx c n z) : okC (lcI mi ml nx c n z) (nxP nx) (cP c) (nP ml nx n z) (lotZ z) := by
  obtain ⟨h1, h2, h3, h4, h5, h6, h7, h8⟩ := h
  unfold lcI
  refine ⟨?_, nxP_lt h2, ?_, cP_le h4, ?_, nP_le h6, ?_, lotZ_lt z⟩
  · rw [putI_n _ _ (by decide) (by decide), u2_n _ _ _ (by decide)]; unfold remI; rw [u2_s, uf_n _ _ (by decide), u2_s, uf_s]; rfl
  · rw [putI_n _ _ (by decide) (by decide), u2_n _ _ _ (by decide)]; unfold remI; rw [u2_s, uf_s]; rfl
  · rw [putI_c (n := n) (by rw [u2_n _ _ _ (by decide), remI_n _ (by omega) (by omega) (by decide)]; exact h5)]; rfl
  · rw [putI_n _ _ (by decide) (by decide), u2_s, uf_s]
theorem dc_ok {mi : MI} {ml : ML} {nx c n z : Nat} (h : okC mi nx c n z) : ∀ i, okC (dcS mi ml nx c n z i).1 (dcS mi ml nx c n z i).2.2.1 (dcS mi ml nx c n z i).2.2.2.1 (dcS mi ml nx c n z i).2.2.2.2.1 (dcS mi ml nx c n z i).2.2.2.2.2
  | 0 => h
  | i + 1 => lc_ok (dc_ok h i)
def fewC (f : Nat → Nat) : Nat → Nat × Int32
  | 0 => (0, -1)
  | h + 1 => if (decide ((fewC f h).2 = -1) || !decide ((fewC f h).1 ≤ f h)) then (f h, nI h) else fewC f h
theorem fewC_y {f : Nat → Nat} {h : Nat} (e : (decide ((fewC f h).2 = -1) || !decide ((fewC f h).1 ≤ f h)) = true) : fewC f (h + 1) = (f h, nI h) := by rw [fewC, if_pos e]
theorem fewC_n {f : Nat → Nat} {h : Nat} (e : (decide ((fewC f h).2 = -1) || !decide ((fewC f h).1 ≤ f h)) = false) : fewC f (h + 1) = fewC f h := by rw [fewC, if_neg (by rw [e]; decide)]
theorem fewC_le {f : Nat → Nat} {B : Nat} (hf : ∀ i, f i ≤ B) : ∀ i, (fewC f i).1 ≤ B
  | 0 => Nat.zero_le _
  | i + 1 => by
    rcases e : (decide ((fewC f i).2 = -1) || !decide ((fewC f i).1 ≤ f i)) with _ | _
    · rw [fewC_n e]; exact fewC_le hf i
    · rw [fewC_y e]; exact hf i
/-- a part alike, by the cut itself -/
def alZ (d : Int64) (lo hi : Nat) : Bool := alB (fun t => !bt d (lo + t)) (hi - lo)
def alikeC (d x : Int64) : Bool := !alB (fun p => !alZ d (kth x p) (enM x p)) (pop x)
theorem and_zero {d M : Int64} {lo hi : Nat} (hh : hi ≤ 64) (hM : ∀ j, j < 64 → bt M j = (decide (lo ≤ j) && decide (j < hi))) : decide (d &&& M = 0) = alZ d lo hi := by
  rcases e : alZ d lo hi with _ | _
  · simp only [decide_eq_false_iff_not]
    intro h0
    have : alZ d lo hi = true := by
      unfold alZ
      rw [alB_iff]
      intro t ht
      have h1 := congrArg (fun z => bt z (lo + t)) h0
      simp only [bt_and, bt_0, hM (lo + t) (by omega)] at h1
      have h2 : lo + t < hi := by omega
      simp [h2] at h1
      simp [h1]
    rw [e] at this; cases this
  · simp only [decide_eq_true_eq]
    unfold alZ at e
    rw [alB_iff] at e
    apply bt_ext
    intro j hj
    rw [bt_and, bt_0, hM j hj]
    by_cases h1 : lo ≤ j
    · by_cases h2 : j < hi
      · have := e (j - lo) (by omega)
        rw [show lo + (j - lo) = j by omega] at this
        simp at this
        simp [this]
      · simp [h2]
    · simp [h1]
theorem alB_cong {p q : Nat → Bool} : ∀ {n : Nat}, (∀ k, k < n → p k = q k) → alB p n = alB q n
  | 0, _ => rfl
  | n + 1, h => by
    show (alB p n && p n) = (alB q n && q n)
    rw [alB_cong (fun k hk => h k (by omega)), h n (by omega)]
theorem any_alike {m : MI} {z : ML} {a : Nat} {x : Int64} (h : PtOK m z a x) (d : Int64) : anyP d (z (a + 2)) (pop x) = alikeC d x := by
  unfold anyP alikeC
  rw [alB_cong (fun p hp => by rw [and_zero (enM_le x p) (h.2.2 p hp)])]
def prX (M : Nat → Int64) (n : Nat) (x : Int64) : Nat → Nat
  | 0 => 0
  | j + 1 => prX M n x j + ct (fun t => alikeC (M j ^^^ M (j + 1 + t)) x) (n - (j + 1))
theorem pr_eq {m : MI} {z : ML} {a : Nat} {x : Int64} (h : PtOK m z a x) (M : Nat → Int64) (n : Nat) : ∀ j, prO M n (z (a + 2)) (pop x) j = prX M n x j
  | 0 => rfl
  | j + 1 => by
    show prO M n (z (a + 2)) (pop x) j + ct (fun t => anyP (M j ^^^ M (j + 1 + t)) (z (a + 2)) (pop x)) (n - (j + 1)) = prX M n x j + ct (fun t => alikeC (M j ^^^ M (j + 1 + t)) x) (n - (j + 1))
    rw [pr_eq h M n j, ct_cong (fun t _ => any_alike h _)]
theorem pr40 (M : Nat → Int64) {n : Nat} (hn : n ≤ 40) (mk : Nat → Int64) (c : Nat) {j : Nat} (hj : j ≤ n) : prO M n mk c j ≤ 1600 := by
  have h1 := prO_le M n mk c j
  have h2 : j * n ≤ 40 * 40 := Nat.mul_le_mul (by omega) hn
  omega
theorem prX_le (M : Nat → Int64) {n : Nat} (hn : n ≤ 40) (x : Int64) : ∀ {j : Nat}, j ≤ n → prX M n x j ≤ j * n
  | 0, _ => by simp [prX]
  | j + 1, h => by
    have h1 := prX_le M hn x (show j ≤ n by omega)
    have h2 := ct_le (fun t => alikeC (M j ^^^ M (j + 1 + t)) x) (n - (j + 1))
    show prX M n x j + ct (fun t => alikeC (M j ^^^ M (j + 1 + t)) x) (n - (j + 1)) ≤ (j + 1) * n
    rw [Nat.succ_mul]; omega
theorem prX40 (M : Nat → Int64) {n : Nat} (hn : n ≤ 40) (x : Int64) : n + 2 * prX M n x n ≤ 3240 := by
  have h1 := prX_le M hn x (Nat.le_refl n)
  have h2 : n * n ≤ 40 * 40 := Nat.mul_le_mul hn hn
  omega
end
section
/-! pure words for what is asked of NearMarks -/
theorem both_in {n j k : Nat} (hn : n ≤ 40) (hj : j < n) (hk : k < n) (h : j ≠ k) : (isMk n (nI j) && (isMk n (nI k) && !decide (nI j = nI k))) = true := by
  rw [isMk_nI (by omega) (by omega), isMk_nI (by omega) (by omega)]
  have e : ¬ nI j = nI k := fun q => h ((nI_eq (by omega) (by omega)).mp q)
  simp [hj, hk, e]
def midC (M : Nat → Int64) (n : Nat) (S : Int64) : Int64 := stB (fun q => !decide (2 * pop ((colS M q n) &&& S) ≤ pop S)) 64
theorem pt_u4 {m : MI} {z : ML} {x : Int64} {k : Nat} {v : Int32} (h : PtOK m z 75 x) : PtOK (u2 m 4 k v) z 75 x := by
  obtain ⟨h1, h2, h3⟩ := h
  refine ⟨?_, fun p hp => ?_, h3⟩
  · rw [u2_n _ _ _ (by decide)]; exact h1
  · rw [u2_n _ _ _ (by decide)]; exact h2 p hp
theorem fr_u4 {m f : MI} {k : Nat} {v : Int32} (h : ∀ t, t ≠ 75 → t ≠ 76 → m t = f t) : ∀ t, t ≠ 75 → t ≠ 76 → u2 m 4 k v t = u2 f 4 k v t := by
  intro t h1 h2
  by_cases e : t = 4
  · subst e; rw [u2_s, u2_s, h 4 (by decide) (by decide)]
  · rw [u2_n _ _ _ e, u2_n _ _ _ e, h t h1 h2]
end
section
/-! class and reference: the same answers, part 1: firsts, counts, sets, parts alike -/
theorem fromB_spec {p : Nat → Bool} : ∀ {d i : Nat}, (fromB p d i = -1 ∧ ∀ k, i ≤ k → k < i + d → p k = false) ∨ ∃ k, i ≤ k ∧ k < i + d ∧ p k = true ∧ (∀ j, i ≤ j → j < k → p j = false) ∧ fromB p d i = nI k
  | 0, i => Or.inl ⟨rfl, fun k h1 h2 => by omega⟩
  | d + 1, i => by
    by_cases h : p i = true
    · exact Or.inr ⟨i, Nat.le_refl _, by omega, h, fun j h1 h2 => by omega, by rw [fromB, if_pos h]⟩
    · have h' : p i = false := by simpa using h
      have e0 : fromB p (d + 1) i = fromB p d (i + 1) := by rw [fromB, if_neg h]
      rcases fromB_spec (p := p) (d := d) (i := i + 1) with ⟨e, q⟩ | ⟨k, q1, q2, q3, q4, e⟩
      · refine Or.inl ⟨e0.trans e, fun k h1 h2 => ?_⟩
        rcases Nat.eq_or_lt_of_le h1 with h3 | h3
        · rw [← h3]; exact h'
        · exact q k h3 (by omega)
      · refine Or.inr ⟨k, by omega, by omega, q3, fun j h1 h2 => ?_, e0.trans e⟩
        rcases Nat.eq_or_lt_of_le h1 with h3 | h3
        · rw [← h3]; exact h'
        · exact q4 j h3 h2
theorem lastB_spec {p : Nat → Bool} : ∀ {n : Nat}, (lastB p n = -1 ∧ ∀ k, k < n → p k = false) ∨ ∃ k, k < n ∧ p k = true ∧ lastB p n = nI k
  | 0 => Or.inl ⟨rfl, fun k h => by omega⟩
  | n + 1 => by
    by_cases h : p n = true
    · exact Or.inr ⟨n, by omega, h, by rw [lastB, if_pos h]⟩
    · have h' : p n = false := by simpa using h
      have e0 : lastB p (n + 1) = lastB p n := by rw [lastB, if_neg h]
      rcases lastB_spec (p := p) (n := n) with ⟨e, q⟩ | ⟨k, q1, q2, e⟩
      · refine Or.inl ⟨e0.trans e, fun k hk => ?_⟩
        rcases Nat.lt_or_ge k n with h3 | h3
        · exact q k h3
        · rw [show k = n by omega]; exact h'
      · exact Or.inr ⟨k, by omega, q2, e0.trans e⟩
theorem first_last {p : Nat → Bool} {n : Nat} (hu : ∀ j k, j < n → k < n → p j = true → p k = true → j = k) : fromB p n 0 = lastB p n := by
  rcases fromB_spec (p := p) (d := n) (i := 0) with ⟨e, q⟩ | ⟨k, -, h2, h3, -, e⟩ <;> rcases lastB_spec (p := p) (n := n) with ⟨e', q'⟩ | ⟨k', h2', h3', e'⟩
  · rw [e, e']
  · have := q k' (Nat.zero_le _) (by omega); rw [h3'] at this; cases this
  · have := q' k (by omega); rw [h3] at this; cases this
  · rw [e, e', hu k k' (by omega) h2' h3 h3']
theorem fromB_cong {p q : Nat → Bool} : ∀ {d i : Nat}, (∀ k, i ≤ k → k < i + d → p k = q k) → fromB p d i = fromB q d i
  | 0, _, _ => rfl
  | d + 1, i, h => by
    rw [fromB, fromB, h i (Nat.le_refl _) (by omega), fromB_cong (d := d) (i := i + 1) (fun k h1 h2 => h k (by omega) (by omega))]
theorem lastB_cong {p q : Nat → Bool} : ∀ {n : Nat}, (∀ k, k < n → p k = q k) → lastB p n = lastB q n
  | 0, _ => rfl
  | n + 1, h => by
    rw [lastB, lastB, h n (by omega), lastB_cong (fun k hk => h k (by omega))]
theorem ct_sub {p q : Nat → Bool} : ∀ {n : Nat}, (∀ k, k < n → p k = true → q k = true) → ct p n ≤ ct q n
  | 0, _ => Nat.le_refl _
  | n + 1, h => by
    have h1 := ct_sub (n := n) (fun k hk => h k (by omega))
    have h2 := h n (by omega)
    show ct p n + (p n).toNat ≤ ct q n + (q n).toNat
    rcases hp : p n with _ | _
    · simp; omega
    · rw [h2 hp]; omega
theorem ct_ssub {p q : Nat → Bool} {i : Nat} : ∀ {n : Nat}, (∀ k, k < n → p k = true → q k = true) → i < n → p i = false → q i = true → ct p n < ct q n
  | 0, _, hi, _, _ => absurd hi (Nat.not_lt_zero i)
  | n + 1, h, hi, h1, h2 => by
    show ct p n + (p n).toNat < ct q n + (q n).toNat
    rcases Nat.lt_or_ge i n with h3 | h3
    · have h4 := ct_ssub (n := n) (fun k hk => h k (by omega)) h3 h1 h2
      have h5 := h n (by omega)
      rcases hp : p n with _ | _
      · simp; omega
      · rw [h5 hp]; omega
    · have e : i = n := by omega
      subst e
      have h4 := ct_sub (n := i) (fun k hk => h k (by omega))
      rw [h1, h2]
      show ct p i + 0 < ct q i + 1
      omega
theorem ahd_lt {f : Nat → Nat} {n j k : Nat} (hj : j < n) (h : f j < f k ∨ (f j = f k ∧ j < k)) : ahd f n j < ahd f n k := by
  unfold ahd
  refine ct_ssub (i := j) (fun i hi q => ?_) hj (by simp) ?_
  · simp only [Bool.or_eq_true, Bool.and_eq_true, decide_eq_true_eq, Bool.not_eq_true', decide_eq_false_iff_not] at q ⊢
    omega
  · simp only [Bool.or_eq_true, Bool.and_eq_true, decide_eq_true_eq, Bool.not_eq_true', decide_eq_false_iff_not]
    omega
theorem ahd_inj {f : Nat → Nat} {n j k : Nat} (hj : j < n) (hk : k < n) (h : ahd f n j = ahd f n k) : j = k := by
  rcases Nat.lt_trichotomy j k with h1 | h1 | h1
  · rcases Nat.lt_trichotomy (f j) (f k) with h2 | h2 | h2
    · have := ahd_lt hj (Or.inl h2); omega
    · have := ahd_lt hj (Or.inr ⟨h2, h1⟩); omega
    · have := ahd_lt hk (Or.inl h2); omega
  · exact h1
  · rcases Nat.lt_trichotomy (f j) (f k) with h2 | h2 | h2
    · have := ahd_lt hj (Or.inl h2); omega
    · have := ahd_lt hk (Or.inr ⟨h2.symm, h1⟩); omega
    · have := ahd_lt hk (Or.inl h2); omega
theorem nrs_eq {f : Nat → Nat} {n : Nat} (hn : n ≤ 40) (w : Int32) : fromB (fun k => decide (nI (ahd f n k) = w)) n 0 = lastB (fun k => decide (nI (ahd f n k) = w)) n := by
  refine first_last (fun j k hj hk h1 h2 => ?_)
  simp only [decide_eq_true_eq] at h1 h2
  have a1 : ahd f n j ≤ n := ct_le _ _
  have a2 : ahd f n k ≤ n := ct_le _ _
  exact ahd_inj hj hk ((nI_eq (by omega) (by omega)).mp (h1.trans h2.symm))
theorem bt_stB {p : Nat → Bool} : ∀ {n : Nat}, n ≤ 64 → ∀ k, k < 64 → bt (stB p n) k = (decide (k < n) && p k)
  | 0, _, k, _ => by simp [stB, bt_0]
  | n + 1, hn, k, hk => by
    have ih := bt_stB (p := p) (n := n) (by omega) k hk
    rw [stB, bt_or, ih]
    by_cases hp : p n = true
    · rw [if_pos hp, bt_sh1 (by omega) hk]
      by_cases e : k = n
      · subst e; simp [hp]
      · have e2 : (k < n + 1) ↔ (k < n) := by omega
        simp [e, e2]
    · have hp : p n = false := by simpa using hp
      rw [if_neg (by rw [hp]; decide), bt_0]
      by_cases e : k = n
      · subst e; simp [hp]
      · have e2 : (k < n + 1) ↔ (k < n) := by omega
        simp [e2]
theorem ct_lim {p : Nat → Bool} {n : Nat} : ∀ {N : Nat}, n ≤ N → ct (fun k => decide (k < n) && p k) N = ct p n
  | 0, h => by rw [show n = 0 by omega]; rfl
  | N + 1, h => by
    rcases Nat.eq_or_lt_of_le h with e | e
    · rw [e]; exact ct_cong (fun k hk => by simp [hk])
    · rw [ct_f (by simp; omega), ct_lim (by omega)]
theorem pop_stB {p : Nat → Bool} {n : Nat} (hn : n ≤ 64) : pop (stB p n) = ct p n := by
  unfold pop
  rw [ct_cong (fun k hk => bt_stB hn k hk), ct_lim hn]
theorem first_lim {p : Nat → Bool} {n N : Nat} (h : n ≤ N) : fromB (fun k => decide (k < n) && p k) N 0 = fromB p n 0 := by
  rcases fromB_spec (p := fun k => decide (k < n) && p k) (d := N) (i := 0) with ⟨e, q⟩ | ⟨k, -, h2, h3, h4, e⟩ <;> rcases fromB_spec (p := p) (d := n) (i := 0) with ⟨e', q'⟩ | ⟨k', -, h2', h3', h4', e'⟩
  · rw [e, e']
  · have h5 := q k' (Nat.zero_le _) (by omega)
    have h6 : k' < n := by omega
    simp [h6, h3'] at h5
  · simp only [Bool.and_eq_true, decide_eq_true_eq] at h3
    have h5 := q' k (Nat.zero_le _) (by omega)
    rw [h3.2] at h5; cases h5
  · simp only [Bool.and_eq_true, decide_eq_true_eq] at h3
    rcases Nat.lt_trichotomy k k' with h5 | h5 | h5
    · have := h4' k (Nat.zero_le _) h5; rw [h3.2] at this; cases this
    · rw [e, e', h5]
    · have h6 := h4 k' (Nat.zero_le _) h5
      have h7 : k' < n := by omega
      simp [h7, h3'] at h6
theorem first_stB {p : Nat → Bool} {n : Nat} (hn : n ≤ 64) : fromB (bt (stB p n)) 64 0 = fromB p n 0 := by
  rw [fromB_cong (fun k _ hk => bt_stB hn k (by omega)), first_lim hn]
theorem lastD_eq {p : Nat → Bool} {n : Nat} : ∀ {i : Nat}, i ≤ n → lastD p n i = fromB p i (n - i)
  | 0, _ => rfl
  | i + 1, h => by
    rw [lastD, fromB, lastD_eq (by omega), show n - (i + 1) = n - i - 1 by omega, show n - i - 1 + 1 = n - i by omega]
theorem ctD_eq {p : Nat → Bool} {n : Nat} : ∀ {i : Nat}, i ≤ n → ctD p n i + ct p (n - i) = ct p n
  | 0, _ => by rw [ctD, Nat.zero_add]; rfl
  | i + 1, h => by
    have h1 := ctD_eq (p := p) (n := n) (i := i) (by omega)
    have h2 : ct p (n - i) = ct p (n - i - 1) + (p (n - i - 1)).toNat := by
      rw [show n - i = (n - i - 1) + 1 by omega]; rfl
    rw [ctD, show n - (i + 1) = n - i - 1 by omega]
    omega
theorem ctD_all {p : Nat → Bool} {n : Nat} : ctD p n n = ct p n := by
  have h := ctD_eq (p := p) (n := n) (i := n) (Nat.le_refl n)
  rw [Nat.sub_self] at h
  exact h
theorem lastD_all {p : Nat → Bool} {n : Nat} : lastD p n n = fromB p n 0 := by
  rw [lastD_eq (Nat.le_refl n), Nat.sub_self]
/-- a part alike: bit by bit, and by parts -/
theorem alZ_S {d : Int64} {lo b : Nat} (h : lo ≤ b) : alZ d lo (b + 1) = (alZ d lo b && !bt d b) := by
  unfold alZ
  rw [show b + 1 - lo = (b - lo) + 1 by omega]
  show (alB _ (b - lo) && !bt d (lo + (b - lo))) = _
  rw [show lo + (b - lo) = b by omega]
theorem alZ_0 (d : Int64) (b : Nat) : alZ d b b = true := by unfold alZ; rw [Nat.sub_self]; rfl
theorem en_at {x : Int64} {p : Nat} (h : p + 1 < pop x) : enM x p = kth x (p + 1) := by
  unfold enM; rw [if_neg (by simp; omega)]
theorem lk_inv {u c : Int64} (h0 : bt c 0 = true) : ∀ b, 1 ≤ b → b ≤ 64 → ((lkS u c b).1 = true ↔ ∃ p, p + 1 < ct (bt c) b ∧ alZ u (kth c p) (enM c p) = true) ∧ (lkS u c b).2 = alZ u (kth c (ct (bt c) b - 1)) b ∧ 1 ≤ ct (bt c) b
  | 0, h, _ => absurd h (by decide)
  | b + 1, _, hb => by
    rcases Nat.eq_zero_or_pos b with e | e
    · subst e
      have e1 : ct (bt c) (0 + 1) = 1 := by rw [ct_t h0]; rfl
      have e2 : kth c 0 = 0 := by
        have := kth_un (x := c) (b := 0) (by decide) h0
        exact this
      refine ⟨?_, ?_, ?_⟩
      · rw [e1]
        constructor
        · intro h; simp [lkS] at h
        · rintro ⟨p, h, -⟩; omega
      · rw [e1, show 1 - 1 = 0 from rfl, e2, alZ_S (Nat.le_refl 0), alZ_0]
        simp [lkS, h0]
      · rw [e1]; exact Nat.le_refl _
    · obtain ⟨i1, i2, i3⟩ := lk_inv (u := u) h0 b e (by omega)
      have hm := ct_mono (bt c) (show b + 1 ≤ 64 by omega)
      by_cases hc : bt c b = true
      · have e1 : ct (bt c) (b + 1) = ct (bt c) b + 1 := ct_t hc
        have e2 : kth c (ct (bt c) b) = b := kth_un (by omega) hc
        have hp : ct (bt c) b < pop c := by unfold pop; omega
        have e3 : enM c (ct (bt c) b - 1) = b := by rw [en_at (by omega), show ct (bt c) b - 1 + 1 = ct (bt c) b by omega, e2]
        refine ⟨?_, ?_, by omega⟩
        · have e4 : (lkS u c (b + 1)).1 = ((lkS u c b).1 || (lkS u c b).2) := by simp [lkS, e, hc]
          rw [e4, Bool.or_eq_true, i1, i2, e1]
          constructor
          · rintro (⟨p, h1, h2⟩ | h)
            · exact ⟨p, by omega, h2⟩
            · exact ⟨ct (bt c) b - 1, by omega, by rw [e3]; exact h⟩
          · rintro ⟨p, h1, h2⟩
            rcases Nat.lt_or_ge (p + 1) (ct (bt c) b) with h3 | h3
            · exact Or.inl ⟨p, h3, h2⟩
            · right
              rw [show p = ct (bt c) b - 1 by omega, e3] at h2; exact h2
        · have e4 : (lkS u c (b + 1)).2 = !bt u b := by simp [lkS, hc]
          rw [e4, e1, show ct (bt c) b + 1 - 1 = ct (bt c) b by omega, e2, alZ_S (Nat.le_refl b), alZ_0]; rfl
      · have hc : bt c b = false := by simpa using hc
        have e1 : ct (bt c) (b + 1) = ct (bt c) b := ct_f hc
        have hp : ct (bt c) b - 1 < pop c := by unfold pop; omega
        have e2 := kth_lt_of hp (show ct (bt c) b - 1 < ct (bt c) b by omega)
        refine ⟨?_, ?_, by omega⟩
        · have e4 : (lkS u c (b + 1)).1 = (lkS u c b).1 := by simp [lkS, hc]
          rw [e4, e1]; exact i1
        · have e4 : (lkS u c (b + 1)).2 = ((lkS u c b).2 && !bt u b) := by simp [lkS, hc]
          rw [e4, e1, i2, alZ_S (by omega)]
theorem alike_lk {x y c : Int64} (h0 : bt c 0 = true) : lk x y c = alikeC (x ^^^ y) c := by
  obtain ⟨i1, i2, i3⟩ := lk_inv (u := x ^^^ y) h0 64 (by decide) (Nat.le_refl _)
  have hp : ct (bt c) 64 = pop c := rfl
  rw [hp] at i1 i2 i3
  have hen : enM c (pop c - 1) = 64 := by unfold enM; rw [if_pos (by simp; omega)]
  unfold lk alikeC
  rcases hr : alB (fun p => !alZ (x ^^^ y) (kth c p) (enM c p)) (pop c) with _ | _
  · show _ = true
    rw [Bool.or_eq_true, i1, i2]
    have hn : ¬ ∀ p, p < pop c → (!alZ (x ^^^ y) (kth c p) (enM c p)) = true := fun q => by rw [alB_iff.mpr q] at hr; cases hr
    rcases Classical.not_forall.mp hn with ⟨p, hq⟩
    have hq2 : p < pop c ∧ alZ (x ^^^ y) (kth c p) (enM c p) = true := by
      by_cases h1 : p < pop c
      · refine ⟨h1, ?_⟩
        rcases h2 : alZ (x ^^^ y) (kth c p) (enM c p) with _ | _
        · exact absurd (fun _ => by rw [h2]; rfl) hq
        · rfl
      · exact absurd (fun h => absurd h h1) hq
    rcases Nat.lt_or_ge (p + 1) (pop c) with h3 | h3
    · exact Or.inl ⟨p, h3, hq2.2⟩
    · right
      have e : p = pop c - 1 := by omega
      rw [e, hen] at hq2
      exact hq2.2
  · show _ = false
    rw [alB_iff] at hr
    rw [Bool.or_eq_false_iff]
    constructor
    · rcases h1 : (lkS (x ^^^ y) c 64).1 with _ | _
      · rfl
      · obtain ⟨p, h2, h3⟩ := i1.mp h1
        have := hr p (by omega)
        rw [h3] at this; cases this
    · rw [i2]
      have := hr (pop c - 1) (by omega)
      rw [hen] at this
      simpa using this
end
section
/-! class and reference: the same answers, part 2: columns, the middle -/
theorem stB_inj {p q : Nat → Bool} {n : Nat} (hn : n ≤ 64) : stB p n = stB q n ↔ ∀ k, k < n → p k = q k := by
  constructor
  · intro h k hk
    have h1 := bt_stB (p := p) hn k (by omega)
    have h2 := bt_stB (p := q) hn k (by omega)
    rw [h] at h1
    simpa [hk] using h1.symm.trans h2
  · intro h
    apply bt_ext
    intro k hk
    rw [bt_stB hn k hk, bt_stB hn k hk]
    by_cases h1 : k < n
    · rw [h k h1]
    · simp [h1]
theorem stB_no (n : Nat) : stB (fun _ => false) n = 0 := by
  induction n with
  | zero => rfl
  | succ n ih => rw [stB, ih, if_neg (by decide), or0]
theorem bt_col1 {x : Int64} {b k j : Nat} (hb : b < 64) (hk : k < 64) (hj : j < 64) : bt (shl (ushr x b &&& 1) k) j = (decide (j = k) && bt x b) := by
  rw [bt_shl _ hk hj, bt_and, bt_1]
  by_cases h : j = k
  · subst h
    have e : bt (ushr x b) (j - j) = bt x b := by rw [bt_ushr x hb, Nat.sub_self]; rfl
    rw [e]; simp
  · by_cases h2 : k ≤ j
    · have e : ¬ j - k = 0 := by omega
      simp [h, e]
    · simp [h, h2]
theorem col_eq {M : Nat → Int64} {b : Nat} (hb : b < 64) : ∀ {n : Nat}, n ≤ 64 → colS M b n = stB (fun k => bt (M k) b) n
  | 0, _ => rfl
  | n + 1, hn => by
    rw [colS, stB, col_eq hb (by omega)]
    congr 1
    apply bt_ext
    intro j hj
    rw [bt_col1 hb (by omega) hj]
    by_cases h : bt (M n) b = true
    · rw [if_pos h, bt_sh1 (by omega) hj]; simp [h]
    · have h : bt (M n) b = false := by simpa using h
      rw [if_neg (by rw [h]; decide), bt_0, h]; simp
theorem all_eq : ∀ n, n < 41 → allS n = stB (fun _ => true) n := by decide +kernel
theorem xor_all {p : Nat → Bool} {n : Nat} (hn : n ≤ 64) : stB (fun _ => true) n ^^^ stB p n = stB (fun k => !p k) n := by
  apply bt_ext
  intro j hj
  rw [bt_xor, bt_stB hn j hj, bt_stB hn j hj, bt_stB hn j hj]
  by_cases h : j < n
  · simp [h]
  · simp [h]
theorem dead_eq {M : Nat → Int64} {n b : Nat} (hn : n ≤ 40) (hb : b < 64) : deadC M n b = deadM M n b := by
  unfold deadC deadM
  rw [col_eq hb (by omega), all_eq n (by omega), ← stB_no n]
  rw [show decide (stB (fun k => bt (M k) b) n = stB (fun _ => false) n) = decide (∀ k, k < n → bt (M k) b = false) from decide_eq_decide.mpr (stB_inj (by omega)), show decide (stB (fun k => bt (M k) b) n = stB (fun _ => true) n) = decide (∀ k, k < n → bt (M k) b = true) from decide_eq_decide.mpr (stB_inj (by omega))]
  rw [Bool.eq_iff_iff, Bool.or_eq_true, decide_eq_true_eq, decide_eq_true_eq, alB_iff]
  constructor
  · rintro (h | h) k hk
    · rw [h k hk, h 0 (by omega)]; rfl
    · rw [h k hk, h 0 (by omega)]; rfl
  · intro h
    rcases h0 : bt (M 0) b with _ | _
    · left; intro k hk; have := h k hk; rw [h0] at this; simpa using this
    · right; intro k hk; have := h k hk; rw [h0] at this; simpa using this
theorem dead_iff {M : Nat → Int64} {n b : Nat} : deadM M n b = true ↔ ∀ j k, j < n → k < n → bt (M j) b = bt (M k) b := by
  unfold deadM
  rw [alB_iff]
  constructor
  · intro h j k hj hk
    have h1 := h j hj
    have h2 := h k hk
    simp only [decide_eq_true_eq] at h1 h2
    rw [h1, h2]
  · intro h k hk
    simp only [decide_eq_true_eq]
    exact h k 0 hk (by omega)
theorem tog_iff {M : Nat → Int64} {n a b : Nat} : togM M n a b = true ↔ (∀ k, k < n → bt (M k) a = bt (M k) b) ∨ ∀ k, k < n → bt (M k) a = !bt (M k) b := by
  unfold togM
  rw [Bool.or_eq_true, alB_iff, alB_iff]
  constructor
  · rintro (h | h)
    · left; intro k hk; simpa using h k hk
    · right; intro k hk
      have := h k hk
      simp only [Bool.not_eq_true', decide_eq_false_iff_not] at this
      rcases h1 : bt (M k) a with _ | _ <;> rcases h2 : bt (M k) b with _ | _ <;> simp_all
  · rintro (h | h)
    · left; intro k hk; simpa using h k hk
    · right; intro k hk
      rw [h k hk]
      rcases h2 : bt (M k) b with _ | _ <;> simp
theorem pair_eq {M : Nat → Int64} {n a b : Nat} (hn : n ≤ 40) (ha : a < 64) (hb : b < 64) : goC M n a b = pairM M n a b := by
  have e : goC M n a b = (!deadM M n a && togM M n a b) := by
    unfold goC
    rw [dead_eq hn ha, col_eq ha (by omega), col_eq hb (by omega), all_eq n (by omega), xor_all (by omega)]
    congr 1
    rw [show decide (stB (fun k => bt (M k) a) n = stB (fun k => bt (M k) b) n) = decide (∀ k, k < n → bt (M k) a = bt (M k) b) from decide_eq_decide.mpr (stB_inj (by omega)), show decide (stB (fun k => bt (M k) a) n = stB (fun k => !bt (M k) b) n) = decide (∀ k, k < n → bt (M k) a = !bt (M k) b) from decide_eq_decide.mpr (stB_inj (by omega))]
    rw [Bool.eq_iff_iff, Bool.or_eq_true, decide_eq_true_eq, decide_eq_true_eq, tog_iff]
  rw [e]; unfold pairM
  rcases h1 : deadM M n a with _ | _
  · rcases h2 : togM M n a b with _ | _
    · simp
    · have h3 : deadM M n b = false := by
        rcases h3 : deadM M n b with _ | _
        · rfl
        · have h4 : deadM M n a = true := by
            rw [dead_iff] at h3 ⊢
            rw [tog_iff] at h2
            intro j k hj hk
            rcases h2 with h2 | h2
            · rw [h2 j hj, h2 k hk, h3 j k hj hk]
            · rw [h2 j hj, h2 k hk, h3 j k hj hk]
          rw [h1] at h4; cases h4
      rw [h3]; rfl
  · simp
theorem fromC_cong {p q : Nat → Bool} {v : Nat → Int32} {e e' : Int32} (he : e = e') : ∀ {d i : Nat}, (∀ k, i ≤ k → k < i + d → p k = q k) → fromC p v e d i = fromC q v e' d i
  | 0, _, _ => he
  | d + 1, i, h => by
    rw [fromC, fromC, h i (Nat.le_refl _) (by omega), fromC_cong he (d := d) (i := i + 1) (fun k h1 h2 => h k (by omega) (by omega))]
theorem togR_cong {p q : Nat → Nat → Bool} : ∀ {d a : Nat}, a + d ≤ 64 → (∀ x y, x < 64 → y < 64 → p x y = q x y) → togR p d a = togR q d a
  | 0, _, _, _ => rfl
  | d + 1, a, h, hp => by
    rw [togR, togR]
    exact fromC_cong (togR_cong (by omega) hp) (fun k h1 h2 => hp a k (by omega) (by omega))
theorem and_stB {p q : Nat → Bool} {n : Nat} (hn : n ≤ 64) : stB p n &&& stB q n = stB (fun k => p k && q k) n := by
  apply bt_ext
  intro j hj
  rw [bt_and, bt_stB hn j hj, bt_stB hn j hj, bt_stB hn j hj]
  by_cases h : j < n
  · simp [h]
  · simp [h]
theorem stN_eq (p : Nat → Bool) : ∀ n, stN p n = stB (fun k => !p k) n
  | 0 => rfl
  | n + 1 => by
    rw [stN, stB, stN_eq p n]
    rcases h : p n with _ | _ <;> simp
theorem mid_eq {M : Nat → Int64} {n r : Nat} {G : Nat → Nat} {S : Int64} (hn : n ≤ 40) (hS : S = stB (fun k => decide (G k = r)) n) : midC M n S = stN (midP M n G r) 64 := by
  subst hS
  rw [stN_eq]; unfold midC
  rw [stB_inj (Nat.le_refl _)]
  intro b hb
  unfold midP
  rw [col_eq hb (by omega), and_stB (by omega), pop_stB (by omega), pop_stB (by omega)]
  rw [ct_cong (fun k _ => Bool.and_comm (bt (M k) b) (decide (G k = r)))]
theorem rows_eq : ∀ d, d < 256 → rowsE d 8 = rowsS (lN d) 8 := by decide +kernel
theorem lotH_eq (h : Int64) (z : Nat) : lotHC h z = lotH h z := by
  unfold lotHC lotH
  by_cases e : lotW z = 0
  · rw [if_pos e, if_pos e, rows_eq _ (Nat.mod_lt _ (by decide))]
  · rw [if_neg e, if_neg e]
end
section
/-! class and reference: the same answers, part 3: groups -/
theorem ds_comm (x y : Int64) : ds x y = ds y x := by
  unfold ds; rw [show x ^^^ y = y ^^^ x from Int64.xor_comm x y]
theorem ds_self (x : Int64) : ds x x = 0 := by
  unfold ds; rw [Int64.xor_self]; decide
theorem Rb.symm {M : Nat → Int64} {b j k : Nat} (h : Rb M b j k) : Rb M b k j := by
  unfold Rb at *; rw [ds_comm]; exact h
theorem Rb.self {M : Nat → Int64} {b j : Nat} : Rb M b j j := by
  unfold Rb; rw [ds_self]; exact Nat.zero_le _
theorem Cn.trans {M : Nat → Int64} {n b i j k : Nat} (h1 : Cn M n b i j) (h2 : Cn M n b j k) : Cn M n b i k := fun P a s => h2 P (h1 P a s) s
theorem Cn.symm {M : Nat → Int64} {n b j k : Nat} (h : Cn M n b j k) : Cn M n b k j :=
  h (fun x => Cn M n b x j) Cn.rf (fun a c ha hc q hr => (Cn.rf.step hc ha hr.symm).trans q)
theorem Lab.const {M : Nat → Int64} {n b : Nat} {G : Nat → Nat} (h : Lab M n b G) {j k : Nat} (hj : j < n) (hk : k < n) (hr : Rb M b j k) : G j = G k := by
  have h1 := h.2 j k hj hk hr
  have h2 := h.2 k j hk hj hr.symm
  omega
theorem Lab.cn {M : Nat → Int64} {n b : Nat} {G : Nat → Nat} (h : Lab M n b G) {j k : Nat} (hq : Cn M n b j k) : G k = G j :=
  hq (fun x => G x = G j) rfl (fun a c ha hc q hr => (h.const ha hc hr).symm.trans q)
theorem Lab.lt {M : Nat → Int64} {n b : Nat} {G : Nat → Nat} (h : Lab M n b G) {k : Nat} (hk : k < n) : G k < n := by
  have := (h.1 k hk).1; omega
theorem Lab.root {M : Nat → Int64} {n b : Nat} {G : Nat → Nat} (h : Lab M n b G) {k : Nat} (hk : k < n) : G (G k) = G k := (h.cn (h.1 k hk).2).symm
theorem Lab.iff {M : Nat → Int64} {n b : Nat} {G : Nat → Nat} (h : Lab M n b G) {j k : Nat} (hj : j < n) (hk : k < n) : Cn M n b k j ↔ G j = G k := by
  constructor
  · exact fun q => h.cn q
  · intro e
    have h1 := (h.1 k hk).2
    have h2 := (h.1 j hj).2
    rw [e] at h2
    exact h1.symm.trans h2
/-- sets of longs -/
def subS (x y : Int64) : Prop := ∀ j, j < 64 → bt x j = true → bt y j = true
theorem subS.rf (x : Int64) : subS x x := fun _ _ h => h
theorem subS.tr {x y z : Int64} (h1 : subS x y) (h2 : subS y z) : subS x z := fun j hj h => h2 j hj (h1 j hj h)
theorem subS.or_l (x y : Int64) : subS x (x ||| y) := fun j _ h => by rw [bt_or, h]; rfl
theorem subS.or_r (x y : Int64) : subS y (x ||| y) := fun j _ h => by rw [bt_or, h, Bool.or_true]
theorem subS.anti {x y : Int64} (h1 : subS x y) (h2 : subS y x) : x = y := bt_ext (fun j hj => by rw [Bool.eq_iff_iff]; exact ⟨h1 j hj, h2 j hj⟩)
theorem psS_up {cl : Nat → Int64} {s : Int64} : ∀ i, subS (psS cl s i) (psS cl s (i + 1)) := by
  intro i
  by_cases h : bt (psS cl s i) i = true
  · rw [psS_y h]; exact subS.or_l _ _
  · rw [psS_n (by simpa using h)]; exact subS.rf _
theorem psS_mono {cl : Nat → Int64} {s : Int64} {i : Nat} : ∀ d, subS (psS cl s i) (psS cl s (i + d))
  | 0 => subS.rf _
  | d + 1 => (psS_mono d).tr (psS_up (i + d))
theorem psS_fix {cl : Nat → Int64} {s : Int64} {n : Nat} (h : psS cl s n = s) {i : Nat} (hi : i ≤ n) : psS cl s i = s := by
  apply subS.anti
  · have := psS_mono (cl := cl) (s := s) (i := i) (n - i)
    rw [show i + (n - i) = n by omega, h] at this
    exact this
  · have := psS_mono (cl := cl) (s := s) (i := 0) i
    rw [Nat.zero_add] at this
    exact this
theorem psS_closed {cl : Nat → Int64} {s : Int64} {n : Nat} (h : psS cl s n = s) {k : Nat} (hk : k < n) (hb : bt s k = true) : subS (cl k) s := by
  have e1 := psS_fix h (show k ≤ n by omega)
  have e2 := psS_fix h (show k + 1 ≤ n by omega)
  rw [psS_y (by rw [e1]; exact hb), e1] at e2
  have := subS.or_r s (cl k)
  rw [e2] at this
  exact this
theorem pop_lt_of {x y : Int64} (h : subS x y) (hne : x ≠ y) : pop x < pop y := by
  have : ∃ i, i < 64 ∧ bt x i = false ∧ bt y i = true := by
    apply Classical.byContradiction
    intro q
    apply hne
    apply subS.anti h
    intro j hj hy
    rcases hx : bt x j with _ | _
    · exact absurd ⟨j, hj, hx, hy⟩ q
    · rfl
  obtain ⟨i, h1, h2, h3⟩ := this
  exact ct_ssub (i := i) (fun k hk => h k hk) h1 h2 h3
theorem spr_up {cl : Nat → Int64} {n : Nat} {s : Int64} (r : Nat) : subS (sprS cl n s r) (sprS cl n s (r + 1)) := by
  have := psS_mono (cl := cl) (s := sprS cl n s r) (i := 0) n
  rw [Nat.zero_add] at this
  exact this
theorem spr_grow {cl : Nat → Int64} {n : Nat} {s : Int64} (h1 : 1 ≤ pop s) : ∀ r, (∀ q, q < r → psS cl (sprS cl n s q) n ≠ sprS cl n s q) → r + 1 ≤ pop (sprS cl n s r)
  | 0, _ => h1
  | r + 1, h => by
    have ih := spr_grow h1 r (fun q hq => h q (by omega))
    have := pop_lt_of (spr_up (cl := cl) (n := n) (s := s) r) (fun e => h r (by omega) e.symm)
    omega
/-- the marks that are near by others, as the class finds them -/
theorem cl_bt {M : Nat → Int64} {n b j k : Nat} (hn : n ≤ 40) (hk : k < 64) : bt (clS M n b j) k = true ↔ k < n ∧ Rb M b j k := by
  unfold clS
  rw [bt_stB (by omega) k hk]
  simp only [Bool.and_eq_true, decide_eq_true_eq, Bool.not_eq_true', decide_eq_false_iff_not]
  unfold Rb
  constructor
  · rintro ⟨h1, h2⟩; exact ⟨h1, by omega⟩
  · rintro ⟨h1, h2⟩; exact ⟨h1, by omega⟩
def inC (M : Nat → Int64) (n b f : Nat) (s : Int64) : Prop := ∀ j, j < 64 → bt s j = true → j < n ∧ Cn M n b f j
theorem psS_in {M : Nat → Int64} {n b f : Nat} {s : Int64} (hn : n ≤ 40) (h : inC M n b f s) : ∀ i, i ≤ n → inC M n b f (psS (clS M n b) s i)
  | 0, _ => h
  | i + 1, hi => by
    have ih := psS_in hn h i (by omega)
    by_cases hb : bt (psS (clS M n b) s i) i = true
    · rw [psS_y hb]
      intro j hj hq
      rw [bt_or, Bool.or_eq_true] at hq
      rcases hq with hq | hq
      · exact ih j hj hq
      · obtain ⟨h1, h2⟩ := (cl_bt hn hj).mp hq
        obtain ⟨h3, h4⟩ := ih i (by omega) hb
        exact ⟨h1, h4.step h3 h1 h2⟩
    · rw [psS_n (by simpa using hb)]; exact ih
theorem spr_in {M : Nat → Int64} {n b f : Nat} (hn : n ≤ 40) (hf : f < n) : ∀ r, inC M n b f (sprS (clS M n b) n (clS M n b f) r)
  | 0 => fun j hj hq => by
    obtain ⟨h1, h2⟩ := (cl_bt hn hj).mp hq
    exact ⟨h1, Cn.rf.step hf h1 h2⟩
  | r + 1 => psS_in hn (spr_in hn hf r) n (Nat.le_refl n)
theorem spr_fix {M : Nat → Int64} {n b f : Nat} (hn : n ≤ 40) (hf : f < n) : psS (clS M n b) (sprS (clS M n b) n (clS M n b f) n) n = sprS (clS M n b) n (clS M n b f) n := by
  have hex : ∃ r, r < n ∧ psS (clS M n b) (sprS (clS M n b) n (clS M n b f) r) n = sprS (clS M n b) n (clS M n b f) r := by
    apply Classical.byContradiction
    intro q
    have h1 : 1 ≤ pop (clS M n b f) := by
      have h2 : bt (clS M n b f) f = true := (cl_bt hn (by omega)).mpr ⟨hf, Rb.self⟩
      have h3 := ct_mono (bt (clS M n b f)) (show f + 1 ≤ 64 by omega)
      rw [ct_t h2] at h3
      unfold pop; omega
    have h4 := spr_grow (cl := clS M n b) (n := n) h1 n (fun r hr e => q ⟨r, hr, e⟩)
    have h5 : pop (sprS (clS M n b) n (clS M n b f) n) ≤ n := by
      have h6 := ct_sub (p := bt (sprS (clS M n b) n (clS M n b f) n)) (q := fun k => decide (k < n) && true) (n := 64) (fun k hk hb => by
        have := (spr_in hn hf n k hk hb).1
        simp [this])
      rw [ct_lim (by omega)] at h6
      have h7 := ct_le (fun _ => true) n
      unfold pop; omega
    omega
  obtain ⟨r, hr, e⟩ := hex
  have h1 := sprS_fix e (n - r)
  rw [show r + (n - r) = n by omega] at h1
  rw [h1]; exact e
theorem spr_eq {M : Nat → Int64} {n b f : Nat} {G : Nat → Nat} (hn : n ≤ 40) (hL : Lab M n b G) (hf : f < n) : sprS (clS M n b) n (clS M n b f) n = stB (fun j => decide (G j = G f)) n := by
  apply bt_ext
  intro j hj
  rw [bt_stB (by omega) j hj, Bool.eq_iff_iff]
  simp only [Bool.and_eq_true, decide_eq_true_eq]
  constructor
  · intro h
    obtain ⟨h1, h2⟩ := spr_in hn hf n j hj h
    exact ⟨h1, (hL.iff h1 hf).mp h2⟩
  · rintro ⟨h1, h2⟩
    have hc := (hL.iff h1 hf).mpr h2
    have hq := hc (fun x => x < n ∧ bt (sprS (clS M n b) n (clS M n b f) n) x = true) ⟨hf, ?_⟩ (fun a c ha hc2 q hr => ⟨hc2, ?_⟩)
    · exact hq.2
    · have h3 : bt (clS M n b f) f = true := (cl_bt hn (by omega)).mpr ⟨hf, Rb.self⟩
      have h4 : ∀ r, subS (clS M n b f) (sprS (clS M n b) n (clS M n b f) r) := by
        intro r
        induction r with
        | zero => exact subS.rf _
        | succ r ih => exact ih.tr (spr_up r)
      exact h4 n f (by omega) h3
    · exact psS_closed (spr_fix hn hf) ha q.2 c (by omega) ((cl_bt hn (by omega)).mpr ⟨hc2, hr⟩)
theorem jn_bt {M : Nat → Int64} {n b : Nat} {G : Nat → Nat} (hn : n ≤ 40) (hL : Lab M n b G) : ∀ k, k ≤ n → ∀ j, j < 64 → (bt (jnS (clS M n b) n k).1 j = true ↔ j < n ∧ ∃ i, i < k ∧ G i = G j)
  | 0, _, j, _ => by
    constructor
    · intro h; rw [jnS, bt_0] at h; cases h
    · rintro ⟨-, i, h, -⟩; omega
  | k + 1, hk, j, hj => by
    have ih := jn_bt hn hL k (by omega)
    by_cases hb : bt (jnS (clS M n b) n k).1 k = true
    · rw [jnS_y hb, ih j hj]
      obtain ⟨-, i0, h1, h2⟩ := (ih k (by omega)).mp hb
      constructor
      · rintro ⟨h3, i, h4, h5⟩; exact ⟨h3, i, by omega, h5⟩
      · rintro ⟨h3, i, h4, h5⟩
        rcases Nat.lt_or_ge i k with h6 | h6
        · exact ⟨h3, i, h6, h5⟩
        · rw [show i = k by omega] at h5
          exact ⟨h3, i0, h1, h2.trans h5⟩
    · rw [jnS_n (by simpa using hb)]
      show bt ((jnS (clS M n b) n k).1 ||| sprS (clS M n b) n (clS M n b k) n) j = true ↔ _
      rw [bt_or, Bool.or_eq_true, ih j hj, spr_eq hn hL (by omega), bt_stB (by omega) j hj]
      simp only [Bool.and_eq_true, decide_eq_true_eq]
      constructor
      · rintro (⟨h3, i, h4, h5⟩ | ⟨h3, h4⟩)
        · exact ⟨h3, i, by omega, h5⟩
        · exact ⟨h3, k, by omega, h4.symm⟩
      · rintro ⟨h3, i, h4, h5⟩
        rcases Nat.lt_or_ge i k with h6 | h6
        · exact Or.inl ⟨h3, i, h6, h5⟩
        · rw [show i = k by omega] at h5
          exact Or.inr ⟨h3, h5.symm⟩
theorem jn_root {M : Nat → Int64} {n b : Nat} {G : Nat → Nat} (hn : n ≤ 40) (hL : Lab M n b G) {k : Nat} (hk : k < n) : (!bt (jnS (clS M n b) n k).1 k) = decide (G k = k) := by
  have h := jn_bt hn hL k (by omega) k (by omega)
  by_cases e : G k = k
  · rw [decide_eq_true e]
    rcases hb : bt (jnS (clS M n b) n k).1 k with _ | _
    · rfl
    · obtain ⟨-, i, h1, h2⟩ := h.mp hb
      have := (hL.1 i (by omega)).1
      omega
  · rw [decide_eq_false e]
    have h1 := (hL.1 k hk).1
    have hb := h.mpr ⟨hk, G k, by omega, hL.root hk⟩
    rw [hb]; rfl
theorem kf_cong {p q : Nat → Bool} {x : Nat} : ∀ {d b : Nat}, (∀ k, k < b + d → p k = q k) → kf p x d b = kf q x d b
  | 0, _, _ => rfl
  | d + 1, b, h => by
    rw [kf, kf, h b (by omega), ct_cong (p := p) (q := q) (n := b) (fun k hk => h k (by omega)), kf_cong (d := d) (b := b + 1) (fun k hk => h k (by omega))]
theorem roots_eq {M : Nat → Int64} {n b : Nat} {G : Nat → Nat} (hn : n ≤ 40) (hL : Lab M n b G) : (jnS (clS M n b) n n).2 = rootsN G n := by
  rw [← jn_ct]; exact ct_cong (fun k hk => jn_root hn hL hk)
theorem rt_eq {M : Nat → Int64} {n b : Nat} {G : Nat → Nat} (hn : n ≤ 40) (hL : Lab M n b G) (x : Nat) : rtC (clS M n b) n x = rootAt G n x :=
  kf_cong (fun k hk => jn_root hn hL (by omega))
theorem root_ok {G : Nat → Nat} {n x : Nat} (hx : x < rootsN G n) : rootAt G n x < n ∧ G (rootAt G n x) = rootAt G n x := by
  have h := kthP_spec (q := fun k => decide (G k = k)) (n := n) (p := x) hx
  exact ⟨h.1, of_decide_eq_true h.2.1⟩
theorem set_eq {M : Nat → Int64} {n b : Nat} {G : Nat → Nat} (hn : n ≤ 40) (hL : Lab M n b G) {x : Nat} (hx : x < rootsN G n) : setC (clS M n b) n x = stB (fun j => decide (G j = rootAt G n x)) n := by
  unfold setC
  rw [rt_eq hn hL]
  obtain ⟨h1, h2⟩ := root_ok hx
  rw [spr_eq hn hL h1, h2]
theorem first_root {M : Nat → Int64} {n b : Nat} {G : Nat → Nat} (hL : Lab M n b G) {r : Nat} (hr : r < n) (hg : G r = r) : fromB (fun j => decide (G j = r)) n 0 = nI r := by
  rcases fromB_spec (p := fun j => decide (G j = r)) (d := n) (i := 0) with ⟨e, q⟩ | ⟨k, -, h2, h3, h4, e⟩
  · have := q r (Nat.zero_le _) (by omega)
    simp [hg] at this
  · simp only [decide_eq_true_eq] at h3
    have h5 := (hL.1 k (by omega)).1
    rcases Nat.lt_or_ge r k with h6 | h6
    · have := h4 r (Nat.zero_le _) h6
      simp [hg] at this
    · rw [e, show k = r by omega]
theorem wdI_iff {b : Nat → Bool} {f : Nat → Nat → Nat} {j m c : Nat} : ∀ t, wdI b f j m t ≤ c ↔ m ≤ c ∧ ∀ s, s < t → b j = true → b (j + 1 + s) = true → f j (j + 1 + s) ≤ c
  | 0 => by
    show m ≤ c ↔ _
    exact ⟨fun h => ⟨h, fun s hs => by omega⟩, fun h => h.1⟩
  | t + 1 => by
    have ih := wdI_iff (b := b) (f := f) (j := j) (m := m) (c := c) t
    have key : wdI b f j m (t + 1) ≤ c ↔ wdI b f j m t ≤ c ∧ (b j = true → b (j + 1 + t) = true → f j (j + 1 + t) ≤ c) := by
      rw [wdI]
      by_cases h : (b j && b (j + 1 + t)) = true
      · rw [if_pos h]
        simp only [Bool.and_eq_true] at h
        by_cases h2 : wdI b f j m t < f j (j + 1 + t)
        · rw [if_pos (by simpa using h2)]
          exact ⟨fun q => ⟨by omega, fun _ _ => q⟩, fun q => q.2 h.1 h.2⟩
        · rw [if_neg (by simpa using h2)]
          exact ⟨fun q => ⟨q, fun _ _ => by omega⟩, fun q => q.1⟩
      · rw [if_neg h]
        simp only [Bool.and_eq_true] at h
        exact ⟨fun q => ⟨q, fun h1 h2 => absurd ⟨h1, h2⟩ h⟩, fun q => q.1⟩
    rw [key, ih]
    constructor
    · rintro ⟨⟨h1, h2⟩, h3⟩
      refine ⟨h1, fun s hs => ?_⟩
      rcases Nat.lt_or_ge s t with h4 | h4
      · exact h2 s h4
      · rw [show s = t by omega]; exact h3
    · rintro ⟨h1, h2⟩
      exact ⟨⟨h1, fun s hs => h2 s (by omega)⟩, h2 t (by omega)⟩
theorem wdO_iff {b : Nat → Bool} {f : Nat → Nat → Nat} {n c : Nat} : ∀ J, wdO b f n J ≤ c ↔ ∀ j, j < J → ∀ k, j < k → k < n → b j = true → b k = true → f j k ≤ c
  | 0 => ⟨fun _ j hj => by omega, fun _ => Nat.zero_le _⟩
  | J + 1 => by
    have ih := wdO_iff (b := b) (f := f) (n := n) (c := c) J
    rw [wdO, wdI_iff, ih]
    constructor
    · rintro ⟨h1, h2⟩ j hj k hk hkn
      rcases Nat.lt_or_ge j J with h3 | h3
      · exact h1 j h3 k hk hkn
      · have e : j = J := by omega
        subst e
        have := h2 (k - (j + 1)) (by omega)
        rw [show j + 1 + (k - (j + 1)) = k by omega] at this
        exact this
    · intro h
      exact ⟨fun j hj => h j (by omega), fun s hs => h J (by omega) (J + 1 + s) (by omega) (by omega)⟩
theorem mxI_iff {h : Nat → Nat} {m c : Nat} : ∀ k, mxI h m k ≤ c ↔ m ≤ c ∧ ∀ i, i < k → h i ≤ c
  | 0 => ⟨fun q => ⟨q, fun i hi => by omega⟩, fun q => q.1⟩
  | k + 1 => by
    have ih := mxI_iff (h := h) (m := m) (c := c) k
    have key : mxI h m (k + 1) ≤ c ↔ mxI h m k ≤ c ∧ h k ≤ c := by
      rw [mxI]
      by_cases q : h k ≤ mxI h m k
      · rw [if_pos (by simpa using q)]; omega
      · rw [if_neg (by simpa using q)]; omega
    rw [key, ih]
    constructor
    · rintro ⟨⟨h1, h2⟩, h3⟩
      refine ⟨h1, fun i hi => ?_⟩
      rcases Nat.lt_or_ge i k with h4 | h4
      · exact h2 i h4
      · rw [show i = k by omega]; exact h3
    · rintro ⟨h1, h2⟩
      exact ⟨⟨h1, fun i hi => h2 i (by omega)⟩, h2 k (by omega)⟩
theorem mxO_iff {f : Nat → Nat → Nat} {c : Nat} : ∀ n, mxO f n ≤ c ↔ ∀ j, j < n → ∀ k, k < j → f j k ≤ c
  | 0 => ⟨fun _ j hj => by omega, fun _ => Nat.zero_le _⟩
  | n + 1 => by
    rw [mxO, mxI_iff, mxO_iff n]
    constructor
    · rintro ⟨h1, h2⟩ j hj k hk
      rcases Nat.lt_or_ge j n with h3 | h3
      · exact h1 j h3 k hk
      · rw [show j = n by omega] at hk ⊢; exact h2 k hk
    · intro h
      exact ⟨fun j hj => h j (by omega), fun k hk => h n (by omega) k hk⟩
theorem wide_eq {M : Nat → Int64} {n r : Nat} {G : Nat → Nat} (hn : n ≤ 40) : wdO (bt (stB (fun j => decide (G j = r)) n)) (fun p q => ds (M p) (M q)) n n = mxO (fun a c => if (!decide (G a = r) || !decide (G c = r)) then 0 else ds (M a) (M c)) n := by
  have hb : ∀ k, k < n → (bt (stB (fun j => decide (G j = r)) n) k = true ↔ G k = r) := by
    intro k hk
    rw [bt_stB (by omega) k (by omega)]; simp [hk]
  apply Nat.le_antisymm
  · rw [wdO_iff]
    intro j hj k hk hkn h1 h2
    rw [hb j hj] at h1
    rw [hb k hkn] at h2
    have := (mxO_iff (f := fun a c => if (!decide (G a = r) || !decide (G c = r)) then 0 else ds (M a) (M c)) n).mp (Nat.le_refl _) k hkn j hk
    simp only [h1, h2, decide_true, Bool.not_true, Bool.or_self, Bool.false_eq_true, if_false] at this
    rw [ds_comm]; exact this
  · rw [mxO_iff]
    intro j hj k hk
    show (if (!decide (G j = r) || !decide (G k = r)) then 0 else ds (M j) (M k)) ≤ _
    by_cases h1 : G j = r
    · by_cases h2 : G k = r
      · rw [if_neg (by simp [h1, h2]), ds_comm]
        exact (wdO_iff (f := fun p q => ds (M p) (M q)) n).mp (Nat.le_refl _) k (by omega) j hk hj ((hb k (by omega)).mpr h2) ((hb j hj).mpr h1)
      · rw [if_pos (by simp [h2])]; exact Nat.zero_le _
    · rw [if_pos (by simp [h1])]; exact Nat.zero_le _
end
section
/-! class and reference: the same answers, part 4: cuts, looks, near, parts -/
theorem even_eq : ∀ P, P < 9 → 1 ≤ P → ∀ h, h < 3 → (evS P h P).1 = (cutS P h P).1 := by decide +kernel
def tri (A : Nat → Nat → Bool) (n : Nat) : Nat → Nat
  | 0 => 0
  | j + 1 => tri A n j + ct (fun t => A j (j + 1 + t)) (n - (j + 1))
def low (A : Nat → Nat → Bool) : Nat → Nat
  | 0 => 0
  | j + 1 => low A j + ct (fun k => A j k) j
def rec2 (A : Nat → Nat → Bool) (n : Nat) : Nat → Nat
  | 0 => 0
  | j + 1 => rec2 A n j + ct (fun k => A j k) n
theorem ct_ad2 (p : Nat → Bool) (a : Nat) : ∀ b, ct p (a + b) = ct p a + ct (fun t => p (a + t)) b
  | 0 => rfl
  | b + 1 => by
    show ct p (a + b) + (p (a + b)).toNat = ct p a + (ct (fun t => p (a + t)) b + (p (a + b)).toNat)
    rw [ct_ad2 p a b]; omega
theorem rec2_eq {A : Nat → Nat → Bool} {n : Nat} (hd : ∀ i, A i i = true) : ∀ j, j ≤ n → rec2 A n j = low A j + j + tri A n j
  | 0, _ => rfl
  | j + 1, h => by
    have ih := rec2_eq (A := A) (n := n) hd j (by omega)
    have e1 := ct_ad2 (fun k => A j k) (j + 1) (n - (j + 1))
    rw [show j + 1 + (n - (j + 1)) = n by omega] at e1
    have e2 : ct (fun k => A j k) (j + 1) = ct (fun k => A j k) j + 1 := ct_t (hd j)
    show rec2 A n j + ct (fun k => A j k) n = low A j + ct (fun k => A j k) j + (j + 1) + (tri A n j + ct (fun t => A j (j + 1 + t)) (n - (j + 1)))
    omega
theorem tri_S {A : Nat → Nat → Bool} {n : Nat} : ∀ j, j ≤ n → tri A (n + 1) j = tri A n j + ct (fun i => A i n) j
  | 0, _ => rfl
  | j + 1, h => by
    have ih := tri_S (A := A) (n := n) j (by omega)
    show tri A (n + 1) j + ct (fun t => A j (j + 1 + t)) (n + 1 - (j + 1)) = tri A n j + ct (fun t => A j (j + 1 + t)) (n - (j + 1)) + (ct (fun i => A i n) j + (A j n).toNat)
    rw [show n + 1 - (j + 1) = (n - (j + 1)) + 1 by omega]
    have e : ct (fun t => A j (j + 1 + t)) (n - (j + 1) + 1) = ct (fun t => A j (j + 1 + t)) (n - (j + 1)) + (A j n).toNat := by
      show ct (fun t => A j (j + 1 + t)) (n - (j + 1)) + (A j (j + 1 + (n - (j + 1)))).toNat = _
      rw [show j + 1 + (n - (j + 1)) = n by omega]
    omega
theorem tri_low {A : Nat → Nat → Bool} (hs : ∀ i j, A i j = A j i) : ∀ n, tri A n n = low A n
  | 0 => rfl
  | n + 1 => by
    have ih := tri_low hs n
    have e1 := tri_S (A := A) (n := n) n (Nat.le_refl n)
    show tri A (n + 1) n + ct (fun t => A n (n + 1 + t)) (n + 1 - (n + 1)) = low A n + ct (fun k => A n k) n
    rw [Nat.sub_self, e1, ih, ct_cong (fun i _ => hs i n)]
    rfl
theorem prX_tri {M : Nat → Int64} {n : Nat} {x : Int64} : ∀ j, prX M n x j = tri (fun i k => alikeC (M i ^^^ M k) x) n j
  | 0 => rfl
  | j + 1 => by
    show prX M n x j + _ = tri (fun i k => alikeC (M i ^^^ M k) x) n j + _
    rw [prX_tri j]
theorem looks_rec {M : Nat → Int64} {n : Nat} {x : Int64} (h0 : bt x 0 = true) : ∀ j, looksM M n x j = rec2 (fun i k => alikeC (M i ^^^ M k) x) n j
  | 0 => rfl
  | j + 1 => by
    show looksM M n x j + ct (fun k => lk (M j) (M k) x) n = rec2 (fun i k => alikeC (M i ^^^ M k) x) n j + ct (fun k => alikeC (M j ^^^ M k) x) n
    rw [looks_rec h0 j, ct_cong (fun k _ => alike_lk h0)]
theorem alike_self {x d : Int64} (h0 : bt x 0 = true) (hd : d = 0) : alikeC d x = true := by
  subst hd
  have hp := pop_pos h0
  unfold alikeC
  rcases hr : alB (fun p => !alZ 0 (kth x p) (enM x p)) (pop x) with _ | _
  · rfl
  · have := alB_iff.mp hr 0 (by omega)
    have h1 : alZ 0 (kth x 0) (enM x 0) = true := by
      unfold alZ; rw [alB_iff]; intro k _; rw [bt_0]; rfl
    rw [h1] at this; cases this
theorem looks_eq {M : Nat → Int64} {n : Nat} {x : Int64} (h0 : bt x 0 = true) : n + 2 * prX M n x n = looksM M n x n := by
  have h1 := rec2_eq (A := fun i k => alikeC (M i ^^^ M k) x) (n := n) (fun i => alike_self h0 (Int64.xor_self)) n (Nat.le_refl n)
  have h2 := tri_low (A := fun i k => alikeC (M i ^^^ M k) x) (fun i j => by rw [Int64.xor_comm]) n
  rw [looks_rec h0, h1, prX_tri, h2]; omega
theorem fewC_cong {f g : Nat → Nat} : ∀ {n : Nat}, (∀ h, h < n → f h = g h) → fewC f n = fewC g n
  | 0, _ => rfl
  | n + 1, h => by rw [fewC, fewC, fewC_cong (fun k hk => h k (by omega)), h n (by omega)]
theorem fewS_cong {f g : Nat → Nat} : ∀ {n : Nat}, (∀ h, h < n → f h = g h) → fewS f n = fewS g n
  | 0, _ => rfl
  | n + 1, h => by rw [fewS, fewS, fewS_cong (fun k hk => h k (by omega)), h n (by omega)]
theorem nI_ne_m1 {a : Nat} (h : a < 2 ^ 31) : ¬ nI a = -1 := by
  intro e
  have h1 : (0 : Int32) ≤ nI a := nI_pos' h
  rw [e] at h1
  exact absurd h1 (by decide)
theorem few_eq (f : Nat → Nat) : ∀ i, i < 5 → fewC f (i + 1) = ((fewS f (i + 1)).1, nI (fewS f (i + 1)).2)
  | 0, _ => by
    have e1 : fewC f (0 + 1) = (f 0, nI 0) := fewC_y rfl
    rw [e1]; rfl
  | i + 1, hi => by
    have ih := few_eq f i (by omega)
    have h2 := fewS2_le f (i + 1)
    have hne : ¬ nI (fewS f (i + 1)).2 = -1 := nI_ne_m1 (by omega)
    by_cases h : (fewS f (i + 1)).1 ≤ f (i + 1)
    · rw [fewC_n (by rw [ih]; simp [hne, h]), ih]
      rw [show fewS f (i + 1 + 1) = fewS f (i + 1) from by rw [fewS, if_neg (by simp; exact h), if_pos (by simp; exact h)]]
    · rw [fewC_y (by rw [ih]; simp only [hne, h, decide_false, Bool.not_false, Bool.or_true])]
      rw [show fewS f (i + 1 + 1) = (f (i + 1), i + 1) from by rw [fewS, if_pos (by simp; omega), if_neg (by simp; omega)]]
theorem near_eq {K : Int32} {d q c : Nat} (hK : K = nI 0 ∨ K = nI 1 ∨ K = nI 2) : nearQ K d q c = nearP K d q c := by
  unfold nearQ nearP
  rcases hK with rfl | rfl | rfl
  · rw [show decide (nI 0 = nI 1) = false from by decide, show decide (nI 0 = nI 2) = false from by decide, show decide (nI 0 = (0 : Int32)) = true from by decide]
    simp
  · rw [show decide (nI 1 = nI 1) = true from by decide]; simp
  · rw [show decide (nI 2 = nI 1) = false from by decide, show decide (nI 2 = nI 2) = true from by decide, show decide (nI 2 = (0 : Int32)) = false from by decide]
    simp
/-- a part's bits -/
theorem ct_int {lo hi : Nat} : ∀ {N : Nat}, lo ≤ hi → hi ≤ N → ct (fun j => decide (lo ≤ j) && decide (j < hi)) N = hi - lo
  | 0, h1, h2 => by show 0 = hi - lo; omega
  | N + 1, h1, h2 => by
    rcases Nat.eq_or_lt_of_le h2 with e | e
    · subst e
      rcases Nat.eq_or_lt_of_le h1 with e2 | e2
      · subst e2
        rw [ct_f (by simp)]
        rw [ct_cong (q := fun _ => false) (fun k hk => by simp <;> omega)]
        have : ∀ m, ct (fun _ => false) m = 0 := fun m => by induction m with
          | zero => rfl
          | succ m ih => rw [ct_f rfl, ih]
        rw [this]; omega
      · rw [ct_t (by simp; omega)]
        have := ct_int (lo := lo) (hi := N) (N := N) (by omega) (Nat.le_refl _)
        rw [ct_cong (q := fun j => decide (lo ≤ j) && decide (j < N)) (fun k hk => by
          have h3 : k < N + 1 := by omega
          simp [hk, h3]), this]; omega
    · rw [ct_f (by simp; omega), ct_int h1 (by omega)]
theorem pop_mask {x M : Int64} {p : Nat} (hp : p < pop x) (hM : ∀ j, j < 64 → bt M j = (decide (kth x p ≤ j) && decide (j < enM x p))) : pop M = enM x p - kth x p := by
  unfold pop
  rw [ct_cong (fun k hk => hM k hk)]
  exact ct_int (Nat.le_of_lt (enM_gt hp)) (enM_le x p)
theorem with_eq {x M a h : Int64} {p : Nat} (hM : ∀ j, j < 64 → bt M j = (decide (kth x p ≤ j) && decide (j < enM x p))) : decide ((a ^^^ h) &&& M = 0) = alB (fun t => decide (bt a (kth x p + t) = bt h (kth x p + t))) (enM x p - kth x p) := by
  rw [and_zero (enM_le x p) hM]
  unfold alZ
  refine alB_cong (fun t _ => ?_)
  rw [bt_xor]
  rcases bt a (kth x p + t) with _ | _ <;> rcases bt h (kth x p + t) with _ | _ <;> rfl
end
section
/-! class and reference: what holds between their cells -/
def Sto (mi : MI) (ml : ML) (a A K p q n : Nat) : Prop :=
  n ≤ 40 ∧ mi a 2 = nI n ∧ ml A (p + 2) = lN n ∧ ml A p = ml a 0 ∧ ml A (p + 1) = ml a 1 ∧ (∀ k, k < n → ml A (p + 3 + k) = ml (a + 1) k) ∧ (∀ k, k < n → mi K (q + k) = mi (a + 2) k) ∧ (bt (ml a 1) 0 = true ∧ pop (ml a 1) ≤ 8) ∧ (∀ j k, j < n → k < n → ml (a + 1) j = ml (a + 1) k → j = k) ∧ ∀ k, k < n → mi (a + 2) k = nI 0 ∨ mi (a + 2) k = nI 1 ∨ mi (a + 2) k = nI 2
theorem Sto.tr {mi m : MI} {ml z : ML} {a A K p q n a' A' K' p' q' : Nat} (h : Sto mi ml a A K p q n) (hc : m a' 2 = mi a 2) (h0 : z a' 0 = ml a 0) (h1 : z a' 1 = ml a 1) (hM : ∀ k, k < n → z (a' + 1) k = ml (a + 1) k) (hKi : ∀ k, k < n → m (a' + 2) k = mi (a + 2) k) (hL : ∀ i, i < 43 → z A' (p' + i) = ml A (p + i)) (hK : ∀ i, i < 40 → m K' (q' + i) = mi K (q + i)) : Sto m z a' A' K' p' q' n := by
  obtain ⟨a1, a2, a3, a4, a5, a6, a7, a8, a9, a10⟩ := h
  refine ⟨a1, hc.trans a2, (hL 2 (by decide)).trans a3, ((hL 0 (by decide)).trans a4).trans h0.symm, ((hL 1 (by decide)).trans a5).trans h1.symm, fun k hk => ?_, fun k hk => ?_, ?_, fun j k hj hk e => ?_, fun k hk => ?_⟩
  · have := hL (3 + k) (by omega)
    rw [← Nat.add_assoc, ← Nat.add_assoc] at this
    rw [this, a6 k hk, hM k hk]
  · rw [hK k (by omega), a7 k hk, hKi k hk]
  · rw [h1]; exact a8
  · rw [hM j hj, hM k hk] at e; exact a9 j k hj hk e
  · rw [hKi k hk]; exact a10 k hk
theorem Sto.cg {mi m : MI} {ml z : ML} {a A K p q n : Nat} (h : Sto mi ml a A K p q n) (h1 : m a = mi a) (h2 : m (a + 2) = mi (a + 2)) (h3 : m K = mi K) (h4 : z a = ml a) (h5 : z (a + 1) = ml (a + 1)) (h6 : z A = ml A) : Sto m z a A K p q n :=
  h.tr (by rw [h1]) (by rw [h4]) (by rw [h4]) (fun k _ => by rw [h5]) (fun k _ => by rw [h2]) (fun i _ => by rw [h6]) (fun i _ => by rw [h3])
def PastR (mi : MI) (ml : ML) (nx c : Nat) : Prop := mi 4 1 = nI nx ∧ nx < 20 ∧ mi 4 2 = nI c ∧ c ≤ 20 ∧ mi 95 2 = nI c ∧ ∀ j, j < c → ∃ nb, Sto mi ml (6 + 3 * ((nx + 20 - c + j) % 20)) 98 99 (43 * j) (40 * j) nb
def ImR (mi : MI) (ml : ML) (im q : Nat) : Prop := (mi im 2 = nI 0 ∧ mi 103 q = nI 0) ∨ (mi im 2 = nI 1 ∧ mi 103 q = nI 1 ∧ (∃ z, z < 2147483648 ∧ mi im 1 = nI z ∧ mi 102 q = nI z) ∧ ∃ nb, Sto mi ml (im + 1) 100 101 (43 * q) (40 * q) nb)
def SeedR (mi : MI) (z : Nat) : Prop := z < 2147483648 ∧ mi 94 0 = nI z ∧ mi 95 9 = nI z
def SeenR (mi : MI) (ml : ML) (s : Nat) : Prop := s ≤ 6 ∧ mi 86 3 = nI s ∧ mi 95 10 = nI s ∧ ∀ i, i < s → ml 104 i = ml 87 i ∧ mi 105 i = mi 88 i
def BookR (mi : MI) (E : Nat) (B1 B2 : Nat → Nat) : Prop := E ≤ 20 ∧ mi 90 3 = nI E ∧ mi 95 13 = nI E ∧ ∀ e, e < E → (mi 91 e = nI (B1 e) ∧ mi 106 e = nI (B1 e) ∧ B1 e < 40) ∧ (mi 92 e = nI (B2 e) ∧ mi 107 e = nI (B2 e) ∧ B2 e < 40) ∧ B1 e ≠ B2 e ∧ mi 108 e = mi 93 e
def RelP (mi : MI) (ml : ML) (n nx c z s E : Nat) (B1 B2 : Nat → Nat) : Prop := Sto mi ml 1 96 97 0 0 n ∧ PtOK mi ml 75 (ml 1 1) ∧ PastR mi ml nx c ∧ (ImR mi ml 67 0 ∧ ImR mi ml 71 1) ∧ SeedR mi z ∧ SeenR mi ml s ∧ BookR mi E B1 B2
def Rel (mi : MI) (ml : ML) : Prop := ∃ n nx c z s E B1 B2, RelP mi ml n nx c z s E B1 B2
theorem PtOK.cg {mi m : MI} {ml z : ML} {x : Int64} (h : PtOK mi ml 75 x) (h1 : m 75 = mi 75) (h2 : m 76 = mi 76) (h3 : z 77 = ml 77) : PtOK m z 75 x := by
  obtain ⟨a1, a2, a3⟩ := h
  exact ⟨by rw [h1]; exact a1, fun p hp => by rw [h2]; exact a2 p hp, fun p hp => by rw [h3]; exact a3 p hp⟩
theorem PastR.cg {mi m : MI} {ml z : ML} {nx c : Nat} (h : PastR mi ml nx c) (h4 : m 4 = mi 4) (h95 : m 95 2 = mi 95 2) (h99 : m 99 = mi 99) (h98 : z 98 = ml 98) (hr : ∀ t, 6 ≤ t → t < 66 → m t = mi t ∧ z t = ml t) : PastR m z nx c := by
  obtain ⟨a1, a2, a3, a4, a5, a6⟩ := h
  refine ⟨by rw [h4]; exact a1, a2, by rw [h4]; exact a3, a4, by rw [h95]; exact a5, fun j hj => ?_⟩
  obtain ⟨nb, hb⟩ := a6 j hj
  have hm := Nat.mod_lt (nx + 20 - c + j) (show 0 < 20 by decide)
  exact ⟨nb, hb.cg (hr _ (by omega) (by omega)).1 (hr _ (by omega) (by omega)).1 h99 (hr _ (by omega) (by omega)).2 (hr _ (by omega) (by omega)).2 h98⟩
theorem ImR.cg {mi m : MI} {ml z : ML} {im q : Nat} (h : ImR mi ml im q) (h1 : m im = mi im) (h2 : m 103 = mi 103) (h3 : m 102 = mi 102) (h4 : m (im + 1) = mi (im + 1)) (h5 : m (im + 1 + 2) = mi (im + 1 + 2)) (h6 : m 101 = mi 101) (h7 : z (im + 1) = ml (im + 1)) (h8 : z (im + 1 + 1) = ml (im + 1 + 1)) (h9 : z 100 = ml 100) : ImR m z im q := by
  rcases h with h | ⟨g1, g2, ⟨zz, g3, g4, g5⟩, nb, g6⟩
  · left; rw [h1, h2]; exact h
  · right; exact ⟨by rw [h1]; exact g1, by rw [h2]; exact g2, ⟨zz, g3, by rw [h1]; exact g4, by rw [h3]; exact g5⟩, nb, g6.cg h4 h5 h6 h7 h8 h9⟩
theorem SeenR.cg {mi m : MI} {ml z : ML} {s : Nat} (h : SeenR mi ml s) (h1 : m 86 = mi 86) (h2 : m 95 10 = mi 95 10) (h3 : z 104 = ml 104) (h4 : z 87 = ml 87) (h5 : m 105 = mi 105) (h6 : m 88 = mi 88) : SeenR m z s := by
  unfold SeenR; rw [h1, h2, h3, h4, h5, h6]; exact h
theorem BookR.cg {mi m : MI} {E : Nat} {B1 B2 : Nat → Nat} (h : BookR mi E B1 B2) (h0 : m 90 = mi 90) (h1 : m 95 13 = mi 95 13) (h2 : m 91 = mi 91) (h3 : m 92 = mi 92) (h4 : m 93 = mi 93) (h5 : m 106 = mi 106) (h6 : m 107 = mi 107) (h7 : m 108 = mi 108) : BookR m E B1 B2 := by
  unfold BookR; rw [h0, h1, h2, h3, h4, h5, h6, h7]; exact h
/-- cells that nothing rests on -/
theorem RelP.fr {mi m : MI} {ml z : ML} {n nx c q s E : Nat} {B1 B2 : Nat → Nat} (R : RelP mi ml n nx c q s E B1 B2) (hm : ∀ t, t ≠ 78 → t ≠ 79 → t ≠ 81 → t ≠ 89 → t ≠ 109 → t ≠ 110 → m t = mi t) (hz : ∀ t, t ≠ 80 → t ≠ 82 → t ≠ 83 → t ≠ 84 → t ≠ 85 → z t = ml t) : RelP m z n nx c q s E B1 B2 := by
  obtain ⟨r1, r2, r3, ⟨r4, r5⟩, r6, r7, r8⟩ := R
  have M : ∀ t, t < 78 ∨ (89 < t ∧ t < 109) ∨ (81 < t ∧ t < 89) → m t = mi t := fun t ht => hm t (by omega) (by omega) (by omega) (by omega) (by omega) (by omega)
  have Z : ∀ t, t < 80 ∨ 85 < t → z t = ml t := fun t ht => hz t (by omega) (by omega) (by omega) (by omega) (by omega)
  refine ⟨r1.cg (M _ (by decide)) (M _ (by decide)) (M _ (by decide)) (Z _ (by decide)) (Z _ (by decide)) (Z _ (by decide)), ?_, r3.cg (M _ (by decide)) (by rw [M 95 (by decide)]) (M _ (by decide)) (Z _ (by decide)) (fun t h1 h2 => ⟨M _ (by omega), Z _ (by omega)⟩), ⟨r4.cg (M _ (by decide)) (M _ (by decide)) (M _ (by decide)) (M _ (by decide)) (M _ (by decide)) (M _ (by decide)) (Z _ (by decide)) (Z _ (by decide)) (Z _ (by decide)), r5.cg (M _ (by decide)) (M _ (by decide)) (M _ (by decide)) (M _ (by decide)) (M _ (by decide)) (M _ (by decide)) (Z _ (by decide)) (Z _ (by decide)) (Z _ (by decide))⟩, ?_, r7.cg (M _ (by decide)) (by rw [M 95 (by decide)]) (Z _ (by decide)) (Z _ (by decide)) (M _ (by decide)) (M _ (by decide)), r8.cg (M _ (by decide)) (by rw [M 95 (by decide)]) (M _ (by decide)) (M _ (by decide)) (M _ (by decide)) (M _ (by decide)) (M _ (by decide)) (M _ (by decide))⟩
  · rw [Z 1 (by decide)]; exact r2.cg (M _ (by decide)) (M _ (by decide)) (Z _ (by decide))
  · unfold SeedR; rw [M 94 (by decide), M 95 (by decide)]; exact r6
/-- a deed: what was is remembered on both sides -/
theorem bcI_c {mi : MI} {a b n : Nat} : bcI mi a b n a 2 = nI n := by unfold bcI; rw [cpL_n _ (by omega), u2_s, uf_s]
theorem bcI_k {mi : MI} {a b n k : Nat} (hk : k < n) (hb : b + 2 ≠ a) : bcI mi a b n (a + 2) k = mi (b + 2) k := by
  unfold bcI
  have := cpL_in (u2 mi a 2 (nI n)) (dst := a + 2) (dp := 0) (src := b + 2) (sp := 0) (len := n) hk
  rw [Nat.zero_add] at this
  rw [this, u2_n _ _ _ hb]
theorem bcL_0 {ml : ML} {a b n : Nat} : bcL ml a b n a 0 = ml b 0 := by unfold bcL; rw [cpL_n _ (by omega), u2_s, uf_n _ _ (by decide), u2_s, uf_s]
theorem bcL_1 {ml : ML} {a b n : Nat} : bcL ml a b n a 1 = ml b 1 := by unfold bcL; rw [cpL_n _ (by omega), u2_s, uf_s]
theorem bcL_k {ml : ML} {a b n k : Nat} (hk : k < n) (hb : b + 1 ≠ a) : bcL ml a b n (a + 1) k = ml (b + 1) k := by
  unfold bcL
  have := cpL_in (u2 (u2 ml a 0 (ml b 0)) a 1 (ml b 1)) (dst := a + 1) (dp := 0) (src := b + 1) (sp := 0) (len := n) hk
  rw [Nat.zero_add] at this
  rw [this, u2_n _ _ _ hb, u2_n _ _ _ hb]
theorem remI_r {mi : MI} {nx c n t : Nat} (h : t ≠ 4) : remI mi nx c n t = bcI mi (6 + 3 * nx) 1 n t := by unfold remI; rw [u2_n _ _ _ h, u2_n _ _ _ h]
theorem remI_41 {mi : MI} {nx c n : Nat} : remI mi nx c n 4 1 = nI (nxP nx) := by unfold remI; rw [u2_s, uf_n _ _ (by decide), u2_s, uf_s]; rfl
theorem remI_42 {mi : MI} {nx c n : Nat} : remI mi nx c n 4 2 = nI (cP c) := by unfold remI; rw [u2_s, uf_s]; rfl
theorem cP_s {c : Nat} (h : c < 20) : cP c = c + 1 := by unfold cP; rw [if_neg (by simp; omega)]
theorem cP_f : cP 20 = 20 := rfl
theorem nxP_mod {nx : Nat} (h : nx < 20) : nxP nx = (nx + 1) % 20 := by
  unfold nxP; by_cases h2 : 20 ≤ nx + 1
  · rw [if_pos (by simpa using h2)]; omega
  · rw [if_neg (by simpa using h2)]; omega
theorem past_step {mi m2 m4 : MI} {ml z2 z4 : ML} {n nx c : Nat} (hN : Sto mi ml 1 96 97 0 0 n) (hP : PastR mi ml nx c)
    (hm2 : ∀ t, t ≠ 1 → t ≠ 3 → t ≠ 75 → t ≠ 76 → t ≠ 94 → m2 t = remI mi nx c n t) (hz2 : ∀ t, t ≠ 1 → t ≠ 2 → t ≠ 77 → z2 t = remL ml nx n t)
    (hm4 : ∀ t, t ≠ 95 → t ≠ 97 → m4 t = noteI m2 c t) (hm5 : m4 95 2 = noteI m2 c 95 2) (hz4 : ∀ t, t ≠ 96 → z4 t = noteL z2 c t) : PastR m4 z4 (nxP nx) (cP c) := by
  obtain ⟨a1, a2, a3, a4, a5, a6⟩ := hP
  have e4 : m4 4 = remI mi nx c n 4 := by rw [hm4 4 (by decide) (by decide), noteI_n _ _ (by decide) (by decide), hm2 4 (by decide) (by decide) (by decide) (by decide) (by decide)]
  have hrI : ∀ t, 6 ≤ t → t < 66 → m4 t = bcI mi (6 + 3 * nx) 1 n t := fun t h1 h2 => by
    rw [hm4 t (by omega) (by omega), noteI_n _ _ (by omega) (by omega), hm2 t (by omega) (by omega) (by omega) (by omega) (by omega), remI_r (by omega)]
  have hrL : ∀ t, 6 ≤ t → t < 66 → z4 t = bcL ml (6 + 3 * nx) 1 n t := fun t h1 h2 => by
    rw [hz4 t (by omega), noteL_n _ _ (by omega), hz2 t (by omega) (by omega) (by omega)]; rfl
  have h97 : m2 97 = mi 97 := by rw [hm2 97 (by decide) (by decide) (by decide) (by decide) (by decide), remI_n _ (by omega) (by omega) (by decide)]
  have h99 : m2 99 = mi 99 := by rw [hm2 99 (by decide) (by decide) (by decide) (by decide) (by decide), remI_n _ (by omega) (by omega) (by decide)]
  have h96 : z2 96 = ml 96 := by rw [hz2 96 (by decide) (by decide) (by decide), remL_n _ (by omega) (by omega)]
  have h98 : z2 98 = ml 98 := by rw [hz2 98 (by decide) (by decide) (by decide), remL_n _ (by omega) (by omega)]
  have hold : ∀ {r j j' nb : Nat}, r < 20 → r ≠ nx → Sto mi ml (6 + 3 * r) 98 99 (43 * j') (40 * j') nb → (∀ i, i < 43 → z4 98 (43 * j + i) = ml 98 (43 * j' + i)) → (∀ i, i < 40 → m4 99 (40 * j + i) = mi 99 (40 * j' + i)) → Sto m4 z4 (6 + 3 * r) 98 99 (43 * j) (40 * j) nb := by
    intro r j j' nb hr hne h hL hK
    exact h.tr (by rw [hrI _ (by omega) (by omega), bcI_n _ (by omega) (by omega)]) (by rw [hrL _ (by omega) (by omega), bcL_n _ (by omega) (by omega)]) (by rw [hrL _ (by omega) (by omega), bcL_n _ (by omega) (by omega)]) (fun k _ => by rw [hrL _ (by omega) (by omega), bcL_n _ (by omega) (by omega)]) (fun k _ => by rw [hrI _ (by omega) (by omega), bcI_n _ (by omega) (by omega)]) hL hK
  have hnew : ∀ {j : Nat}, (∀ i, i < 43 → z4 98 (43 * j + i) = ml 96 (0 + i)) → (∀ i, i < 40 → m4 99 (40 * j + i) = mi 97 (0 + i)) → Sto m4 z4 (6 + 3 * nx) 98 99 (43 * j) (40 * j) n := by
    intro j hL hK
    exact hN.tr (by rw [hrI _ (by omega) (by omega), bcI_c]; exact hN.2.1.symm) (by rw [hrL _ (by omega) (by omega), bcL_0]) (by rw [hrL _ (by omega) (by omega), bcL_1]) (fun k hk => by rw [hrL _ (by omega) (by omega), bcL_k hk (by omega)]) (fun k hk => by rw [hrI _ (by omega) (by omega), bcI_k hk (by omega)]) hL hK
  have hnx := nxP_lt a2
  have hcp := cP_le a4
  refine ⟨by rw [e4, remI_41], hnx, by rw [e4, remI_42], hcp, ?_, fun j hj => ?_⟩
  · rw [hm5, noteI_c]
    by_cases h : c = 20
    · rw [if_pos h, h]; rfl
    · rw [if_neg h, cP_s (by omega)]
  · rw [nxP_mod a2] at hnx ⊢
    by_cases h : c = 20
    · subst h
      rw [cP_f] at hj
      have zL : ∀ x, z4 98 x = cpL (shL z2 98 0 43 817) 98 (43 * 19) 96 0 43 98 x := fun x => by rw [hz4 98 (by decide)]; unfold noteL; rw [if_pos rfl]
      have zI : ∀ x, m4 99 x = cpL (u2 (shL m2 99 0 40 760) 95 2 (nI 19)) 99 (40 * 19) 97 0 40 99 x := fun x => by rw [hm4 99 (by decide) (by decide)]; unfold noteI; rw [if_pos rfl, u2_n _ _ _ (by decide)]
      rcases Nat.lt_or_ge j 19 with h1 | h1
      · obtain ⟨nb, hb⟩ := a6 (j + 1) (by omega)
        have er : (((nx + 1) % 20) + 20 - 20 + j) % 20 = (nx + 20 - 20 + (j + 1)) % 20 := by omega
        rw [cP_f, er]
        refine ⟨nb, hold (Nat.mod_lt _ (by decide)) (by omega) hb (fun i hi => ?_) (fun i hi => ?_)⟩
        · rw [zL, cpL_out _ (Or.inl (by omega)), shL_in _ (by omega) (by omega), h98, show 43 * j + i + 43 = 43 * (j + 1) + i by omega]
        · rw [zI, cpL_out _ (Or.inl (by omega)), u2_n _ _ _ (by decide), shL_in _ (by omega) (by omega), h99, show 40 * j + i + 40 = 40 * (j + 1) + i by omega]
      · have ej : j = 19 := by omega
        subst ej
        have er : (((nx + 1) % 20) + 20 - 20 + 19) % 20 = nx := by omega
        rw [cP_f, er]
        refine ⟨n, hnew (fun i hi => ?_) (fun i hi => ?_)⟩
        · rw [zL, cpL_in _ hi, shL_n _ (by decide), h96]
        · rw [zI, cpL_in _ hi, u2_n _ _ _ (by decide), shL_n _ (by decide), h97]
    · have hcl : c < 20 := by omega
      rw [cP_s hcl] at hj ⊢
      have zL : ∀ x, z4 98 x = cpL z2 98 (43 * c) 96 0 43 98 x := fun x => by rw [hz4 98 (by decide)]; unfold noteL; rw [if_neg h]
      have zI : ∀ x, m4 99 x = cpL m2 99 (40 * c) 97 0 40 99 x := fun x => by rw [hm4 99 (by decide) (by decide)]; unfold noteI; rw [if_neg h, u2_n _ _ _ (by decide)]
      rcases Nat.lt_or_ge j c with h1 | h1
      · obtain ⟨nb, hb⟩ := a6 j h1
        have er : (((nx + 1) % 20) + 20 - (c + 1) + j) % 20 = (nx + 20 - c + j) % 20 := by omega
        rw [er]
        refine ⟨nb, hold (Nat.mod_lt _ (by decide)) (by omega) hb (fun i hi => ?_) (fun i hi => ?_)⟩
        · rw [zL, cpL_out _ (Or.inl (by omega)), h98]
        · rw [zI, cpL_out _ (Or.inl (by omega)), h99]
      · have ej : j = c := by omega
        subst ej
        have er : (((nx + 1) % 20) + 20 - (j + 1) + j) % 20 = nx := by omega
        rw [er]
        refine ⟨n, hnew (fun i hi => ?_) (fun i hi => ?_)⟩
        · rw [zL, cpL_in _ hi, h96]
        · rw [zI, cpL_in _ hi, h97]
theorem deed {mi m2 m4 : MI} {ml z2 z4 : ML} {n nx c q s E : Nat} {B1 B2 : Nat → Nat} (R : RelP mi ml n nx c q s E B1 B2)
    (hm2 : ∀ t, t ≠ 1 → t ≠ 3 → t ≠ 75 → t ≠ 76 → t ≠ 94 → m2 t = remI mi nx c n t) (hz2 : ∀ t, t ≠ 1 → t ≠ 2 → t ≠ 77 → z2 t = remL ml nx n t)
    (hm4 : ∀ t, t ≠ 95 → t ≠ 97 → m4 t = noteI m2 c t) (hm5 : ∀ k, k ≠ 9 → m4 95 k = noteI m2 c 95 k) (hz4 : ∀ t, t ≠ 96 → z4 t = noteL z2 c t)
    {n' q' : Nat} (hN : Sto m4 z4 1 96 97 0 0 n') (hT : PtOK m4 z4 75 (z4 1 1)) (hS : SeedR m4 q') : RelP m4 z4 n' (nxP nx) (cP c) q' s E B1 B2 := by
  obtain ⟨r1, r2, r3, ⟨r4, r5⟩, r6, r7, r8⟩ := R
  have hx := r3.2.1
  have M : ∀ t, t = 2 ∨ (66 ≤ t ∧ t < 75) ∨ (77 ≤ t ∧ t < 94) ∨ 99 < t → m4 t = mi t := fun t ht => by
    rw [hm4 t (by omega) (by omega), noteI_n _ _ (by omega) (by omega), hm2 t (by omega) (by omega) (by omega) (by omega) (by omega), remI_n _ (by omega) (by omega) (by omega)]
  have Z : ∀ t, (66 ≤ t ∧ t < 77) ∨ (78 ≤ t ∧ t < 96) ∨ 98 < t → z4 t = ml t := fun t ht => by
    rw [hz4 t (by omega), noteL_n _ _ (by omega), hz2 t (by omega) (by omega) (by omega), remL_n _ (by omega) (by omega)]
  have M95 : ∀ k, k ≠ 9 → k ≠ 2 → m4 95 k = mi 95 k := fun k h1 h2 => by
    rw [hm5 k h1, noteI_95 _ _ h2, hm2 95 (by decide) (by decide) (by decide) (by decide) (by decide), remI_n _ (by omega) (by omega) (by decide)]
  exact ⟨hN, hT, past_step r1 r3 hm2 hz2 hm4 (hm5 2 (by decide)) hz4, ⟨r4.cg (M _ (by decide)) (M _ (by decide)) (M _ (by decide)) (M _ (by decide)) (M _ (by decide)) (M _ (by decide)) (Z _ (by decide)) (Z _ (by decide)) (Z _ (by decide)), r5.cg (M _ (by decide)) (M _ (by decide)) (M _ (by decide)) (M _ (by decide)) (M _ (by decide)) (M _ (by decide)) (Z _ (by decide)) (Z _ (by decide)) (Z _ (by decide))⟩, hS, r7.cg (M _ (by decide)) (M95 _ (by decide) (by decide)) (Z _ (by decide)) (Z _ (by decide)) (M _ (by decide)) (M _ (by decide)), r8.cg (M _ (by decide)) (M95 _ (by decide) (by decide)) (M _ (by decide)) (M _ (by decide)) (M _ (by decide)) (M _ (by decide)) (M _ (by decide)) (M _ (by decide))⟩
end
section
/-! class and reference: answers, out of the relation -/
theorem nle_m1 {a : Nat} (h : a < 2 ^ 31) : ¬ nI a ≤ -1 := by
  rw [Int32.le_iff_toInt_le, nI_toInt h, show (-1 : Int32).toInt = -1 from by decide]; omega
theorem nIle_iff {a b : Nat} (ha : a < 2 ^ 31) (hb : b < 2 ^ 31) : nI a ≤ nI b ↔ a ≤ b := by
  rw [Int32.le_iff_toInt_le, nI_toInt ha, nI_toInt hb]; omega
theorem ahd_cong {f g : Nat → Nat} {n k : Nat} (h : ∀ j, j < n → f j = g j) (hk : k < n) : ahd f n k = ahd g n k := by
  unfold ahd; exact ct_cong (fun j hj => by rw [h j hj, h k hk])
theorem deadM_cong {M N : Nat → Int64} {n b : Nat} (h : ∀ k, k < n → M k = N k) : deadM M n b = deadM N n b := by
  unfold deadM; exact alB_cong (fun k hk => by rw [h k hk, h 0 (by omega)])
theorem togM_cong {M N : Nat → Int64} {n a b : Nat} (h : ∀ k, k < n → M k = N k) : togM M n a b = togM N n a b := by
  unfold togM
  rw [alB_cong (p := fun k => decide (bt (M k) a = bt (M k) b)) (q := fun k => decide (bt (N k) a = bt (N k) b)) (fun k hk => by show decide (bt (M k) a = bt (M k) b) = decide (bt (N k) a = bt (N k) b); rw [h k hk]),
    alB_cong (p := fun k => !decide (bt (M k) a = bt (M k) b)) (q := fun k => !decide (bt (N k) a = bt (N k) b)) (fun k hk => by show (!decide (bt (M k) a = bt (M k) b)) = (!decide (bt (N k) a = bt (N k) b)); rw [h k hk])]
theorem pairM_cong {M N : Nat → Int64} {n a b : Nat} (h : ∀ k, k < n → M k = N k) : pairM M n a b = pairM N n a b := by
  unfold pairM; rw [deadM_cong h, deadM_cong (b := b) h, togM_cong h]
theorem askS_cong {g h : Nat → Nat} {few : Nat} : ∀ {m : Nat}, (∀ i, i < m → g i = h i) → askS g few m = askS h few m
  | 0, _ => rfl
  | m + 1, e => by rw [askS, askS, askS_cong (fun i hi => e i (by omega)), e m (by omega)]
theorem cn_cong {f g : Nat → Nat} {c d : Nat → Bool} {t j : Nat} (h : ∀ i, i < j → f i = g i ∧ c i = d i) : cn f c t j = cn g d t j := by
  unfold cn; exact ct_cong (fun k hk => by rw [(h k hk).1, (h k hk).2])
theorem mst_cong {f g : Nat → Nat} {c d : Nat → Bool} : ∀ {j : Nat}, (∀ i, i < j → f i = g i ∧ c i = d i) → mst f c j = mst g d j
  | 0, _ => rfl
  | j + 1, e => by
    rw [mst, mst, mst_cong (fun i hi => e i (by omega)), (e j (by omega)).1, (e j (by omega)).2, cn_cong (fun i hi => e i (by omega))]
theorem Lab.cg {M N : Nat → Int64} {n b : Nat} {G : Nat → Nat} (h : ∀ k, k < n → M k = N k) (L : Lab M n b G) : Lab N n b G := by
  have hR : ∀ j k, j < n → k < n → Rb N b j k → Rb M b j k := fun j k hj hk r => by unfold Rb at *; rw [h j hj, h k hk]; exact r
  refine ⟨fun k hk => ⟨(L.1 k hk).1, fun P h1 h2 => (L.1 k hk).2 P h1 (fun a c ha hc pa r => h2 a c ha hc pa ?_)⟩, fun j k hj hk r => L.2 j k hj hk (hR j k hj hk r)⟩
  unfold Rb at *; rw [← h a ha, ← h c hc]; exact r
theorem mxI_cong {f g : Nat → Nat} {m : Nat} : ∀ {k : Nat}, (∀ i, i < k → f i = g i) → mxI f m k = mxI g m k
  | 0, _ => rfl
  | k + 1, h => by rw [mxI, mxI, mxI_cong (fun i hi => h i (by omega)), h k (by omega)]
theorem mxO_cong {f g : Nat → Nat → Nat} : ∀ {n : Nat}, (∀ j, j < n → ∀ k, k < j → f j k = g j k) → mxO f n = mxO g n
  | 0, _ => rfl
  | n + 1, h => by rw [mxO, mxO, mxO_cong (fun j hj => h j (by omega)), mxI_cong (h n (by omega))]
theorem looksM_cong {M N : Nat → Int64} {n : Nat} {x : Int64} (h : ∀ k, k < n → M k = N k) : ∀ {j : Nat}, j ≤ n → looksM M n x j = looksM N n x j
  | 0, _ => rfl
  | j + 1, hj => by
    show looksM M n x j + ct (fun k => lk (M j) (M k) x) n = looksM N n x j + ct (fun k => lk (N j) (N k) x) n
    rw [looksM_cong h (show j ≤ n by omega), ct_cong (p := fun k => lk (M j) (M k) x) (q := fun k => lk (N j) (N k) x) (fun k hk => by show lk (M j) (M k) x = lk (N j) (N k) x; rw [h j (by omega), h k hk])]
theorem isMk_m1 (n : Nat) : isMk n (-1) = false := by
  unfold isMk; rw [show decide ((0 : Int32) ≤ -1) = false from by decide]; rfl
section RELANS
variable {mi : MI} {ml : ML} {n nx c q s E : Nat} {B1 B2 : Nat → Nat}
theorem RelP.n40 (R : RelP mi ml n nx c q s E B1 B2) : n ≤ 40 := R.1.1
theorem RelP.hn (R : RelP mi ml n nx c q s E B1 B2) : mi 1 2 = nI n := R.1.2.1
theorem RelP.hm (R : RelP mi ml n nx c q s E B1 B2) : ml 96 2 = lN n := R.1.2.2.1
theorem RelP.h0 (R : RelP mi ml n nx c q s E B1 B2) : ml 96 0 = ml 1 0 := R.1.2.2.2.1
theorem RelP.h1 (R : RelP mi ml n nx c q s E B1 B2) : ml 96 1 = ml 1 1 := R.1.2.2.2.2.1
theorem RelP.own (R : RelP mi ml n nx c q s E B1 B2) : ∀ k, k < n → oM ml k = ml 2 k := by
  obtain ⟨a1, a2, a3, a4, a5, a6, a7, a8, a9, a10⟩ := R.1
  intro k hk
  have e := a6 k hk
  rw [show 0 + 3 + k = 3 + k by omega] at e
  exact e
theorem RelP.knd (R : RelP mi ml n nx c q s E B1 B2) : ∀ k, k < n → mi 97 k = mi 3 k := by
  obtain ⟨a1, a2, a3, a4, a5, a6, a7, a8, a9, a10⟩ := R.1
  intro k hk
  have e := a7 k hk
  rw [Nat.zero_add] at e
  exact e
theorem RelP.cut (R : RelP mi ml n nx c q s E B1 B2) : bt (ml 1 1) 0 = true ∧ pop (ml 1 1) ≤ 8 := by
  obtain ⟨a1, a2, a3, a4, a5, a6, a7, a8, a9, a10⟩ := R.1
  exact a8
theorem RelP.inj (R : RelP mi ml n nx c q s E B1 B2) : ∀ j k, j < n → k < n → ml 2 j = ml 2 k → j = k := by
  obtain ⟨a1, a2, a3, a4, a5, a6, a7, a8, a9, a10⟩ := R.1
  exact a9
theorem RelP.kn3 (R : RelP mi ml n nx c q s E B1 B2) : ∀ k, k < n → mi 3 k = nI 0 ∨ mi 3 k = nI 1 ∨ mi 3 k = nI 2 := by
  obtain ⟨a1, a2, a3, a4, a5, a6, a7, a8, a9, a10⟩ := R.1
  exact a10
theorem RelP.hP (R : RelP mi ml n nx c q s E B1 B2) : mi 75 2 = nI (pop (ml 1 1)) := R.2.1.1
theorem RelP.P1 (R : RelP mi ml n nx c q s E B1 B2) : 1 ≤ pop (ml 1 1) := pop_pos R.cut.1
theorem RelP.like (R : RelP mi ml n nx c q s E B1 B2) : fromB (fun k => decide (ml 2 k = ml 1 0)) n 0 = lastB (fun k => decide (oM ml k = ml 96 0)) n := by
  refine (first_last (fun j k hj hk h1 h2 => ?_)).trans (lastB_cong (fun k hk => ?_))
  · simp only [decide_eq_true_eq] at h1 h2
    exact R.inj j k hj hk (h1.trans h2.symm)
  · show decide (ml 2 k = ml 1 0) = decide (oM ml k = ml 96 0)
    rw [R.own k hk, R.h0]
theorem RelP.alk (R : RelP mi ml n nx c q s E B1 B2) (d : Int64) : anyP d (ml 77) (pop (ml 1 1)) = alikeC d (ml 1 1) := any_alike R.2.1 d
theorem RelP.lkk (R : RelP mi ml n nx c q s E B1 B2) {k : Nat} (hk : k < n) : lk (oM ml k) (ml 96 0) (ml 96 1) = anyP (ml 2 k ^^^ ml 1 0) (ml 77) (pop (ml 1 1)) := by
  rw [R.own k hk, R.h0, R.h1, alike_lk R.cut.1, R.alk]
theorem RelP.lo4 (R : RelP mi ml n nx c q s E B1 B2) : ct (lookC ml (pop (ml 1 1)) (-1)) n = ct (lookP ml false) n := by
  refine ct_cong (fun k hk => ?_)
  show (!decide (nI (ds (ml 2 k) (ml 1 0)) ≤ -1) && anyP (ml 2 k ^^^ ml 1 0) (ml 77) (pop (ml 1 1))) = (lk (oM ml k) (ml 96 0) (ml 96 1) && (!false || !decide (ds (oM ml k) (ml 96 0) < pop (ml 96 1))))
  rw [R.lkk hk, decide_eq_false (nle_m1 (ds_lt (ml 2 k) (ml 1 0)))]
  generalize anyP (ml 2 k ^^^ ml 1 0) (ml 77) (pop (ml 1 1)) = u
  cases u <;> rfl
theorem RelP.lo5 (R : RelP mi ml n nx c q s E B1 B2) : ct (lookC ml (pop (ml 1 1)) (nI (pop (ml 1 1) - 1))) n = ct (lookP ml true) n := by
  refine ct_cong (fun k hk => ?_)
  have hp := R.P1
  have hl := pop_le (ml 1 1)
  show (!decide (nI (ds (ml 2 k) (ml 1 0)) ≤ nI (pop (ml 1 1) - 1)) && anyP (ml 2 k ^^^ ml 1 0) (ml 77) (pop (ml 1 1))) = (lk (oM ml k) (ml 96 0) (ml 96 1) && (!true || !decide (ds (oM ml k) (ml 96 0) < pop (ml 96 1))))
  rw [R.lkk hk, R.own k hk, R.h0, R.h1, show decide (nI (ds (ml 2 k) (ml 1 0)) ≤ nI (pop (ml 1 1) - 1)) = decide (ds (ml 2 k) (ml 1 0) < pop (ml 1 1)) from decide_eq_decide.mpr (by rw [nIle_iff (ds_lt _ _) (by omega)]; omega)]
  generalize anyP (ml 2 k ^^^ ml 1 0) (ml 77) (pop (ml 1 1)) = u
  generalize decide (ds (ml 2 k) (ml 1 0) < pop (ml 1 1)) = w
  cases u <;> cases w <;> rfl
theorem RelP.nrs (R : RelP mi ml n nx c q s E B1 B2) (w : Int32) : nrsC ml n w = nrst ml n w := by
  unfold nrsC nrst
  rw [nrs_eq R.n40]
  refine lastB_cong (fun k hk => ?_)
  show decide (nI (ahd (fun q => ds (ml 2 q) (ml 1 0)) n k) = w) = decide (nI (ahd (fun q => ds (oM ml q) (ml 96 0)) n k) = w)
  rw [ahd_cong (f := fun q => ds (ml 2 q) (ml 1 0)) (g := fun q => ds (oM ml q) (ml 96 0)) (fun j hj => by show ds (ml 2 j) (ml 1 0) = ds (oM ml j) (ml 96 0); rw [R.own j hj, R.h0]) hk]
theorem RelP.t7 (R : RelP mi ml n nx c q s E B1 B2) : (if isMk n (nrsC ml n (nI 0)) then nI (ds (ml 2 (nrsC ml n (nI 0)).toNatClampNeg) (ml 1 0)) else -1) = (if nrst ml n 0 = -1 then -1 else nI (ds (oM ml (nrst ml n 0).toNatClampNeg) (ml 96 0))) := by
  have hl := R.n40
  rw [R.nrs, show nI 0 = (0 : Int32) from rfl]
  rcases lastB_spec (p := fun k => decide (nI (ahd (fun q => ds (oM ml q) (ml 96 0)) n k) = 0)) (n := n) with ⟨e, -⟩ | ⟨k, hk, -, e⟩
  · have e : nrst ml n 0 = -1 := e
    rw [e, if_pos rfl, isMk_m1, if_neg (by decide)]
  · have e : nrst ml n 0 = nI k := e
    rw [e, isMk_nI (by omega) (by omega), decide_eq_true hk, if_pos rfl, if_neg (nI_ne_m1 (by omega)), nI_clamp (by omega), R.own k hk, R.h0]
theorem RelP.cbb (R : RelP mi ml n nx c q s E B1 B2) {k : Nat} (hk : k < n) : cbC mi ml s k = cbM mi ml s k := by
  obtain ⟨r1, r2, r3, r4, r5, ⟨b1, b2, b3, b4⟩, r8⟩ := id R
  unfold cbC cbM cb
  exact alB_cong (fun i hi => by rw [R.own k hk, (b4 i hi).1, (b4 i hi).2])
theorem RelP.cbn (R : RelP mi ml n nx c q s E B1 B2) : pop (stB (cbC mi ml s) n) = ctD (cbM mi ml s) n n := by
  have hl := R.n40
  rw [pop_stB (by omega), ctD_all, ct_cong (fun k hk => R.cbb hk)]
theorem RelP.wrg (R : RelP mi ml n nx c q s E B1 B2) : fromB (fun e => !rgC mi ml n B1 B2 e) E 0 = fromB (wrongP mi ml n B1 B2) E 0 := by
  obtain ⟨r1, r2, r3, r4, r5, r6, b1, b2, b3, b4⟩ := id R
  have hl := R.n40
  refine fromB_cong (fun e _ he => ?_)
  obtain ⟨⟨-, -, c1⟩, ⟨-, -, c2⟩, c3, c4⟩ := b4 e (by omega)
  have ne : decide (nI (B1 e) = nI (B2 e)) = false := decide_eq_false (fun h => c3 ((nI_eq (by omega) (by omega)).mp h))
  show (!((isMk n (nI (B1 e)) && (isMk n (nI (B2 e)) && !decide (nI (B1 e) = nI (B2 e)))) && decide (nI (ds (ml 2 (B1 e)) (ml 2 (B2 e))) = mi 93 e))) = (!(isMk n (nI (B1 e)) && isMk n (nI (B2 e))) || !decide (nI (ds (oM ml (B1 e)) (oM ml (B2 e))) = mi 108 e))
  rw [isMk_nI (by omega) (by omega), isMk_nI (by omega) (by omega), ne]
  by_cases h1 : B1 e < n
  · by_cases h2 : B2 e < n
    · rw [R.own _ h1, R.own _ h2, c4, decide_eq_true h1, decide_eq_true h2]
      generalize decide (nI (ds (ml 2 (B1 e)) (ml 2 (B2 e))) = mi 93 e) = u
      cases u <;> rfl
    · rw [decide_eq_true h1, decide_eq_false h2]; rfl
  · rw [decide_eq_false h1]; rfl
theorem RelP.ask (R : RelP mi ml n nx c q s E B1 B2) : askS (fun k => mstC (fun q => ds (ml 2 q) (ml 2 k)) (bt (stB (cbC mi ml s) n)) n) (pop (stB (cbC mi ml s) n)) n = askS (fun z => mst (fun q => ds (oM ml q) (oM ml z)) (cbM mi ml s) n) (ctD (cbM mi ml s) n n) n := by
  have hl := R.n40
  rw [R.cbn]
  refine askS_cong (fun k hk => ?_)
  show mstC (fun q => ds (ml 2 q) (ml 2 k)) (bt (stB (cbC mi ml s) n)) n = mst (fun q => ds (oM ml q) (oM ml k)) (cbM mi ml s) n
  rw [mstC_eq]
  refine mst_cong (fun i hi => ⟨?_, ?_⟩)
  · show ds (ml 2 i) (ml 2 k) = ds (oM ml i) (oM ml k)
    rw [R.own i hi, R.own k hk]
  · rw [bt_stB (by omega) i (by omega), decide_eq_true hi, R.cbb hi]; rfl
theorem RelP.tq (R : RelP mi ml n nx c q s E B1 B2) : ∀ q, toldC mi ml n (pop (ml 1 1)) s E B1 B2 q = toldM mi ml n s E B1 B2 q
  | 0 => rfl
  | 1 => by show nI (pop (ml 1 1)) = nI (pop (ml 96 1)); rw [R.h1]
  | 2 => by show nI (pop (ml 1 0)) = nI (pop (ml 96 0)); rw [R.h0]
  | 3 => R.like
  | 4 => congrArg nI R.lo4
  | 5 => congrArg nI R.lo5
  | 6 => R.nrs (nI 0)
  | 7 => R.t7
  | 8 => by
    show nI (ct (deadC (ml 2) n) 64) = nI (ct (fun b => deadM (oM ml) n b) 64)
    rw [ct_cong (fun b hb => (dead_eq (M := ml 2) R.n40 hb).trans (deadM_cong (fun k hk => (R.own k hk).symm)))]
  | 9 => togR_cong (by decide) (fun x y hx hy => (pair_eq R.n40 hx hy).trans (pairM_cong (fun k hk => (R.own k hk).symm)))
  | 10 => rfl
  | 11 => congrArg nI R.cbn
  | 12 => by
    have hl := R.n40
    show fromB (bt (stB (cbC mi ml s) n)) 64 0 = lastD (cbM mi ml s) n n
    rw [first_stB (by omega), lastD_all]
    exact fromB_cong (fun k _ hk => R.cbb (by omega))
  | 13 => congrArg Prod.snd R.ask
  | 14 => rfl
  | 15 => R.wrg
  | _ + 16 => R.2.2.1.2.2.1.trans R.2.2.1.2.2.2.2.1.symm
theorem RelP.told (R : RelP mi ml n nx c q s E B1 B2) : toldC mi ml n (pop (ml 1 1)) s E B1 B2 = toldM mi ml n s E B1 B2 := funext R.tq
theorem RelP.mk (R : RelP mi ml n nx c q s E B1 B2) {k : Nat} (hk : k < n) : ∀ q, markC mi ml n (pop (ml 1 1)) k q = markM mi ml n k q
  | 0 => (R.knd k hk).symm
  | 1 => by show nI (pop (ml 2 k)) = nI (pop (oM ml k)); rw [R.own k hk]
  | 2 => by show nI (ds (ml 2 k) (ml 1 0)) = nI (ds (oM ml k) (ml 96 0)); rw [R.own k hk, R.h0]
  | 3 => by
    have hp := R.P1
    show nI (ct (othC ml k (pop (ml 1 1) - 1)) n) = nI (ct (fun j => (!decide (j = k) && !decide (pop (ml 96 1) ≤ ds (oM ml j) (oM ml k)))) n)
    refine congrArg nI (ct_cong (fun j hj => ?_))
    show (!decide (j = k) && !decide (pop (ml 1 1) - 1 < ds (ml 2 j) (ml 2 k))) = (!decide (j = k) && !decide (pop (ml 96 1) ≤ ds (oM ml j) (oM ml k)))
    rw [R.own k hk, R.own j hj, R.h1, show decide (pop (ml 1 1) - 1 < ds (ml 2 j) (ml 2 k)) = decide (pop (ml 1 1) ≤ ds (ml 2 j) (ml 2 k)) from decide_eq_decide.mpr (by omega)]
  | _ + 4 => by
    show bI (anyP (ml 2 k ^^^ ml 1 0) (ml 77) (pop (ml 1 1))) = bI (lk (oM ml k) (ml 96 0) (ml 96 1))
    rw [R.lkk hk]
theorem RelP.prt (R : RelP mi ml n nx c q s E B1 B2) {p : Nat} (hp : p < pop (ml 1 1)) : ∀ q, partC mi ml n p q = partM ml n p q
  | 0 => by
    show mi 76 p = nI (kth (ml 96 1) p)
    rw [R.h1]; exact R.2.1.2.1 p hp
  | 1 => by
    show nI (pop (ml 77 p)) = nI (enM (ml 96 1) p - kth (ml 96 1) p)
    rw [R.h1, pop_mask hp (R.2.1.2.2 p hp)]
  | _ + 2 => by
    show nI (ct (withC ml (ml 77 p)) n) = nI (ct (fun k => alB (fun t => decide (bt (oM ml k) (kth (ml 96 1) p + t) = bt (ml 96 0) (kth (ml 96 1) p + t))) (enM (ml 96 1) p - kth (ml 96 1) p)) n)
    rw [R.h1, R.h0]
    refine congrArg nI (ct_cong (fun k hk => ?_))
    show decide ((ml 2 k ^^^ ml 1 0) &&& ml 77 p = 0) = alB (fun t => decide (bt (oM ml k) (kth (ml 1 1) p + t) = bt (ml 1 0) (kth (ml 1 1) p + t))) (enM (ml 1 1) p - kth (ml 1 1) p)
    rw [R.own k hk]
    exact with_eq (R.2.1.2.2 p hp)
theorem RelP.nearE (R : RelP mi ml n nx c q s E B1 B2) (b : Nat) : stB (fun k => nearQ (mi 3 k) (ds (ml 2 k) (ml 1 0)) b (pop (ml 1 1))) n = stB (fun k => nearP (mi 97 k) (ds (oM ml k) (ml 96 0)) b (pop (ml 96 1))) n := by
  have hl := R.n40
  refine (stB_inj (by omega)).mpr (fun k hk => ?_)
  show nearQ (mi 3 k) (ds (ml 2 k) (ml 1 0)) b (pop (ml 1 1)) = nearP (mi 97 k) (ds (oM ml k) (ml 96 0)) b (pop (ml 96 1))
  rw [R.knd k hk, R.own k hk, R.h0, R.h1]
  exact near_eq (R.kn3 k hk)
theorem RelP.nrsE (R : RelP mi ml n nx c q s E B1 B2) (w : Int32) : nrsC ml n w = (if 0 ≤ w then lastB (fun k => decide (nI (ahd (fun q => ds (oM ml q) (ml 96 0)) n k) = w)) n else -1) := by
  have hl := R.n40
  by_cases h : 0 ≤ w
  · rw [if_pos h, R.nrs]; rfl
  · rw [if_neg h, R.nrs]
    unfold nrst
    rcases lastB_spec (p := fun k => decide (nI (ahd (fun q => ds (oM ml q) (ml 96 0)) n k) = w)) (n := n) with ⟨e, -⟩ | ⟨k, hk, hp, -⟩
    · exact e
    · simp only [decide_eq_true_eq] at hp
      have a1 : ahd (fun q => ds (oM ml q) (ml 96 0)) n k ≤ n := ct_le _ _
      have a2 : (0 : Int32) ≤ nI (ahd (fun q => ds (oM ml q) (ml 96 0)) n k) := nI_pos' (by omega)
      rw [hp] at a2
      exact absurd a2 h
theorem RelP.lab (R : RelP mi ml n nx c q s E B1 B2) {b : Nat} {G : Nat → Nat} (L : Lab (oM ml) n b G) : Lab (ml 2) n b G := L.cg R.own
theorem RelP.grs (R : RelP mi ml n nx c q s E B1 B2) {b : Nat} {G : Nat → Nat} (L : Lab (oM ml) n b G) : (jnS (clS (ml 2) n b) n n).2 = rootsN G n := roots_eq R.n40 (R.lab L)
theorem RelP.grp (R : RelP mi ml n nx c q s E B1 B2) {b x : Nat} {G : Nat → Nat} (L : Lab (oM ml) n b G) (hx : x < rootsN G n) : ∀ q, grpC ml (clS (ml 2) n b) n x q = grpM (oM ml) n G x q
  | 0 => by
    have hl := R.n40
    show nI (pop (setC (clS (ml 2) n b) n x)) = nI (ct (fun k => decide (G k = rootAt G n x)) n)
    rw [set_eq R.n40 (R.lab L) hx, pop_stB (by omega)]
  | 1 => by
    have hl := R.n40
    obtain ⟨h1, h2⟩ := root_ok hx
    show fromB (bt (setC (clS (ml 2) n b) n x)) 64 0 = nI (rootAt G n x)
    rw [set_eq R.n40 (R.lab L) hx, first_stB (by omega), first_root L h1 h2]
  | _ + 2 => by
    have hl := R.n40
    show nI (wdO (bt (setC (clS (ml 2) n b) n x)) (fun p q => ds (ml 2 p) (ml 2 q)) n n) = nI (mxO (fun a c => if (!decide (G a = rootAt G n x) || !decide (G c = rootAt G n x)) then 0 else ds (oM ml a) (oM ml c)) n)
    rw [set_eq R.n40 (R.lab L) hx, wide_eq R.n40]
    refine congrArg nI (mxO_cong (fun j hj k hk => ?_))
    show (if (!decide (G j = rootAt G n x) || !decide (G k = rootAt G n x)) then 0 else ds (ml 2 j) (ml 2 k)) = (if (!decide (G j = rootAt G n x) || !decide (G k = rootAt G n x)) then 0 else ds (oM ml j) (oM ml k))
    rw [R.own j hj, R.own k (by omega)]
theorem RelP.midE (R : RelP mi ml n nx c q s E B1 B2) {b x : Nat} {G : Nat → Nat} (L : Lab (oM ml) n b G) (hx : x < rootsN G n) : midC (ml 2) n (setC (clS (ml 2) n b) n x) = stN (midP (oM ml) n G (rootAt G n x)) 64 := by
  rw [mid_eq R.n40 (set_eq R.n40 (R.lab L) hx), stN_eq, stN_eq]
  refine (stB_inj (Nat.le_refl _)).mpr (fun k hk => ?_)
  show (!midP (ml 2) n G (rootAt G n x) k) = (!midP (oM ml) n G (rootAt G n x) k)
  unfold midP
  rw [ct_cong (p := fun j => decide (G j = rootAt G n x) && bt (ml 2 j) k) (q := fun j => decide (G j = rootAt G n x) && bt (oM ml j) k) (fun j hj => by show (decide (G j = rootAt G n x) && bt (ml 2 j) k) = (decide (G j = rootAt G n x) && bt (oM ml j) k); rw [R.own j hj])]
theorem RelP.fewE (R : RelP mi ml n nx c q s E B1 B2) {p w : Nat} (hp1 : 1 ≤ p) (hp8 : p ≤ 8) : (if decide (w = 0) then nI (fewC (fun h => n + 2 * prX (ml 2) n (evS p h p).1 n) 3).1 else (fewC (fun h => n + 2 * prX (ml 2) n (evS p h p).1 n) 3).2) = nI (if decide (w = 0) then (fewS (fun h => looksM (oM ml) n (cutS p h p).1 n) 3).1 else (fewS (fun h => looksM (oM ml) n (cutS p h p).1 n) 3).2) := by
  have e : ∀ h, h < 3 → (fun h => n + 2 * prX (ml 2) n (evS p h p).1 n) h = (fun h => looksM (oM ml) n (cutS p h p).1 n) h := fun h hh => by
    show n + 2 * prX (ml 2) n (evS p h p).1 n = looksM (oM ml) n (cutS p h p).1 n
    rw [looks_eq (ev_ok p (by omega) hp1 h hh).1, even_eq p (by omega) hp1 h hh]
    exact looksM_cong (fun k hk => (R.own k hk).symm) (Nat.le_refl n)
  rw [fewC_cong e, few_eq _ 2 (by decide)]
  by_cases h : w = 0
  · rw [if_pos (by simpa using h), if_pos (by simpa using h)]
  · rw [if_neg (by simpa using h), if_neg (by simpa using h)]
end RELANS
end
section
/-! class and reference: deeds keep the relation -/
theorem Sto.mk1 {m : MI} {z : ML} {n : Nat} (h40 : n ≤ 40) (hc : m 1 2 = nI n) (hl : z 96 2 = lN n) (h0 : z 96 0 = z 1 0) (h1 : z 96 1 = z 1 1) (hM : ∀ k, k < n → z 96 (3 + k) = z 2 k) (hK : ∀ k, k < n → m 97 k = m 3 k) (hx : bt (z 1 1) 0 = true ∧ pop (z 1 1) ≤ 8) (hu : ∀ j k, j < n → k < n → z 2 j = z 2 k → j = k) (hk : ∀ k, k < n → m 3 k = nI 0 ∨ m 3 k = nI 1 ∨ m 3 k = nI 2) : Sto m z 1 96 97 0 0 n :=
  ⟨h40, hc, hl, h0, h1, fun k hk => by rw [show 0 + 3 + k = 3 + k by omega]; exact hM k hk, fun k hk => by rw [Nat.zero_add]; exact hK k hk, hx, hu, hk⟩
theorem fromB_none {p : Nat → Bool} {n : Nat} (hn : n < 2 ^ 31) (h : fromB p n 0 = -1) : ∀ k, k < n → p k = false := by
  rcases fromB_spec (p := p) (d := n) (i := 0) with ⟨-, q⟩ | ⟨k, -, h2, -, -, e⟩
  · exact fun k hk => q k (Nat.zero_le _) (by omega)
  · rw [e] at h; exact absurd h (nI_ne_m1 (by omega))
section DEEDS
variable {mi : MI} {ml : ML} {n nx c q s E : Nat} {B1 B2 : Nat → Nat}
theorem RelP.nx20 (R : RelP mi ml n nx c q s E B1 B2) : nx < 20 := R.2.2.1.2.1
theorem RelP.hnx (R : RelP mi ml n nx c q s E B1 B2) : mi 4 1 = nI nx := R.2.2.1.1
theorem RelP.hc (R : RelP mi ml n nx c q s E B1 B2) : mi 4 2 = nI c := R.2.2.1.2.2.1
theorem RelP.c20 (R : RelP mi ml n nx c q s E B1 B2) : c ≤ 20 := R.2.2.1.2.2.2.1
theorem RelP.hcm (R : RelP mi ml n nx c q s E B1 B2) : mi 95 2 = nI c := R.2.2.1.2.2.2.2.1
theorem deed1 {m2 m4 : MI} {z2 z4 : ML} (R : RelP mi ml n nx c q s E B1 B2) (hm2 : ∀ t, t ≠ 1 → t ≠ 3 → m2 t = remI mi nx c n t) (hz2 : ∀ t, t ≠ 1 → t ≠ 2 → z2 t = remL ml nx n t) (hm4 : ∀ t, t ≠ 97 → m4 t = noteI m2 c t) (hz4 : ∀ t, t ≠ 96 → z4 t = noteL z2 c t) (h11 : z2 1 1 = ml 1 1) {n' : Nat} (hN : Sto m4 z4 1 96 97 0 0 n') : RelP m4 z4 n' (nxP nx) (cP c) q s E B1 B2 := by
  have hx := R.nx20
  have M : ∀ t, t = 75 ∨ t = 76 ∨ t = 94 → m4 t = mi t := fun t ht => by rw [hm4 t (by omega), noteI_n _ _ (by omega) (by omega), hm2 t (by omega) (by omega), remI_n _ (by omega) (by omega) (by omega)]
  have Z77 : z4 77 = ml 77 := by rw [hz4 77 (by decide), noteL_n _ _ (by decide), hz2 77 (by decide) (by decide), remL_n _ (by omega) (by omega)]
  have Z11 : z4 1 1 = ml 1 1 := by rw [hz4 1 (by decide), noteL_n _ _ (by decide), h11]
  refine deed R (fun t h1 h3 _ _ _ => hm2 t h1 h3) (fun t h1 h2 _ => hz2 t h1 h2) (fun t _ h => hm4 t h) (fun k _ => by rw [hm4 95 (by decide)]) (fun t h => hz4 t h) hN ?_ ?_
  · rw [Z11]; exact R.2.1.cg (M 75 (by decide)) (M 76 (by decide)) Z77
  · obtain ⟨s1, s2, s3⟩ := R.2.2.2.2.1
    refine ⟨s1, by rw [M 94 (by decide)]; exact s2, ?_⟩
    rw [hm4 95 (by decide), noteI_95 _ _ (by decide), hm2 95 (by decide) (by decide), remI_n _ (by omega) (by omega) (by decide)]; exact s3
theorem RelP.dHand (R : RelP mi ml n nx c q s E B1 B2) (X : Int64) : RelP (noteI (remI mi nx c n) c) (u2 (noteL (u2 (remL ml nx n) 1 0 X) c) 96 0 X) n (nxP nx) (cP c) q s E B1 B2 := by
  have hx := R.nx20
  have hE : ∀ t, t = 1 ∨ t = 3 ∨ t = 97 → noteI (remI mi nx c n) c t = mi t := fun t ht => by rw [noteI_n _ _ (by omega) (by omega), remI_n _ (by omega) (by omega) (by omega)]
  have f1 : u2 (noteL (u2 (remL ml nx n) 1 0 X) c) 96 0 X 1 = uf (ml 1) 0 X := by rw [u2_n _ _ _ (by decide), noteL_n _ _ (by decide), u2_s, remL_n _ (by omega) (by omega)]
  have f2 : u2 (noteL (u2 (remL ml nx n) 1 0 X) c) 96 0 X 2 = ml 2 := by rw [u2_n _ _ _ (by decide), noteL_n _ _ (by decide), u2_n _ _ _ (by decide), remL_n _ (by omega) (by omega)]
  have f6 : u2 (noteL (u2 (remL ml nx n) 1 0 X) c) 96 0 X 96 = uf (ml 96) 0 X := by rw [u2_s, noteL_n _ _ (by decide), u2_n _ _ _ (by decide), remL_n _ (by omega) (by omega)]
  refine deed1 R (m2 := remI mi nx c n) (z2 := u2 (remL ml nx n) 1 0 X) (fun t _ _ => rfl) (fun t h _ => u2_n _ _ _ h) (fun t _ => rfl) (fun t h => u2_n _ _ _ h) ?_ ?_
  · rw [u2_s, uf_n _ _ (by decide), remL_n _ (by omega) (by omega)]
  · refine Sto.mk1 R.n40 ?_ ?_ ?_ ?_ (fun k hk => ?_) (fun k hk => ?_) ?_ ?_ ?_
    · rw [hE 1 (by decide)]; exact R.hn
    · rw [f6, uf_n _ _ (by decide)]; exact R.hm
    · rw [f6, f1, uf_s, uf_s]
    · rw [f6, f1, uf_n _ _ (by decide), uf_n _ _ (by decide)]; exact R.h1
    · rw [f6, f2, uf_n _ _ (by omega)]; exact R.own k hk
    · rw [hE 97 (by decide), hE 3 (by decide)]; exact R.knd k hk
    · rw [f1, uf_n _ _ (by decide)]; exact R.cut
    · rw [f2]; exact R.inj
    · rw [hE 3 (by decide)]; exact R.kn3
/-- one mark more: what both sides hold then -/
theorem sto_add {m : MI} {z : ML} {k : Nat} {H : Int64} (R : RelP mi ml n nx c q s E B1 B2) (hn : n < 40) (hk : k < 3) (hl : ∀ j, j < n → ml 2 j ≠ H)
    (e1 : m 1 2 = nI (n + 1)) (e3 : m 3 = uf (mi 3) n (nI k)) (e97 : m 97 = uf (mi 97) n (nI k)) (f0 : z 1 0 = H) (f1 : z 1 1 = ml 1 1) (f2 : z 2 = uf (ml 2) n H) (g0 : z 96 0 = H) (g1 : z 96 1 = ml 96 1) (g2 : z 96 2 = lN (n + 1)) (g3 : ∀ j, j < n → z 96 (3 + j) = ml 96 (3 + j)) (g4 : z 96 (3 + n) = H) : Sto m z 1 96 97 0 0 (n + 1) := by
  refine Sto.mk1 (by omega) e1 g2 (g0.trans f0.symm) ?_ (fun j hj => ?_) (fun j hj => ?_) ?_ (fun i j hi hj e => ?_) (fun j hj => ?_)
  · rw [g1, f1]; exact R.h1
  · rcases Nat.lt_or_ge j n with h | h
    · rw [g3 j h, f2, uf_n _ _ (by omega)]; exact R.own j h
    · rw [show j = n by omega, g4, f2, uf_s]
  · rcases Nat.lt_or_ge j n with h | h
    · rw [e97, e3, uf_n _ _ (by omega), uf_n _ _ (by omega)]; exact R.knd j h
    · rw [show j = n by omega, e97, e3, uf_s, uf_s]
  · rw [f1]; exact R.cut
  · rw [f2] at e
    rcases Nat.lt_or_ge i n with h | h <;> rcases Nat.lt_or_ge j n with h2 | h2
    · rw [uf_n _ _ (by omega), uf_n _ _ (by omega)] at e; exact R.inj i j h h2 e
    · rw [uf_n _ _ (by omega), show j = n by omega, uf_s] at e; exact absurd e (hl i h)
    · rw [uf_n _ _ (show j ≠ n by omega), show i = n by omega, uf_s] at e; exact absurd e.symm (hl j h2)
    · omega
  · rw [e3]
    rcases Nat.lt_or_ge j n with h | h
    · rw [uf_n _ _ (by omega)]; exact R.kn3 j h
    · rw [show j = n by omega, uf_s]
      rcases (show k = 0 ∨ k = 1 ∨ k = 2 by omega) with rfl | rfl | rfl
      · exact Or.inl rfl
      · exact Or.inr (Or.inl rfl)
      · exact Or.inr (Or.inr rfl)
theorem RelP.dPut (R : RelP mi ml n nx c q s E B1 B2) (hn : n < 40) {k : Nat} (hk : k < 3) (hl : fromB (fun j => decide (ml 2 j = ml 1 0)) n 0 = -1) {H : Int64} (hH : H = ml 1 0) : RelP (u2 (noteI (u2 (u2 (remI mi nx c n) 3 n (nI k)) 1 2 (nI (n + 1))) c) 97 n (nI k)) (u2 (u2 (noteL (u2 (remL ml nx n) 2 n (ml 1 0)) c) 96 (3 + n) H) 96 2 (lN (n + 1))) (n + 1) (nxP nx) (cP c) q s E B1 B2 := by
  subst hH
  have hx := R.nx20
  have hl' : ∀ j, j < n → ml 2 j ≠ ml 1 0 := fun j hj => of_decide_eq_false (fromB_none (p := fun j => decide (ml 2 j = ml 1 0)) (by omega) hl j hj)
  refine deed1 R (m2 := u2 (u2 (remI mi nx c n) 3 n (nI k)) 1 2 (nI (n + 1))) (z2 := u2 (remL ml nx n) 2 n (ml 1 0)) (fun t h1 h3 => ?_) (fun t _ h => u2_n _ _ _ h) (fun t h => u2_n _ _ _ h) (fun t h => ?_) ?_ (sto_add R hn hk hl' ?_ ?_ ?_ ?_ ?_ ?_ ?_ ?_ ?_ (fun j hj => ?_) ?_)
  · rw [u2_n _ _ _ h1, u2_n _ _ _ h3]
  · rw [u2_n _ _ _ h, u2_n _ _ _ h]
  · rw [u2_n _ _ _ (by decide), remL_n _ (by omega) (by omega)]
  · rw [u2_n _ _ _ (by decide), noteI_n _ _ (by decide) (by decide), u2_s, uf_s]
  · rw [u2_n _ _ _ (by decide), noteI_n _ _ (by decide) (by decide), u2_n _ _ _ (by decide), u2_s, remI_n _ (by omega) (by omega) (by decide)]
  · rw [u2_s, noteI_n _ _ (by decide) (by decide), u2_n _ _ _ (by decide), u2_n _ _ _ (by decide), remI_n _ (by omega) (by omega) (by decide)]
  · rw [u2_n _ _ _ (by decide), u2_n _ _ _ (by decide), noteL_n _ _ (by decide), u2_n _ _ _ (by decide), remL_n _ (by omega) (by omega)]
  · rw [u2_n _ _ _ (by decide), u2_n _ _ _ (by decide), noteL_n _ _ (by decide), u2_n _ _ _ (by decide), remL_n _ (by omega) (by omega)]
  · rw [u2_n _ _ _ (by decide), u2_n _ _ _ (by decide), noteL_n _ _ (by decide), u2_s, remL_n _ (by omega) (by omega)]
  · rw [u2_s, uf_n _ _ (by decide), u2_s, uf_n _ _ (by omega), noteL_n _ _ (by decide), u2_n _ _ _ (by decide), remL_n _ (by omega) (by omega)]; exact R.h0
  · rw [u2_s, uf_n _ _ (by decide), u2_s, uf_n _ _ (by omega), noteL_n _ _ (by decide), u2_n _ _ _ (by decide), remL_n _ (by omega) (by omega)]
  · rw [u2_s, uf_s]
  · rw [u2_s, uf_n _ _ (by omega), u2_s, uf_n _ _ (by omega), noteL_n _ _ (by decide), u2_n _ _ _ (by decide), remL_n _ (by omega) (by omega)]
  · rw [u2_s, uf_n _ _ (by omega), u2_s, uf_s]
theorem RelP.dCut (R : RelP mi ml n nx c q s E B1 B2) {x : Int64} (hx0 : bt x 0 = true) (hx8 : pop x ≤ 8) {m2 : MI} {z2 : ML} (hP : PtOK m2 z2 75 x) (hm : ∀ t, t ≠ 75 → t ≠ 76 → m2 t = remI mi nx c n t) (hz : ∀ t, t ≠ 77 → z2 t = u2 (remL ml nx n) 1 1 x t) : RelP (noteI m2 c) (u2 (noteL z2 c) 96 1 x) n (nxP nx) (cP c) q s E B1 B2 := by
  have hx := R.nx20
  have hE : ∀ t, t = 1 ∨ t = 3 ∨ t = 94 ∨ t = 97 → noteI m2 c t = mi t := fun t ht => by rw [noteI_n _ _ (by omega) (by omega), hm t (by omega) (by omega), remI_n _ (by omega) (by omega) (by omega)]
  have f1 : u2 (noteL z2 c) 96 1 x 1 = uf (ml 1) 1 x := by rw [u2_n _ _ _ (by decide), noteL_n _ _ (by decide), hz 1 (by decide), u2_s, remL_n _ (by omega) (by omega)]
  have f2 : u2 (noteL z2 c) 96 1 x 2 = ml 2 := by rw [u2_n _ _ _ (by decide), noteL_n _ _ (by decide), hz 2 (by decide), u2_n _ _ _ (by decide), remL_n _ (by omega) (by omega)]
  have f6 : u2 (noteL z2 c) 96 1 x 96 = uf (ml 96) 1 x := by rw [u2_s, noteL_n _ _ (by decide), hz 96 (by decide), u2_n _ _ _ (by decide), remL_n _ (by omega) (by omega)]
  refine deed R (m2 := m2) (z2 := z2) (fun t _ _ h1 h2 _ => hm t h1 h2) (fun t h1 _ h2 => by rw [hz t h2, u2_n _ _ _ h1]) (fun t _ _ => rfl) (fun k _ => rfl) (fun t h => u2_n _ _ _ h) ?_ ?_ ?_
  · refine Sto.mk1 R.n40 ?_ ?_ ?_ ?_ (fun k hk => ?_) (fun k hk => ?_) ?_ ?_ ?_
    · rw [hE 1 (by decide)]; exact R.hn
    · rw [f6, uf_n _ _ (by decide)]; exact R.hm
    · rw [f6, f1, uf_n _ _ (by decide), uf_n _ _ (by decide)]; exact R.h0
    · rw [f6, f1, uf_s, uf_s]
    · rw [f6, f2, uf_n _ _ (by omega)]; exact R.own k hk
    · rw [hE 97 (by decide), hE 3 (by decide)]; exact R.knd k hk
    · rw [f1, uf_s]; exact ⟨hx0, hx8⟩
    · rw [f2]; exact R.inj
    · rw [hE 3 (by decide)]; exact R.kn3
  · rw [f1, uf_s]
    exact hP.cg (noteI_n _ _ (by decide) (by decide)) (noteI_n _ _ (by decide) (by decide)) (by rw [u2_n _ _ _ (by decide), noteL_n _ _ (by decide)])
  · obtain ⟨s1, s2, s3⟩ := R.2.2.2.2.1
    refine ⟨s1, by rw [hE 94 (by decide)]; exact s2, ?_⟩
    rw [noteI_95 _ _ (by decide), hm 95 (by decide) (by decide), remI_n _ (by omega) (by omega) (by decide)]; exact s3
theorem RelP.dTake (R : RelP mi ml n nx c q s E B1 B2) {k : Nat} (hk : k < n) : RelP (u2 (shL (noteI (u2 (shL (remI mi nx c n) 3 k 1 (n - (k + 1))) 1 2 (nI (n - 1))) c) 97 k 1 (n - 1 - k)) 97 (n - 1) (nI 0)) (u2 (u2 (shL (noteL (shL (remL ml nx n) 2 k 1 (n - (k + 1))) c) 96 (3 + k) 1 (n - 1 - k)) 96 (3 + (n - 1)) 0) 96 2 (lN (n - 1))) (n - 1) (nxP nx) (cP c) q s E B1 B2 := by
  have hx := R.nx20
  have h40 := R.n40
  generalize hm2 : u2 (shL (remI mi nx c n) 3 k 1 (n - (k + 1))) 1 2 (nI (n - 1)) = m2
  generalize hz2 : shL (remL ml nx n) 2 k 1 (n - (k + 1)) = z2
  generalize hm4 : u2 (shL (noteI m2 c) 97 k 1 (n - 1 - k)) 97 (n - 1) (nI 0) = m4
  generalize hz4 : u2 (u2 (shL (noteL z2 c) 96 (3 + k) 1 (n - 1 - k)) 96 (3 + (n - 1)) 0) 96 2 (lN (n - 1)) = z4
  have a2 : ∀ t, t ≠ 1 → t ≠ 3 → m2 t = remI mi nx c n t := fun t h1 h3 => by rw [← hm2, u2_n _ _ _ h1, shL_n _ h3]
  have b2 : ∀ t, t ≠ 2 → z2 t = remL ml nx n t := fun t h => by rw [← hz2, shL_n _ h]
  have a4 : ∀ t, t ≠ 97 → m4 t = noteI m2 c t := fun t h => by rw [← hm4, u2_n _ _ _ h, shL_n _ h]
  have b4 : ∀ t, t ≠ 96 → z4 t = noteL z2 c t := fun t h => by rw [← hz4, u2_n _ _ _ h, u2_n _ _ _ h, shL_n _ h]
  have d1 : m4 1 2 = nI (n - 1) := by rw [a4 1 (by decide), noteI_n _ _ (by decide) (by decide), ← hm2, u2_s, uf_s]
  have d3 : ∀ j, j < n - 1 → m4 3 j = mi 3 (if k ≤ j then j + 1 else j) := fun j hj => by
    rw [a4 3 (by decide), noteI_n _ _ (by decide) (by decide), ← hm2, u2_n _ _ _ (by decide)]
    by_cases h : k ≤ j
    · rw [if_pos h, shL_in _ h (by omega), remI_n _ (by omega) (by omega) (by decide)]
    · rw [if_neg h, shL_out _ (Or.inl (by omega)), remI_n _ (by omega) (by omega) (by decide)]
  have n97 : noteI m2 c 97 = mi 97 := by rw [noteI_n _ _ (by decide) (by decide), a2 97 (by decide) (by decide), remI_n _ (by omega) (by omega) (by decide)]
  have n96 : noteL z2 c 96 = ml 96 := by rw [noteL_n _ _ (by decide), b2 96 (by decide), remL_n _ (by omega) (by omega)]
  have d97 : ∀ j, j < n - 1 → m4 97 j = mi 97 (if k ≤ j then j + 1 else j) := fun j hj => by
    rw [← hm4, u2_s, uf_n _ _ (by omega)]
    by_cases h : k ≤ j
    · rw [if_pos h, shL_in _ h (by omega), n97]
    · rw [if_neg h, shL_out _ (Or.inl (by omega)), n97]
  have e1 : z4 1 = ml 1 := by rw [b4 1 (by decide), noteL_n _ _ (by decide), b2 1 (by decide), remL_n _ (by omega) (by omega)]
  have e2 : ∀ j, j < n - 1 → z4 2 j = ml 2 (if k ≤ j then j + 1 else j) := fun j hj => by
    rw [b4 2 (by decide), noteL_n _ _ (by decide), ← hz2]
    by_cases h : k ≤ j
    · rw [if_pos h, shL_in _ h (by omega), remL_n _ (by omega) (by omega)]
    · rw [if_neg h, shL_out _ (Or.inl (by omega)), remL_n _ (by omega) (by omega)]
  have e96 : ∀ j, j < n - 1 → z4 96 (3 + j) = ml 96 (3 + (if k ≤ j then j + 1 else j)) := fun j hj => by
    rw [← hz4, u2_s, uf_n _ _ (by omega), u2_s, uf_n _ _ (by omega)]
    by_cases h : k ≤ j
    · rw [if_pos h, shL_in _ (by omega) (by omega), n96, Nat.add_assoc]
    · rw [if_neg h, shL_out _ (Or.inl (by omega)), n96]
  have e0 : ∀ j, j < 2 → z4 96 j = ml 96 j := fun j hj => by
    rw [← hz4, u2_s, uf_n _ _ (by omega), u2_s, uf_n _ _ (by omega), shL_out _ (Or.inl (by omega)), n96]
  have sf : ∀ j, j < n - 1 → (if k ≤ j then j + 1 else j) < n := fun j hj => by split <;> omega
  refine deed1 R a2 (fun t _ h => b2 t h) a4 b4 (by rw [b2 1 (by decide), remL_n _ (by omega) (by omega)]) (Sto.mk1 (by omega) d1 ?_ ?_ ?_ (fun j hj => ?_) (fun j hj => ?_) ?_ (fun i j hi hj e => ?_) (fun j hj => ?_))
  · rw [← hz4, u2_s, uf_s]
  · rw [e0 0 (by decide), e1]; exact R.h0
  · rw [e0 1 (by decide), e1]; exact R.h1
  · rw [e96 j hj, e2 j hj]; exact R.own _ (sf j hj)
  · rw [d97 j hj, d3 j hj]; exact R.knd _ (sf j hj)
  · rw [e1]; exact R.cut
  · rw [e2 i hi, e2 j hj] at e
    have e' := R.inj _ _ (sf i hi) (sf j hj) e
    by_cases h : k ≤ i <;> by_cases h2 : k ≤ j <;> simp only [h, h2, if_true, if_false] at e' <;> omega
  · rw [d3 j hj]; exact R.kn3 _ (sf j hj)
theorem RelP.dKind (R : RelP mi ml n nx c q s E B1 B2) {k v : Nat} (hk : k < n) (hv : v < 3) : RelP (u2 (noteI (u2 (remI mi nx c n) 3 k (nI v)) c) 97 k (nI v)) (noteL (remL ml nx n) c) n (nxP nx) (cP c) q s E B1 B2 := by
  have hx := R.nx20
  have d1 : u2 (noteI (u2 (remI mi nx c n) 3 k (nI v)) c) 97 k (nI v) 1 = mi 1 := by rw [u2_n _ _ _ (by decide), noteI_n _ _ (by decide) (by decide), u2_n _ _ _ (by decide), remI_n _ (by omega) (by omega) (by decide)]
  have d3 : u2 (noteI (u2 (remI mi nx c n) 3 k (nI v)) c) 97 k (nI v) 3 = uf (mi 3) k (nI v) := by rw [u2_n _ _ _ (by decide), noteI_n _ _ (by decide) (by decide), u2_s, remI_n _ (by omega) (by omega) (by decide)]
  have d97 : u2 (noteI (u2 (remI mi nx c n) 3 k (nI v)) c) 97 k (nI v) 97 = uf (mi 97) k (nI v) := by rw [u2_s, noteI_n _ _ (by decide) (by decide), u2_n _ _ _ (by decide), remI_n _ (by omega) (by omega) (by decide)]
  have hE : ∀ t, t = 1 ∨ t = 2 ∨ t = 96 → noteL (remL ml nx n) c t = ml t := fun t ht => by rw [noteL_n _ _ (by omega), remL_n _ (by omega) (by omega)]
  refine deed1 R (m2 := u2 (remI mi nx c n) 3 k (nI v)) (z2 := remL ml nx n) (fun t _ h => u2_n _ _ _ h) (fun t _ _ => rfl) (fun t h => u2_n _ _ _ h) (fun t _ => rfl) (by rw [remL_n _ (by omega) (by omega)]) (Sto.mk1 R.n40 ?_ ?_ ?_ ?_ (fun j hj => ?_) (fun j hj => ?_) ?_ ?_ (fun j hj => ?_))
  · rw [d1]; exact R.hn
  · rw [hE 96 (by decide)]; exact R.hm
  · rw [hE 96 (by decide), hE 1 (by decide)]; exact R.h0
  · rw [hE 96 (by decide), hE 1 (by decide)]; exact R.h1
  · rw [hE 96 (by decide), hE 2 (by decide)]; exact R.own j hj
  · rw [d97, d3]
    by_cases h : j = k
    · rw [h, uf_s, uf_s]
    · rw [uf_n _ _ h, uf_n _ _ h]; exact R.knd j hj
  · rw [hE 1 (by decide)]; exact R.cut
  · rw [hE 2 (by decide)]; exact R.inj
  · rw [d3]
    by_cases h : j = k
    · rw [h, uf_s]
      rcases (show v = 0 ∨ v = 1 ∨ v = 2 by omega) with rfl | rfl | rfl
      · exact Or.inl rfl
      · exact Or.inr (Or.inl rfl)
      · exact Or.inr (Or.inr rfl)
    · rw [uf_n _ _ h]; exact R.kn3 j hj
/-- cells that no deed changes stand; what is seen, the book, the seed anew -/
theorem RelP.core {m : MI} {z : ML} (R : RelP mi ml n nx c q s E B1 B2) (hm : ∀ t, t < 78 ∨ (96 ≤ t ∧ t < 104) → m t = mi t) (h2 : m 95 2 = mi 95 2) (hz : ∀ t, t < 78 ∨ (96 ≤ t ∧ t < 104) → z t = ml t) {q' s' E' : Nat} {C1 C2 : Nat → Nat} (hS : SeedR m q') (hN : SeenR m z s') (hB : BookR m E' C1 C2) : RelP m z n nx c q' s' E' C1 C2 := by
  obtain ⟨r1, r2, r3, ⟨r4, r5⟩, r6, r7, r8⟩ := R
  refine ⟨r1.cg (hm _ (by decide)) (hm _ (by decide)) (hm _ (by decide)) (hz _ (by decide)) (hz _ (by decide)) (hz _ (by decide)), ?_, r3.cg (hm _ (by decide)) h2 (hm _ (by decide)) (hz _ (by decide)) (fun t _ h2 => ⟨hm _ (by omega), hz _ (by omega)⟩), ⟨r4.cg (hm _ (by decide)) (hm _ (by decide)) (hm _ (by decide)) (hm _ (by decide)) (hm _ (by decide)) (hm _ (by decide)) (hz _ (by decide)) (hz _ (by decide)) (hz _ (by decide)), r5.cg (hm _ (by decide)) (hm _ (by decide)) (hm _ (by decide)) (hm _ (by decide)) (hm _ (by decide)) (hm _ (by decide)) (hz _ (by decide)) (hz _ (by decide)) (hz _ (by decide))⟩, hS, hN, hB⟩
  rw [hz 1 (by decide)]; exact r2.cg (hm _ (by decide)) (hm _ (by decide)) (hz _ (by decide))
theorem RelP.dSee (R : RelP mi ml n nx c q s E B1 B2) (hs : s < 6) (v : Nat) {H : Int64} (hH : H = ml 1 0) : RelP (u2 (u2 (u2 (u2 mi 88 s (nI v)) 86 3 (nI (s + 1))) 105 s (nI v)) 95 10 (nI (s + 1))) (u2 (u2 ml 87 s (ml 1 0)) 104 s H) n nx c q (s + 1) E B1 B2 := by
  subst hH
  have M : ∀ t, t ≠ 86 → t ≠ 88 → t ≠ 95 → t ≠ 105 → u2 (u2 (u2 (u2 mi 88 s (nI v)) 86 3 (nI (s + 1))) 105 s (nI v)) 95 10 (nI (s + 1)) t = mi t := fun t h1 h2 h3 h4 => by rw [u2_n _ _ _ h3, u2_n _ _ _ h4, u2_n _ _ _ h1, u2_n _ _ _ h2]
  have M95 : ∀ k, k ≠ 10 → u2 (u2 (u2 (u2 mi 88 s (nI v)) 86 3 (nI (s + 1))) 105 s (nI v)) 95 10 (nI (s + 1)) 95 k = mi 95 k := fun k h => by rw [u2_s, uf_n _ _ h, u2_n _ _ _ (by decide), u2_n _ _ _ (by decide), u2_n _ _ _ (by decide)]
  have Z : ∀ t, t ≠ 87 → t ≠ 104 → u2 (u2 ml 87 s (ml 1 0)) 104 s (ml 1 0) t = ml t := fun t h1 h2 => by rw [u2_n _ _ _ h2, u2_n _ _ _ h1]
  refine R.core (fun t h => M t (by omega) (by omega) (by omega) (by omega)) (M95 2 (by decide)) (fun t h => Z t (by omega) (by omega)) ?_ ?_ ?_
  · obtain ⟨s1, s2, s3⟩ := R.2.2.2.2.1
    exact ⟨s1, by rw [M 94 (by decide) (by decide) (by decide) (by decide)]; exact s2, by rw [M95 9 (by decide)]; exact s3⟩
  · obtain ⟨s1, s2, s3, s4⟩ := R.2.2.2.2.2.1
    refine ⟨by omega, ?_, ?_, fun i hi => ?_⟩
    · rw [u2_n _ _ _ (by decide), u2_n _ _ _ (by decide), u2_s, uf_s]
    · rw [u2_s, uf_s]
    · have a1 : u2 (u2 ml 87 s (ml 1 0)) 104 s (ml 1 0) 104 = uf (ml 104) s (ml 1 0) := by rw [u2_s, u2_n _ _ _ (by decide)]
      have a2 : u2 (u2 ml 87 s (ml 1 0)) 104 s (ml 1 0) 87 = uf (ml 87) s (ml 1 0) := by rw [u2_n _ _ _ (by decide), u2_s]
      have a3 : u2 (u2 (u2 (u2 mi 88 s (nI v)) 86 3 (nI (s + 1))) 105 s (nI v)) 95 10 (nI (s + 1)) 105 = uf (mi 105) s (nI v) := by rw [u2_n _ _ _ (by decide), u2_s, u2_n _ _ _ (by decide), u2_n _ _ _ (by decide)]
      have a4 : u2 (u2 (u2 (u2 mi 88 s (nI v)) 86 3 (nI (s + 1))) 105 s (nI v)) 95 10 (nI (s + 1)) 88 = uf (mi 88) s (nI v) := by rw [u2_n _ _ _ (by decide), u2_n _ _ _ (by decide), u2_n _ _ _ (by decide), u2_s]
      rw [a1, a2, a3, a4]
      by_cases h : i = s
      · rw [h, uf_s, uf_s, uf_s, uf_s]; exact ⟨rfl, rfl⟩
      · rw [uf_n _ _ h, uf_n _ _ h, uf_n _ _ h, uf_n _ _ h]; exact s4 i (by omega)
  · exact R.2.2.2.2.2.2.cg (M _ (by decide) (by decide) (by decide) (by decide)) (M95 _ (by decide)) (M _ (by decide) (by decide) (by decide) (by decide)) (M _ (by decide) (by decide) (by decide) (by decide)) (M _ (by decide) (by decide) (by decide) (by decide)) (M _ (by decide) (by decide) (by decide) (by decide)) (M _ (by decide) (by decide) (by decide) (by decide)) (M _ (by decide) (by decide) (by decide) (by decide))
theorem RelP.dWrite (R : RelP mi ml n nx c q s E B1 B2) (hE : E < 20) {j k v : Nat} (hj : j < n) (hk : k < n) (hjk : j ≠ k) : RelP (u2 (u2 (u2 (u2 (u2 (u2 (u2 (u2 mi 91 E (nI j)) 92 E (nI k)) 93 E (nI v)) 90 3 (nI (E + 1))) 106 E (nI j)) 107 E (nI k)) 108 E (nI v)) 95 13 (nI (E + 1))) ml n nx c q s (E + 1) (uf B1 E j) (uf B2 E k) := by
  have h40 := R.n40
  generalize hm : u2 (u2 (u2 (u2 (u2 (u2 (u2 (u2 mi 91 E (nI j)) 92 E (nI k)) 93 E (nI v)) 90 3 (nI (E + 1))) 106 E (nI j)) 107 E (nI k)) 108 E (nI v)) 95 13 (nI (E + 1)) = m
  have M : ∀ t, t < 90 ∨ t = 94 ∨ (96 ≤ t ∧ t < 106) → m t = mi t := fun t h => by rw [← hm, u2_n _ _ _ (by omega), u2_n _ _ _ (by omega), u2_n _ _ _ (by omega), u2_n _ _ _ (by omega), u2_n _ _ _ (by omega), u2_n _ _ _ (by omega), u2_n _ _ _ (by omega), u2_n _ _ _ (by omega)]
  have M95 : ∀ k, k ≠ 13 → m 95 k = mi 95 k := fun k h => by rw [← hm, u2_s, uf_n _ _ h, u2_n _ _ _ (by decide), u2_n _ _ _ (by decide), u2_n _ _ _ (by decide), u2_n _ _ _ (by decide), u2_n _ _ _ (by decide), u2_n _ _ _ (by decide), u2_n _ _ _ (by decide)]
  refine R.core (fun t h => M t (by omega)) (M95 2 (by decide)) (fun t h => rfl) ?_ ?_ ?_
  · obtain ⟨s1, s2, s3⟩ := R.2.2.2.2.1
    exact ⟨s1, by rw [M 94 (by decide)]; exact s2, by rw [M95 9 (by decide)]; exact s3⟩
  · exact R.2.2.2.2.2.1.cg (M _ (by decide)) (M95 _ (by decide)) rfl rfl (M _ (by decide)) (M _ (by decide))
  · obtain ⟨b1, b2, b3, b4⟩ := R.2.2.2.2.2.2
    have c91 : m 91 = uf (mi 91) E (nI j) := by rw [← hm, u2_n _ _ _ (by decide), u2_n _ _ _ (by decide), u2_n _ _ _ (by decide), u2_n _ _ _ (by decide), u2_n _ _ _ (by decide), u2_n _ _ _ (by decide), u2_n _ _ _ (by decide), u2_s]
    have c92 : m 92 = uf (mi 92) E (nI k) := by rw [← hm, u2_n _ _ _ (by decide), u2_n _ _ _ (by decide), u2_n _ _ _ (by decide), u2_n _ _ _ (by decide), u2_n _ _ _ (by decide), u2_n _ _ _ (by decide), u2_s, u2_n _ _ _ (by decide)]
    have c93 : m 93 = uf (mi 93) E (nI v) := by rw [← hm, u2_n _ _ _ (by decide), u2_n _ _ _ (by decide), u2_n _ _ _ (by decide), u2_n _ _ _ (by decide), u2_n _ _ _ (by decide), u2_s, u2_n _ _ _ (by decide), u2_n _ _ _ (by decide)]
    have c106 : m 106 = uf (mi 106) E (nI j) := by rw [← hm, u2_n _ _ _ (by decide), u2_n _ _ _ (by decide), u2_n _ _ _ (by decide), u2_s, u2_n _ _ _ (by decide), u2_n _ _ _ (by decide), u2_n _ _ _ (by decide), u2_n _ _ _ (by decide)]
    have c107 : m 107 = uf (mi 107) E (nI k) := by rw [← hm, u2_n _ _ _ (by decide), u2_n _ _ _ (by decide), u2_s, u2_n _ _ _ (by decide), u2_n _ _ _ (by decide), u2_n _ _ _ (by decide), u2_n _ _ _ (by decide), u2_n _ _ _ (by decide)]
    have c108 : m 108 = uf (mi 108) E (nI v) := by rw [← hm, u2_n _ _ _ (by decide), u2_s, u2_n _ _ _ (by decide), u2_n _ _ _ (by decide), u2_n _ _ _ (by decide), u2_n _ _ _ (by decide), u2_n _ _ _ (by decide), u2_n _ _ _ (by decide)]
    refine ⟨by omega, ?_, ?_, fun e he => ?_⟩
    · rw [← hm, u2_n _ _ _ (by decide), u2_n _ _ _ (by decide), u2_n _ _ _ (by decide), u2_n _ _ _ (by decide), u2_s, uf_s]
    · rw [← hm, u2_s, uf_s]
    · rw [c91, c92, c93, c106, c107, c108]
      by_cases h : e = E
      · rw [h, uf_s, uf_s, uf_s, uf_s, uf_s, uf_s, uf_s, uf_s]
        exact ⟨⟨rfl, rfl, by omega⟩, ⟨rfl, rfl, by omega⟩, hjk, rfl⟩
      · rw [uf_n _ _ h, uf_n _ _ h, uf_n _ _ h, uf_n _ _ h, uf_n _ _ h, uf_n _ _ h, uf_n _ _ h, uf_n _ _ h]
        exact b4 e (by omega)
theorem RelP.dTear (R : RelP mi ml n nx c q s E B1 B2) : RelP (u2 (u2 (u2 (u2 mi 86 3 (nI 0)) 90 3 (nI 0)) 95 10 (nI 0)) 95 13 (nI 0)) ml n nx c q 0 0 B1 B2 := by
  generalize hm : u2 (u2 (u2 (u2 mi 86 3 (nI 0)) 90 3 (nI 0)) 95 10 (nI 0)) 95 13 (nI 0) = m
  have M : ∀ t, t ≠ 86 → t ≠ 90 → t ≠ 95 → m t = mi t := fun t h1 h2 h3 => by rw [← hm, u2_n _ _ _ h3, u2_n _ _ _ h3, u2_n _ _ _ h2, u2_n _ _ _ h1]
  have M95 : ∀ k, k ≠ 10 → k ≠ 13 → m 95 k = mi 95 k := fun k h1 h2 => by rw [← hm, u2_s, uf_n _ _ h2, u2_s, uf_n _ _ h1, u2_n _ _ _ (by decide), u2_n _ _ _ (by decide)]
  refine R.core (fun t h => M t (by omega) (by omega) (by omega)) (M95 2 (by decide) (by decide)) (fun t h => rfl) ?_ ⟨by decide, ?_, ?_, fun i hi => by omega⟩ ⟨by decide, ?_, ?_, fun i hi => by omega⟩
  · obtain ⟨s1, s2, s3⟩ := R.2.2.2.2.1
    exact ⟨s1, by rw [M 94 (by decide) (by decide) (by decide)]; exact s2, by rw [M95 9 (by decide) (by decide)]; exact s3⟩
  · rw [← hm, u2_n _ _ _ (by decide), u2_n _ _ _ (by decide), u2_n _ _ _ (by decide), u2_s, uf_s]
  · rw [← hm, u2_s, uf_n _ _ (by decide), u2_s, uf_s]
  · rw [← hm, u2_n _ _ _ (by decide), u2_n _ _ _ (by decide), u2_s, uf_s]
  · rw [← hm, u2_s, uf_s]
theorem RelP.dSeed (R : RelP mi ml n nx c q s E B1 B2) {v : Nat} (hv : v < 2147483648) : RelP (u2 (u2 mi 94 0 (nI v)) 95 9 (nI v)) ml n nx c v s E B1 B2 := by
  have M : ∀ t, t ≠ 94 → t ≠ 95 → u2 (u2 mi 94 0 (nI v)) 95 9 (nI v) t = mi t := fun t h1 h2 => by rw [u2_n _ _ _ h2, u2_n _ _ _ h1]
  have M95 : ∀ k, k ≠ 9 → u2 (u2 mi 94 0 (nI v)) 95 9 (nI v) 95 k = mi 95 k := fun k h => by rw [u2_s, uf_n _ _ h, u2_n _ _ _ (by decide)]
  refine R.core (fun t h => M t (by omega) (by omega)) (M95 2 (by decide)) (fun t h => rfl) ⟨hv, ?_, ?_⟩ ?_ ?_
  · rw [u2_n _ _ _ (by decide), u2_s, uf_s]
  · rw [u2_s, uf_s]
  · exact R.2.2.2.2.2.1.cg (M _ (by decide) (by decide)) (M95 _ (by decide)) rfl rfl (M _ (by decide) (by decide)) (M _ (by decide) (by decide))
  · exact R.2.2.2.2.2.2.cg (M _ (by decide) (by decide)) (M95 _ (by decide)) (M _ (by decide) (by decide)) (M _ (by decide) (by decide)) (M _ (by decide) (by decide)) (M _ (by decide) (by decide)) (M _ (by decide) (by decide)) (M _ (by decide) (by decide))
end DEEDS
end
section
/-! class and reference: undo, images, drifts keep the relation -/
theorem bk_eq {nx c d : Nat} (hx : nx < 20) (hd : 1 ≤ d) (hdc : d ≤ c) (hc : c ≤ 20) : bkN nx d = (nx + 20 - c + (c - d)) % 20 := by
  unfold bkN
  by_cases h : nx < d
  · rw [if_pos (by simpa using h)]; omega
  · rw [if_neg (by simpa using h)]; omega
theorem ImR.tr {mi m : MI} {ml z : ML} {im q : Nat} (h : ImR mi ml im q) (h1 : m im = mi im) (h2 : m 103 q = mi 103 q) (h3 : m 102 q = mi 102 q) (h4 : m (im + 1) = mi (im + 1)) (h5 : m (im + 1 + 2) = mi (im + 1 + 2)) (h7 : z (im + 1) = ml (im + 1)) (h8 : z (im + 1 + 1) = ml (im + 1 + 1)) (hL : ∀ i, i < 43 → z 100 (43 * q + i) = ml 100 (43 * q + i)) (hK : ∀ i, i < 40 → m 101 (40 * q + i) = mi 101 (40 * q + i)) : ImR m z im q := by
  rcases h with h | ⟨g1, g2, ⟨zz, g3, g4, g5⟩, nb, g6⟩
  · left; rw [h1, h2]; exact h
  · right; exact ⟨by rw [h1]; exact g1, by rw [h2]; exact g2, ⟨zz, g3, by rw [h1]; exact g4, by rw [h3]; exact g5⟩, nb, g6.tr (by rw [h4]) (by rw [h7]) (by rw [h7]) (fun k _ => by rw [h8]) (fun k _ => by rw [h5]) hL hK⟩
section DEEDS2
variable {mi : MI} {ml : ML} {n nx c q s E : Nat} {B1 B2 : Nat → Nat}
theorem RelP.back (R : RelP mi ml n nx c q s E B1 B2) {d : Nat} (hd : 1 ≤ d) (hdc : d ≤ c) : ∃ nb, Sto mi ml (6 + 3 * bkN nx d) 98 99 (43 * (c - d)) (40 * (c - d)) nb := by
  rw [bk_eq R.nx20 hd hdc R.c20]
  exact R.2.2.1.2.2.2.2.2 (c - d) (by omega)
theorem RelP.dUndo (R : RelP mi ml n nx c q s E B1 B2) {d nb : Nat} (hd : 1 ≤ d) (hdc : d ≤ c) (hb : Sto mi ml (6 + 3 * bkN nx d) 98 99 (43 * (c - d)) (40 * (c - d)) nb) {m2 : MI} {z2 : ML} (hP : PtOK m2 z2 75 (ml (6 + 3 * bkN nx d) 1)) (hm : ∀ t, t ≠ 75 → t ≠ 76 → m2 t = bcI (u2 (u2 mi 4 1 (nI (bkN nx d))) 4 2 (nI (c - d))) 1 (6 + 3 * bkN nx d) nb t) (hz : ∀ t, t ≠ 77 → z2 t = bcL ml 1 (6 + 3 * bkN nx d) nb t) : RelP (cpL (u2 m2 95 2 (nI (c - d))) 97 0 99 (40 * (c - d)) 40) (cpL z2 96 0 98 (43 * (c - d)) 43) nb (bkN nx d) (c - d) q s E B1 B2 := by
  have hx := R.nx20
  have hc20 := R.c20
  have hbk := bkN_lt hx (show d ≤ 20 by omega) hd
  have hbe := bk_eq hx hd hdc hc20
  generalize bkN nx d = b at hb hP hm hz hbk hbe ⊢
  generalize hm4 : cpL (u2 m2 95 2 (nI (c - d))) 97 0 99 (40 * (c - d)) 40 = m4
  generalize hz4 : cpL z2 96 0 98 (43 * (c - d)) 43 = z4
  have a2 : ∀ t, t ≠ 1 → t ≠ 3 → t ≠ 4 → t ≠ 75 → t ≠ 76 → m2 t = mi t := fun t h1 h3 h4 h5 h6 => by rw [hm t h5 h6, bcI_n _ h1 (by omega), u2_n _ _ _ h4, u2_n _ _ _ h4]
  have b2 : ∀ t, t ≠ 1 → t ≠ 2 → t ≠ 77 → z2 t = ml t := fun t h1 h2 h3 => by rw [hz t h3, bcL_n _ h1 (by omega)]
  have a4 : ∀ t, t ≠ 95 → t ≠ 97 → m4 t = m2 t := fun t h1 h2 => by rw [← hm4, cpL_n _ h2, u2_n _ _ _ h1]
  have b4 : ∀ t, t ≠ 96 → z4 t = z2 t := fun t h => by rw [← hz4, cpL_n _ h]
  have M : ∀ t, 4 < t → t ≠ 75 → t ≠ 76 → t ≠ 95 → t ≠ 97 → m4 t = mi t := fun t h1 h2 h3 h4 h5 => by rw [a4 t h4 h5, a2 t (by omega) (by omega) (by omega) h2 h3]
  have Z : ∀ t, 2 < t → t ≠ 77 → t ≠ 96 → z4 t = ml t := fun t h1 h2 h3 => by rw [b4 t h3, b2 t (by omega) (by omega) h2]
  have M95 : ∀ k, k ≠ 2 → m4 95 k = mi 95 k := fun k h => by rw [← hm4, cpL_n _ (by decide), u2_s, uf_n _ _ h, a2 95 (by decide) (by decide) (by decide) (by decide) (by decide)]
  have z11 : z4 1 1 = ml (6 + 3 * b) 1 := by rw [b4 1 (by decide), hz 1 (by decide), bcL_1]
  obtain ⟨r1, r2, ⟨p1, p2, p3, p4, p5, p6⟩, ⟨r4, r5⟩, r6, r7, r8⟩ := R
  refine ⟨?_, ?_, ⟨?_, hbk, ?_, by omega, ?_, fun j hj => ?_⟩, ⟨r4.cg (M _ (by decide) (by decide) (by decide) (by decide) (by decide)) (M _ (by decide) (by decide) (by decide) (by decide) (by decide)) (M _ (by decide) (by decide) (by decide) (by decide) (by decide)) (M _ (by decide) (by decide) (by decide) (by decide) (by decide)) (M _ (by decide) (by decide) (by decide) (by decide) (by decide)) (M _ (by decide) (by decide) (by decide) (by decide) (by decide)) (Z _ (by decide) (by decide) (by decide)) (Z _ (by decide) (by decide) (by decide)) (Z _ (by decide) (by decide) (by decide)), r5.cg (M _ (by decide) (by decide) (by decide) (by decide) (by decide)) (M _ (by decide) (by decide) (by decide) (by decide) (by decide)) (M _ (by decide) (by decide) (by decide) (by decide) (by decide)) (M _ (by decide) (by decide) (by decide) (by decide) (by decide)) (M _ (by decide) (by decide) (by decide) (by decide) (by decide)) (M _ (by decide) (by decide) (by decide) (by decide) (by decide)) (Z _ (by decide) (by decide) (by decide)) (Z _ (by decide) (by decide) (by decide)) (Z _ (by decide) (by decide) (by decide))⟩, ?_, ?_, ?_⟩
  · refine hb.tr ?_ ?_ z11 (fun k hk => ?_) (fun k hk => ?_) (fun i hi => ?_) (fun i hi => ?_)
    · rw [a4 1 (by decide) (by decide), hm 1 (by decide) (by decide), bcI_c]; exact hb.2.1.symm
    · rw [b4 1 (by decide), hz 1 (by decide), bcL_0]
    · rw [b4 (1 + 1) (by decide), hz (1 + 1) (by decide), bcL_k hk (by omega)]
    · rw [a4 (1 + 2) (by decide) (by decide), hm (1 + 2) (by decide) (by decide), bcI_k hk (by omega), u2_n _ _ _ (by omega), u2_n _ _ _ (by omega)]
    · rw [← hz4, cpL_in _ hi, b2 98 (by decide) (by decide) (by decide)]
    · rw [← hm4, cpL_in _ hi, u2_n _ _ _ (by decide), a2 99 (by decide) (by decide) (by decide) (by decide) (by decide)]
  · rw [z11]
    exact hP.cg (a4 75 (by decide) (by decide)) (a4 76 (by decide) (by decide)) (b4 77 (by decide))
  · rw [a4 4 (by decide) (by decide), hm 4 (by decide) (by decide), bcI_n _ (by decide) (by decide), u2_s, uf_n _ _ (by decide), u2_s, uf_s]
  · rw [a4 4 (by decide) (by decide), hm 4 (by decide) (by decide), bcI_n _ (by decide) (by decide), u2_s, uf_s]
  · rw [← hm4, cpL_n _ (by decide), u2_s, uf_s]
  · obtain ⟨nb', hb'⟩ := p6 j (by omega)
    have er : (b + 20 - (c - d) + j) % 20 = (nx + 20 - c + j) % 20 := by omega
    rw [er]
    have hmm := Nat.mod_lt (nx + 20 - c + j) (show 0 < 20 by decide)
    exact ⟨nb', hb'.cg (M _ (by omega) (by omega) (by omega) (by omega) (by omega)) (M _ (by omega) (by omega) (by omega) (by omega) (by omega)) (M _ (by decide) (by decide) (by decide) (by decide) (by decide)) (Z _ (by omega) (by omega) (by omega)) (Z _ (by omega) (by omega) (by omega)) (Z _ (by decide) (by decide) (by decide))⟩
  · obtain ⟨s1, s2, s3⟩ := r6
    exact ⟨s1, by rw [M 94 (by decide) (by decide) (by decide) (by decide) (by decide)]; exact s2, by rw [M95 9 (by decide)]; exact s3⟩
  · exact r7.cg (M _ (by decide) (by decide) (by decide) (by decide) (by decide)) (M95 _ (by decide)) (Z _ (by decide) (by decide) (by decide)) (Z _ (by decide) (by decide) (by decide)) (M _ (by decide) (by decide) (by decide) (by decide) (by decide)) (M _ (by decide) (by decide) (by decide) (by decide) (by decide))
  · exact r8.cg (M _ (by decide) (by decide) (by decide) (by decide) (by decide)) (M95 _ (by decide)) (M _ (by decide) (by decide) (by decide) (by decide) (by decide)) (M _ (by decide) (by decide) (by decide) (by decide) (by decide)) (M _ (by decide) (by decide) (by decide) (by decide) (by decide)) (M _ (by decide) (by decide) (by decide) (by decide) (by decide)) (M _ (by decide) (by decide) (by decide) (by decide) (by decide)) (M _ (by decide) (by decide) (by decide) (by decide) (by decide))
theorem RelP.dKeep (R : RelP mi ml n nx c q s E B1 B2) {im w : Nat} (hi : (im = 67 ∧ w = 0) ∨ (im = 71 ∧ w = 1)) {m2 : MI} {z2 : ML} (hm2 : m2 = u2 (u2 (u2 (bcI mi (im + 1) 1 n) im 1 (mi 94 0)) im 2 (nI 1)) 4 2 (nI 0)) (hz2 : z2 = bcL ml (im + 1) 1 n) : RelP (u2 (u2 (u2 (cpL m2 101 (40 * w) 97 0 40) 102 w ((cpL m2 101 (40 * w) 97 0 40) 95 9)) 103 w (nI 1)) 95 2 (nI 0)) (cpL z2 100 (43 * w) 96 0 43) n nx 0 q s E B1 B2 := by
  generalize hm4 : u2 (u2 (u2 (cpL m2 101 (40 * w) 97 0 40) 102 w ((cpL m2 101 (40 * w) 97 0 40) 95 9)) 103 w (nI 1)) 95 2 (nI 0) = m4
  generalize hz4 : cpL z2 100 (43 * w) 96 0 43 = z4
  have a2 : ∀ t, t ≠ im → t ≠ im + 1 → t ≠ im + 3 → t ≠ 4 → m2 t = mi t := fun t h1 h2 h3 h4 => by rw [hm2, u2_n _ _ _ h4, u2_n _ _ _ h1, u2_n _ _ _ h1, bcI_n _ h2 (by omega)]
  have b2 : ∀ t, t ≠ im + 1 → t ≠ im + 2 → z2 t = ml t := fun t h1 h2 => by rw [hz2, bcL_n _ h1 (by omega)]
  have a4 : ∀ t, t ≠ 95 → t ≠ 101 → t ≠ 102 → t ≠ 103 → m4 t = m2 t := fun t h1 h2 h3 h4 => by rw [← hm4, u2_n _ _ _ h1, u2_n _ _ _ h4, u2_n _ _ _ h3, cpL_n _ h2]
  have b4 : ∀ t, t ≠ 100 → z4 t = z2 t := fun t h => by rw [← hz4, cpL_n _ h]
  have M : ∀ t, t ≠ im → t ≠ im + 1 → t ≠ im + 3 → t ≠ 4 → t ≠ 95 → t ≠ 101 → t ≠ 102 → t ≠ 103 → m4 t = mi t := fun t h1 h2 h3 h4 h5 h6 h7 h8 => by rw [a4 t h5 h6 h7 h8, a2 t h1 h2 h3 h4]
  have Z : ∀ t, t ≠ im + 1 → t ≠ im + 2 → t ≠ 100 → z4 t = ml t := fun t h1 h2 h3 => by rw [b4 t h3, b2 t h1 h2]
  have M95 : ∀ k, k ≠ 2 → m4 95 k = mi 95 k := fun k h => by rw [← hm4, u2_s, uf_n _ _ h, u2_n _ _ _ (by decide), u2_n _ _ _ (by decide), cpL_n _ (by decide), a2 95 (by omega) (by omega) (by omega) (by decide)]
  have M103 : ∀ k, k ≠ w → m4 103 k = mi 103 k := fun k h => by rw [← hm4, u2_n _ _ _ (by decide), u2_s, uf_n _ _ h, u2_n _ _ _ (by decide), cpL_n _ (by decide), a2 103 (by omega) (by omega) (by omega) (by decide)]
  have M102 : ∀ k, k ≠ w → m4 102 k = mi 102 k := fun k h => by rw [← hm4, u2_n _ _ _ (by decide), u2_n _ _ _ (by decide), u2_s, uf_n _ _ h, cpL_n _ (by decide), a2 102 (by omega) (by omega) (by omega) (by decide)]
  have m101 : m4 101 = cpL m2 101 (40 * w) 97 0 40 101 := by rw [← hm4, u2_n _ _ _ (by decide), u2_n _ _ _ (by decide), u2_n _ _ _ (by decide)]
  obtain ⟨r1, r2, ⟨p1, p2, p3, p4, p5, p6⟩, ⟨r4, r5⟩, ⟨s1, s2, s3⟩, r7, r8⟩ := R
  have hnew : ImR m4 z4 im w := by
    right
    refine ⟨?_, ?_, ⟨q, s1, ?_, ?_⟩, n, r1.tr ?_ ?_ ?_ (fun k hk => ?_) (fun k hk => ?_) (fun i hi => ?_) (fun i hi => ?_)⟩
    · rw [a4 im (by omega) (by omega) (by omega) (by omega), hm2, u2_n _ _ _ (by omega), u2_s, uf_s]
    · rw [← hm4, u2_n _ _ _ (by decide), u2_s, uf_s]
    · rw [a4 im (by omega) (by omega) (by omega) (by omega), hm2, u2_n _ _ _ (by omega), u2_s, uf_n _ _ (by decide), u2_s, uf_s]; exact s2
    · rw [← hm4, u2_n _ _ _ (by decide), u2_n _ _ _ (by decide), u2_s, uf_s, cpL_n _ (by decide), a2 95 (by omega) (by omega) (by omega) (by decide)]; exact s3
    · rw [a4 (im + 1) (by omega) (by omega) (by omega) (by omega), hm2, u2_n _ _ _ (by omega), u2_n _ _ _ (by omega), u2_n _ _ _ (by omega), bcI_c]; exact r1.2.1.symm
    · rw [b4 (im + 1) (by omega), hz2, bcL_0]
    · rw [b4 (im + 1) (by omega), hz2, bcL_1]
    · rw [b4 (im + 1 + 1) (by omega), hz2, bcL_k hk (by omega)]
    · rw [a4 (im + 1 + 2) (by omega) (by omega) (by omega) (by omega), hm2, u2_n _ _ _ (by omega), u2_n _ _ _ (by omega), u2_n _ _ _ (by omega), bcI_k hk (by omega)]
    · rw [← hz4, cpL_in _ hi, b2 96 (by omega) (by omega)]
    · rw [m101, cpL_in _ hi, a2 97 (by omega) (by omega) (by omega) (by decide)]
  have hold : ∀ {jm v : Nat}, (jm = 67 ∧ v = 0) ∨ (jm = 71 ∧ v = 1) → jm ≠ im → ImR mi ml jm v → ImR m4 z4 jm v := by
    intro jm v hj hne h
    refine h.tr (M _ (by omega) (by omega) (by omega) (by omega) (by omega) (by omega) (by omega) (by omega)) (M103 v (by omega)) (M102 v (by omega)) (M _ (by omega) (by omega) (by omega) (by omega) (by omega) (by omega) (by omega) (by omega)) (M _ (by omega) (by omega) (by omega) (by omega) (by omega) (by omega) (by omega) (by omega)) (Z _ (by omega) (by omega) (by omega)) (Z _ (by omega) (by omega) (by omega)) (fun i hi2 => ?_) (fun i hi2 => ?_)
    · rw [← hz4, cpL_out _ (by omega), b2 100 (by omega) (by omega)]
    · rw [m101, cpL_out _ (by omega), a2 101 (by omega) (by omega) (by omega) (by decide)]
  refine ⟨r1.cg (M _ (by omega) (by omega) (by omega) (by omega) (by omega) (by omega) (by omega) (by omega)) (M _ (by omega) (by omega) (by omega) (by omega) (by omega) (by omega) (by omega) (by omega)) (M _ (by omega) (by omega) (by omega) (by omega) (by omega) (by omega) (by omega) (by omega)) (Z _ (by omega) (by omega) (by omega)) (Z _ (by omega) (by omega) (by omega)) (Z _ (by omega) (by omega) (by omega)), ?_, ⟨?_, p2, ?_, by decide, ?_, fun j hj => by omega⟩, ?_, ?_, ?_, ?_⟩
  · rw [Z 1 (by omega) (by omega) (by omega)]
    exact r2.cg (M _ (by omega) (by omega) (by omega) (by omega) (by omega) (by omega) (by omega) (by omega)) (M _ (by omega) (by omega) (by omega) (by omega) (by omega) (by omega) (by omega) (by omega)) (Z _ (by omega) (by omega) (by omega))
  · rw [a4 4 (by decide) (by decide) (by decide) (by decide), hm2, u2_s, uf_n _ _ (by decide), u2_n _ _ _ (by omega), u2_n _ _ _ (by omega), bcI_n _ (by omega) (by omega)]; exact p1
  · rw [a4 4 (by decide) (by decide) (by decide) (by decide), hm2, u2_s, uf_s]
  · rw [← hm4, u2_s, uf_s]
  · rcases hi with ⟨e1, e2⟩ | ⟨e1, e2⟩
    · exact ⟨by rw [e1, e2] at hnew; exact hnew, hold (Or.inr ⟨rfl, rfl⟩) (by omega) r5⟩
    · exact ⟨hold (Or.inl ⟨rfl, rfl⟩) (by omega) r4, by rw [e1, e2] at hnew; exact hnew⟩
  · exact ⟨s1, by rw [M 94 (by omega) (by omega) (by omega) (by omega) (by omega) (by omega) (by omega) (by omega)]; exact s2, by rw [M95 9 (by decide)]; exact s3⟩
  · exact r7.cg (M _ (by omega) (by omega) (by omega) (by omega) (by omega) (by omega) (by omega) (by omega)) (M95 _ (by decide)) (Z _ (by omega) (by omega) (by omega)) (Z _ (by omega) (by omega) (by omega)) (M _ (by omega) (by omega) (by omega) (by omega) (by omega) (by omega) (by omega) (by omega)) (M _ (by omega) (by omega) (by omega) (by omega) (by omega) (by omega) (by omega) (by omega))
  · exact r8.cg (M _ (by omega) (by omega) (by omega) (by omega) (by omega) (by omega) (by omega) (by omega)) (M95 _ (by decide)) (M _ (by omega) (by omega) (by omega) (by omega) (by omega) (by omega) (by omega) (by omega)) (M _ (by omega) (by omega) (by omega) (by omega) (by omega) (by omega) (by omega) (by omega)) (M _ (by omega) (by omega) (by omega) (by omega) (by omega) (by omega) (by omega) (by omega)) (M _ (by omega) (by omega) (by omega) (by omega) (by omega) (by omega) (by omega) (by omega)) (M _ (by omega) (by omega) (by omega) (by omega) (by omega) (by omega) (by omega) (by omega)) (M _ (by omega) (by omega) (by omega) (by omega) (by omega) (by omega) (by omega) (by omega))
theorem RelP.dGo (R : RelP mi ml n nx c q s E B1 B2) {im w nb zz : Nat} (hi : (im = 67 ∧ w = 0) ∨ (im = 71 ∧ w = 1)) (hz1 : zz < 2147483648) (hz2 : mi im 1 = nI zz) (hz3 : mi 102 w = nI zz) (hb : Sto mi ml (im + 1) 100 101 (43 * w) (40 * w) nb) {m2 : MI} {z2 : ML} (hP : PtOK m2 z2 75 (ml (im + 1) 1)) (hm : ∀ t, t ≠ 75 → t ≠ 76 → m2 t = u2 (u2 (bcI mi 1 (im + 1) nb) 94 0 (mi im 1)) 4 2 (nI 0) t) (hz : ∀ t, t ≠ 77 → z2 t = bcL ml 1 (im + 1) nb t) : RelP (u2 (u2 (cpL m2 97 0 101 (40 * w) 40) 95 9 ((cpL m2 97 0 101 (40 * w) 40) 102 w)) 95 2 (nI 0)) (cpL z2 96 0 100 (43 * w) 43) nb nx 0 zz s E B1 B2 := by
  generalize hm4 : u2 (u2 (cpL m2 97 0 101 (40 * w) 40) 95 9 ((cpL m2 97 0 101 (40 * w) 40) 102 w)) 95 2 (nI 0) = m4
  generalize hz4 : cpL z2 96 0 100 (43 * w) 43 = z4
  have a2 : ∀ t, t ≠ 1 → t ≠ 3 → t ≠ 4 → t ≠ 75 → t ≠ 76 → t ≠ 94 → m2 t = mi t := fun t h1 h3 h4 h5 h6 h7 => by rw [hm t h5 h6, u2_n _ _ _ h4, u2_n _ _ _ h7, bcI_n _ h1 (by omega)]
  have b2 : ∀ t, t ≠ 1 → t ≠ 2 → t ≠ 77 → z2 t = ml t := fun t h1 h2 h3 => by rw [hz t h3, bcL_n _ h1 (by omega)]
  have a4 : ∀ t, t ≠ 95 → t ≠ 97 → m4 t = m2 t := fun t h1 h2 => by rw [← hm4, u2_n _ _ _ h1, u2_n _ _ _ h1, cpL_n _ h2]
  have b4 : ∀ t, t ≠ 96 → z4 t = z2 t := fun t h => by rw [← hz4, cpL_n _ h]
  have M : ∀ t, 4 < t → t ≠ 75 → t ≠ 76 → t ≠ 94 → t ≠ 95 → t ≠ 97 → m4 t = mi t := fun t h1 h2 h3 h6 h4 h5 => by rw [a4 t h4 h5, a2 t (by omega) (by omega) (by omega) h2 h3 h6]
  have Z : ∀ t, 2 < t → t ≠ 77 → t ≠ 96 → z4 t = ml t := fun t h1 h2 h3 => by rw [b4 t h3, b2 t (by omega) (by omega) h2]
  have M95 : ∀ k, k ≠ 2 → k ≠ 9 → m4 95 k = mi 95 k := fun k h h9 => by rw [← hm4, u2_s, uf_n _ _ h, u2_s, uf_n _ _ h9, cpL_n _ (by decide), a2 95 (by decide) (by decide) (by decide) (by decide) (by decide) (by decide)]
  have z11 : z4 1 1 = ml (im + 1) 1 := by rw [b4 1 (by decide), hz 1 (by decide), bcL_1]
  obtain ⟨r1, r2, ⟨p1, p2, p3, p4, p5, p6⟩, ⟨r4, r5⟩, r6, r7, r8⟩ := R
  refine ⟨?_, ?_, ⟨?_, p2, ?_, by decide, ?_, fun j hj => by omega⟩, ⟨r4.cg (M _ (by decide) (by decide) (by decide) (by decide) (by decide) (by decide)) (M _ (by decide) (by decide) (by decide) (by decide) (by decide) (by decide)) (M _ (by decide) (by decide) (by decide) (by decide) (by decide) (by decide)) (M _ (by decide) (by decide) (by decide) (by decide) (by decide) (by decide)) (M _ (by decide) (by decide) (by decide) (by decide) (by decide) (by decide)) (M _ (by decide) (by decide) (by decide) (by decide) (by decide) (by decide)) (Z _ (by decide) (by decide) (by decide)) (Z _ (by decide) (by decide) (by decide)) (Z _ (by decide) (by decide) (by decide)), r5.cg (M _ (by decide) (by decide) (by decide) (by decide) (by decide) (by decide)) (M _ (by decide) (by decide) (by decide) (by decide) (by decide) (by decide)) (M _ (by decide) (by decide) (by decide) (by decide) (by decide) (by decide)) (M _ (by decide) (by decide) (by decide) (by decide) (by decide) (by decide)) (M _ (by decide) (by decide) (by decide) (by decide) (by decide) (by decide)) (M _ (by decide) (by decide) (by decide) (by decide) (by decide) (by decide)) (Z _ (by decide) (by decide) (by decide)) (Z _ (by decide) (by decide) (by decide)) (Z _ (by decide) (by decide) (by decide))⟩, ⟨hz1, ?_, ?_⟩, ?_, ?_⟩
  · refine hb.tr ?_ ?_ z11 (fun k hk => ?_) (fun k hk => ?_) (fun i hi2 => ?_) (fun i hi2 => ?_)
    · rw [a4 1 (by decide) (by decide), hm 1 (by decide) (by decide), u2_n _ _ _ (by decide), u2_n _ _ _ (by decide), bcI_c]; exact hb.2.1.symm
    · rw [b4 1 (by decide), hz 1 (by decide), bcL_0]
    · rw [b4 (1 + 1) (by decide), hz (1 + 1) (by decide), bcL_k hk (by omega)]
    · rw [a4 (1 + 2) (by decide) (by decide), hm (1 + 2) (by decide) (by decide), u2_n _ _ _ (by decide), u2_n _ _ _ (by decide), bcI_k hk (by omega)]
    · rw [← hz4, cpL_in _ hi2, b2 100 (by decide) (by decide) (by decide)]
    · rw [← hm4, u2_n _ _ _ (by decide), u2_n _ _ _ (by decide), cpL_in _ hi2, a2 101 (by decide) (by decide) (by decide) (by decide) (by decide) (by decide)]
  · rw [z11]
    exact hP.cg (a4 75 (by decide) (by decide)) (a4 76 (by decide) (by decide)) (b4 77 (by decide))
  · rw [a4 4 (by decide) (by decide), hm 4 (by decide) (by decide), u2_s, uf_n _ _ (by decide), u2_n _ _ _ (by decide), bcI_n _ (by decide) (by decide)]; exact p1
  · rw [a4 4 (by decide) (by decide), hm 4 (by decide) (by decide), u2_s, uf_s]
  · rw [← hm4, u2_s, uf_s]
  · rw [a4 94 (by decide) (by decide), hm 94 (by decide) (by decide), u2_n _ _ _ (by decide), u2_s, uf_s]; exact hz2
  · rw [← hm4, u2_s, uf_n _ _ (by decide), u2_s, uf_s, cpL_n _ (by decide), a2 102 (by decide) (by decide) (by decide) (by decide) (by decide) (by decide)]; exact hz3
  · exact r7.cg (M _ (by decide) (by decide) (by decide) (by decide) (by decide) (by decide)) (M95 _ (by decide) (by decide)) (Z _ (by decide) (by decide) (by decide)) (Z _ (by decide) (by decide) (by decide)) (M _ (by decide) (by decide) (by decide) (by decide) (by decide) (by decide)) (M _ (by decide) (by decide) (by decide) (by decide) (by decide) (by decide))
  · exact r8.cg (M _ (by decide) (by decide) (by decide) (by decide) (by decide) (by decide)) (M95 _ (by decide) (by decide)) (M _ (by decide) (by decide) (by decide) (by decide) (by decide) (by decide)) (M _ (by decide) (by decide) (by decide) (by decide) (by decide) (by decide)) (M _ (by decide) (by decide) (by decide) (by decide) (by decide) (by decide)) (M _ (by decide) (by decide) (by decide) (by decide) (by decide) (by decide)) (M _ (by decide) (by decide) (by decide) (by decide) (by decide) (by decide)) (M _ (by decide) (by decide) (by decide) (by decide) (by decide) (by decide))
/-- times by draws -/
theorem RelP.lotNo (R : RelP mi ml n nx c q s E B1 B2) (H : Int64) {Z : Nat} (hZ : Z < 2147483648) : RelP (u2 (noteI (u2 (remI mi nx c n) 94 0 (nI Z)) c) 95 9 (nI Z)) (u2 (noteL (u2 (remL ml nx n) 1 0 H) c) 96 0 H) n (nxP nx) (cP c) Z s E B1 B2 := by
  have hx := R.nx20
  generalize hm2 : u2 (remI mi nx c n) 94 0 (nI Z) = m2
  generalize hz2 : u2 (remL ml nx n) 1 0 H = z2
  generalize hm4 : u2 (noteI m2 c) 95 9 (nI Z) = m4
  generalize hz4 : u2 (noteL z2 c) 96 0 H = z4
  have a2 : ∀ t, t ≠ 94 → m2 t = remI mi nx c n t := fun t h => by rw [← hm2, u2_n _ _ _ h]
  have b2 : ∀ t, t ≠ 1 → z2 t = remL ml nx n t := fun t h => by rw [← hz2, u2_n _ _ _ h]
  have a4 : ∀ t, t ≠ 95 → m4 t = noteI m2 c t := fun t h => by rw [← hm4, u2_n _ _ _ h]
  have b4 : ∀ t, t ≠ 96 → z4 t = noteL z2 c t := fun t h => by rw [← hz4, u2_n _ _ _ h]
  have hE : ∀ t, t = 1 ∨ t = 3 ∨ t = 75 ∨ t = 76 ∨ t = 97 → m4 t = mi t := fun t ht => by rw [a4 t (by omega), noteI_n _ _ (by omega) (by omega), a2 t (by omega), remI_n _ (by omega) (by omega) (by omega)]
  have f1 : z4 1 = uf (ml 1) 0 H := by rw [b4 1 (by decide), noteL_n _ _ (by decide), ← hz2, u2_s, remL_n _ (by omega) (by omega)]
  have hF : ∀ t, t = 2 ∨ t = 77 → z4 t = ml t := fun t ht => by rw [b4 t (by omega), noteL_n _ _ (by omega), b2 t (by omega), remL_n _ (by omega) (by omega)]
  have f6 : z4 96 = uf (ml 96) 0 H := by rw [← hz4, u2_s, noteL_n _ _ (by decide), b2 96 (by decide), remL_n _ (by omega) (by omega)]
  refine deed R (m2 := m2) (z2 := z2) (fun t _ _ _ _ h => a2 t h) (fun t h _ _ => b2 t h) (fun t h _ => a4 t h) (fun k h => by rw [← hm4, u2_s, uf_n _ _ h]) (fun t h => b4 t h) (Sto.mk1 R.n40 ?_ ?_ ?_ ?_ (fun k hk => ?_) (fun k hk => ?_) ?_ ?_ ?_) ?_ ⟨hZ, ?_, ?_⟩
  · rw [hE 1 (by decide)]; exact R.hn
  · rw [f6, uf_n _ _ (by decide)]; exact R.hm
  · rw [f6, f1, uf_s, uf_s]
  · rw [f6, f1, uf_n _ _ (by decide), uf_n _ _ (by decide)]; exact R.h1
  · rw [f6, hF 2 (by decide), uf_n _ _ (by omega)]; exact R.own k hk
  · rw [hE 97 (by decide), hE 3 (by decide)]; exact R.knd k hk
  · rw [f1, uf_n _ _ (by decide)]; exact R.cut
  · rw [hF 2 (by decide)]; exact R.inj
  · rw [hE 3 (by decide)]; exact R.kn3
  · rw [f1, uf_n _ _ (by decide)]; exact R.2.1.cg (hE 75 (by decide)) (hE 76 (by decide)) (hF 77 (by decide))
  · rw [a4 94 (by decide), noteI_n _ _ (by decide) (by decide), ← hm2, u2_s, uf_s]
  · rw [← hm4, u2_s, uf_s]
theorem RelP.lotYes (R : RelP mi ml n nx c q s E B1 B2) (hn : n < 40) (H : Int64) {Z : Nat} (hZ : Z < 2147483648) (hl : ∀ j, j < n → ml 2 j ≠ H) : RelP (u2 (u2 (noteI (u2 (u2 (u2 (remI mi nx c n) 94 0 (nI Z)) 3 n (nI 0)) 1 2 (nI (n + 1))) c) 95 9 (nI Z)) 97 n (nI 0)) (u2 (u2 (u2 (noteL (u2 (u2 (remL ml nx n) 1 0 H) 2 n H) c) 96 0 H) 96 (3 + n) H) 96 2 (lN (n + 1))) (n + 1) (nxP nx) (cP c) Z s E B1 B2 := by
  have hx := R.nx20
  generalize hm2 : u2 (u2 (u2 (remI mi nx c n) 94 0 (nI Z)) 3 n (nI 0)) 1 2 (nI (n + 1)) = m2
  generalize hz2 : u2 (u2 (remL ml nx n) 1 0 H) 2 n H = z2
  generalize hm4 : u2 (u2 (noteI m2 c) 95 9 (nI Z)) 97 n (nI 0) = m4
  generalize hz4 : u2 (u2 (u2 (noteL z2 c) 96 0 H) 96 (3 + n) H) 96 2 (lN (n + 1)) = z4
  have a2 : ∀ t, t ≠ 1 → t ≠ 3 → t ≠ 94 → m2 t = remI mi nx c n t := fun t h1 h3 h => by rw [← hm2, u2_n _ _ _ h1, u2_n _ _ _ h3, u2_n _ _ _ h]
  have b2 : ∀ t, t ≠ 1 → t ≠ 2 → z2 t = remL ml nx n t := fun t h h2 => by rw [← hz2, u2_n _ _ _ h2, u2_n _ _ _ h]
  have a4 : ∀ t, t ≠ 95 → t ≠ 97 → m4 t = noteI m2 c t := fun t h h2 => by rw [← hm4, u2_n _ _ _ h2, u2_n _ _ _ h]
  have b4 : ∀ t, t ≠ 96 → z4 t = noteL z2 c t := fun t h => by rw [← hz4, u2_n _ _ _ h, u2_n _ _ _ h, u2_n _ _ _ h]
  have z96 : noteL z2 c 96 = ml 96 := by rw [noteL_n _ _ (by decide), b2 96 (by decide) (by decide), remL_n _ (by omega) (by omega)]
  have hE : ∀ t, t = 75 ∨ t = 76 → m4 t = mi t := fun t ht => by rw [a4 t (by omega) (by omega), noteI_n _ _ (by omega) (by omega), a2 t (by omega) (by omega) (by omega), remI_n _ (by omega) (by omega) (by omega)]
  have z11 : z4 1 1 = ml 1 1 := by rw [b4 1 (by decide), noteL_n _ _ (by decide), ← hz2, u2_n _ _ _ (by decide), u2_s, uf_n _ _ (by decide), remL_n _ (by omega) (by omega)]
  refine deed R (m2 := m2) (z2 := z2) (fun t h1 h3 _ _ h => a2 t h1 h3 h) (fun t h h2 _ => b2 t h h2) (fun t h h2 => a4 t h h2) (fun k h => by rw [← hm4, u2_n _ _ _ (by decide), u2_s, uf_n _ _ h]) (fun t h => b4 t h) (sto_add (k := 0) R hn (by decide) hl ?_ ?_ ?_ ?_ z11 ?_ ?_ ?_ ?_ (fun j hj => ?_) ?_) ?_ ⟨hZ, ?_, ?_⟩
  · rw [a4 1 (by decide) (by decide), noteI_n _ _ (by decide) (by decide), ← hm2, u2_s, uf_s]
  · rw [a4 3 (by decide) (by decide), noteI_n _ _ (by decide) (by decide), ← hm2, u2_n _ _ _ (by decide), u2_s, u2_n _ _ _ (by decide), remI_n _ (by omega) (by omega) (by decide)]
  · rw [← hm4, u2_s, u2_n _ _ _ (by decide), noteI_n _ _ (by decide) (by decide), a2 97 (by decide) (by decide) (by decide), remI_n _ (by omega) (by omega) (by decide)]
  · rw [b4 1 (by decide), noteL_n _ _ (by decide), ← hz2, u2_n _ _ _ (by decide), u2_s, uf_s]
  · rw [b4 2 (by decide), noteL_n _ _ (by decide), ← hz2, u2_s, u2_n _ _ _ (by decide), remL_n _ (by omega) (by omega)]
  · rw [← hz4, u2_s, uf_n _ _ (by decide), u2_s, uf_n _ _ (by omega), u2_s, uf_s]
  · rw [← hz4, u2_s, uf_n _ _ (by decide), u2_s, uf_n _ _ (by omega), u2_s, uf_n _ _ (by decide), z96]
  · rw [← hz4, u2_s, uf_s]
  · rw [← hz4, u2_s, uf_n _ _ (by omega), u2_s, uf_n _ _ (by omega), u2_s, uf_n _ _ (by omega), z96]
  · rw [← hz4, u2_s, uf_n _ _ (by omega), u2_s, uf_s]
  · rw [z11]; exact R.2.1.cg (hE 75 (by decide)) (hE 76 (by decide)) (by rw [b4 77 (by decide), noteL_n _ _ (by decide), b2 77 (by decide) (by decide), remL_n _ (by omega) (by omega)])
  · rw [a4 94 (by decide) (by decide), noteI_n _ _ (by decide) (by decide), ← hm2, u2_n _ _ _ (by decide), u2_n _ _ _ (by decide), u2_s, uf_s]
  · rw [← hm4, u2_n _ _ _ (by decide), u2_s, uf_s]
end DEEDS2
end
section
/-! class and reference: n times by draws; a step reads and writes its own side alone -/
theorem u2_S {α : Type} {S : Nat → Prop} {f g : Nat → Nat → α} (h : ∀ t, S t → f t = g t) (i k : Nat) (v : α) : ∀ t, S t → u2 f i k v t = u2 g i k v t := fun t ht => by
  funext b; rw [u2_at, u2_at, h t ht]
theorem cpL_S {α : Type} {S : Nat → Prop} {f g : Nat → Nat → α} (h : ∀ t, S t → f t = g t) {dst dp src sp len : Nat} (hs : S src) : ∀ t, S t → cpL f dst dp src sp len t = cpL g dst dp src sp len t := fun t ht => by
  funext b; unfold cpL; rw [h t ht, h src hs]
theorem shL_S {α : Type} {S : Nat → Prop} {f g : Nat → Nat → α} (h : ∀ t, S t → f t = g t) {id lo d len : Nat} : ∀ t, S t → shL f id lo d len t = shL g id lo d len t := fun t ht => by
  funext b; unfold shL; rw [h t ht]
theorem remI_S {S : Nat → Prop} {m m' : MI} {nx c n : Nat} (h : ∀ t, S t → m t = m' t) (h3 : S 3) : ∀ t, S t → remI m nx c n t = remI m' nx c n t := by
  unfold remI bcI
  exact u2_S (u2_S (cpL_S (u2_S h _ _ _) h3) _ _ _) _ _ _
theorem remL_S {S : Nat → Prop} {z z' : ML} {nx n : Nat} (h : ∀ t, S t → z t = z' t) (h1 : S 1) (h2 : S 2) : ∀ t, S t → remL z nx n t = remL z' nx n t := by
  unfold remL bcL
  rw [h 1 h1]
  exact cpL_S (u2_S (u2_S h _ _ _) _ _ _) h2
theorem noteI_S {S : Nat → Prop} {m m' : MI} {c : Nat} (h : ∀ t, S t → m t = m' t) (h97 : S 97) : ∀ t, S t → noteI m c t = noteI m' c t := by
  unfold noteI
  by_cases e : c = 20
  · rw [if_pos e, if_pos e]; exact u2_S (cpL_S (u2_S (shL_S h) _ _ _) h97) _ _ _
  · rw [if_neg e, if_neg e]; exact u2_S (cpL_S h h97) _ _ _
theorem noteL_S {S : Nat → Prop} {m m' : ML} {c : Nat} (h : ∀ t, S t → m t = m' t) (h96 : S 96) : ∀ t, S t → noteL m c t = noteL m' c t := by
  unfold noteL
  by_cases e : c = 20
  · rw [if_pos e, if_pos e]; exact cpL_S (shL_S h) h96
  · rw [if_neg e, if_neg e]; exact cpL_S h h96
theorem putA_S {S : Nat → Prop} {z z' : ML} {n : Nat} (h : ∀ t, S t → z t = z' t) (h1 : S 1) (h2 : S 2) : putA z n = putA z' n := by
  unfold putA; rw [h 1 h1, h 2 h2]
theorem lcY_S {S : Nat → Prop} {z z' : ML} {nx n q : Nat} (h : ∀ t, S t → z t = z' t) (h1 : S 1) (h2 : S 2) : ∀ t, S t → u2 (remL z nx n) 1 0 (lotHC (z 1 0) q) t = u2 (remL z' nx n) 1 0 (lotHC (z' 1 0) q) t := by
  rw [h 1 h1]; exact u2_S (remL_S h h1 h2) _ _ _
theorem lcI_S {S : Nat → Prop} {m m' : MI} {z z' : ML} {nx c n q : Nat} (hm : ∀ t, S t → m t = m' t) (hz : ∀ t, S t → z t = z' t) (h1 : S 1) (h2 : S 2) (h3 : S 3) : ∀ t, S t → lcI m z nx c n q t = lcI m' z' nx c n q t := by
  unfold lcI putI
  rw [putA_S (lcY_S (q := q) (nx := nx) (n := n) hz h1 h2) h1 h2]
  by_cases e : putA (u2 (remL z' nx n) 1 0 (lotHC (z' 1 0) q)) n = true
  · rw [if_pos e, if_pos e]; exact u2_S (u2_S (u2_S (remI_S hm h3) _ _ _) _ _ _) _ _ _
  · rw [if_neg e, if_neg e]; exact u2_S (remI_S hm h3) _ _ _
theorem lcL_S {S : Nat → Prop} {z z' : ML} {nx n q : Nat} (hz : ∀ t, S t → z t = z' t) (h1 : S 1) (h2 : S 2) : ∀ t, S t → lcL z nx n q t = lcL z' nx n q t := by
  have hy := lcY_S (q := q) (nx := nx) (n := n) hz h1 h2
  unfold lcL putL
  rw [putA_S hy h1 h2]
  by_cases e : putA (u2 (remL z' nx n) 1 0 (lotHC (z' 1 0) q)) n = true
  · rw [if_pos e, if_pos e, hy 1 h1]; exact u2_S hy _ _ _
  · rw [if_neg e, if_neg e]; exact hy
theorem nP_S {S : Nat → Prop} {z z' : ML} {nx n q : Nat} (hz : ∀ t, S t → z t = z' t) (h1 : S 1) (h2 : S 2) : nP z nx n q = nP z' nx n q := by
  unfold nP; rw [putA_S (lcY_S (q := q) (nx := nx) (n := n) hz h1 h2) h1 h2]
theorem lotA_S {S : Nat → Prop} {z z' : ML} {n q : Nat} (hz : ∀ t, S t → z t = z' t) (h96 : S 96) : lotA z n q = lotA z' n q := by
  unfold lotA oM; rw [hz 96 h96]
theorem lotI_S {S : Nat → Prop} {m m' : MI} {z z' : ML} {c n q : Nat} (hm : ∀ t, S t → m t = m' t) (hz : ∀ t, S t → z t = z' t) (h96 : S 96) (h97 : S 97) : ∀ t, S t → lotI m z c n q t = lotI m' z' c n q t := by
  unfold lotI
  rw [lotA_S hz h96]
  by_cases e : lotA z' n q = true
  · rw [if_pos e, if_pos e]; exact u2_S (u2_S (noteI_S hm h97) _ _ _) _ _ _
  · rw [if_neg e, if_neg e]; exact u2_S (noteI_S hm h97) _ _ _
theorem lotL_S {S : Nat → Prop} {z z' : ML} {c n q : Nat} (hz : ∀ t, S t → z t = z' t) (h96 : S 96) : ∀ t, S t → lotL z c n q t = lotL z' c n q t := by
  unfold lotL
  rw [lotA_S hz h96, hz 96 h96]
  by_cases e : lotA z' n q = true
  · rw [if_pos e, if_pos e]; exact u2_S (u2_S (u2_S (noteL_S hz h96) _ _ _) _ _ _) _ _ _
  · rw [if_neg e, if_neg e]; exact u2_S (noteL_S hz h96) _ _ _
theorem lcI_hi {m : MI} {z : ML} {nx c n q t : Nat} (hx : nx < 20) (ht : 95 ≤ t) : lcI m z nx c n q t = m t := by
  unfold lcI; rw [putI_n _ _ (by omega) (by omega), u2_n _ _ _ (by omega), remI_n _ (by omega) (by omega) (by omega)]
theorem lcL_hi {z : ML} {nx n q t : Nat} (hx : nx < 20) (ht : 95 ≤ t) : lcL z nx n q t = z t := by
  unfold lcL putL
  by_cases e : putA (u2 (remL z nx n) 1 0 (lotHC (z 1 0) q)) n = true
  · rw [if_pos e, u2_n _ _ _ (by omega), u2_n _ _ _ (by omega), remL_n _ (by omega) (by omega)]
  · rw [if_neg e, u2_n _ _ _ (by omega), remL_n _ (by omega) (by omega)]
theorem lotI_lo {m : MI} {z : ML} {c n q t : Nat} (ht : t < 95) : lotI m z c n q t = m t := by
  unfold lotI
  by_cases e : lotA z n q = true
  · rw [if_pos e, u2_n _ _ _ (by omega), u2_n _ _ _ (by omega), noteI_n _ _ (by omega) (by omega)]
  · rw [if_neg e, u2_n _ _ _ (by omega), noteI_n _ _ (by omega) (by omega)]
theorem lotL_lo {z : ML} {c n q t : Nat} (ht : t < 95) : lotL z c n q t = z t := by
  unfold lotL
  by_cases e : lotA z n q = true
  · rw [if_pos e, u2_n _ _ _ (by omega), u2_n _ _ _ (by omega), u2_n _ _ _ (by omega), noteL_n _ _ (by omega)]
  · rw [if_neg e, u2_n _ _ _ (by omega), noteL_n _ _ (by omega)]
theorem cP_if {c : Nat} (h : c ≤ 20) : (if c = 20 then 20 else c + 1) = cP c := by
  by_cases e : c = 20
  · rw [if_pos e, e]; rfl
  · rw [if_neg e, cP_s (by omega)]
section DRIFT
variable {n nx c q s E : Nat} {B1 B2 : Nat → Nat}
theorem RelP.lotB {mi : MI} {ml z : ML} (R : RelP mi ml n nx c q s E B1 B2) (h96 : z 96 = ml 96) : lotA z n q = putA (u2 (remL ml nx n) 1 0 (lotHC (ml 1 0) q)) n := by
  have hx := R.nx20
  have e2 : u2 (remL ml nx n) 1 0 (lotHC (ml 1 0) q) 2 = ml 2 := by rw [u2_n _ _ _ (by decide), remL_n _ (by omega) (by omega)]
  have e1 : u2 (remL ml nx n) 1 0 (lotHC (ml 1 0) q) 1 0 = lotHC (ml 1 0) q := by rw [u2_s, uf_s]
  have eh : lotH (z 96 0) q = lotHC (ml 1 0) q := by rw [h96, R.h0, lotH_eq]
  have eM : ∀ k, k < n → oM z k = ml 2 k := fun k hk => by unfold oM; rw [h96]; exact R.own k hk
  have e : fromB (fun k => decide (u2 (remL ml nx n) 1 0 (lotHC (ml 1 0) q) 2 k = u2 (remL ml nx n) 1 0 (lotHC (ml 1 0) q) 1 0)) n 0 = lastB (fun k => decide (oM z k = lotH (z 96 0) q)) n := by
    rw [e2, e1, eh]
    refine (first_last (fun j k hj hk h1 h2 => ?_)).trans (lastB_cong (fun k hk => ?_))
    · simp only [decide_eq_true_eq] at h1 h2
      exact R.inj j k hj hk (h1.trans h2.symm)
    · show decide (ml 2 k = lotHC (ml 1 0) q) = decide (oM z k = lotHC (ml 1 0) q)
      rw [eM k hk]
  unfold lotA putA
  rw [e, Bool.and_comm]
theorem RelP.dLot {mi : MI} {ml : ML} (R : RelP mi ml n nx c q s E B1 B2) : RelP (lotI (lcI mi ml nx c n q) (lcL ml nx n q) c n q) (lotL (lcL ml nx n q) c n q) (nP ml nx n q) (nxP nx) (cP c) (lotZ q) s E B1 B2 := by
  have hx := R.nx20
  have z96 : lcL ml nx n q 96 = ml 96 := lcL_hi hx (by decide)
  have hA := R.lotB z96
  have hh : lotH (lcL ml nx n q 96 0) q = lotHC (ml 1 0) q := by rw [z96, R.h0, lotH_eq]
  have hs : u2 (remL ml nx n) 1 0 (lotHC (ml 1 0) q) 1 0 = lotHC (ml 1 0) q := by rw [u2_s, uf_s]
  unfold lotI lotL nP
  rw [hA, hh]
  by_cases e : putA (u2 (remL ml nx n) 1 0 (lotHC (ml 1 0) q)) n = true
  · rw [if_pos e, if_pos e, if_pos e]
    have c1 : lcI mi ml nx c n q = u2 (u2 (u2 (remI mi nx c n) 94 0 (nI (lotZ q))) 3 n (nI 0)) 1 2 (nI (n + 1)) := by unfold lcI putI; rw [if_pos e]
    have c2 : lcL ml nx n q = u2 (u2 (remL ml nx n) 1 0 (lotHC (ml 1 0) q)) 2 n (lotHC (ml 1 0) q) := by unfold lcL putL; rw [if_pos e, hs]
    rw [c1, c2]
    have hn := putA_lt e
    refine R.lotYes hn _ (lotZ_lt q) (fun j hj => ?_)
    unfold putA at e
    simp only [Bool.and_eq_true, decide_eq_true_eq] at e
    have h2 := of_decide_eq_false (fromB_none (by omega) e.2 j hj)
    rw [hs, u2_n _ _ _ (by decide), remL_n _ (by omega) (by omega)] at h2
    exact h2
  · rw [if_neg e, if_neg e, if_neg e]
    have c1 : lcI mi ml nx c n q = u2 (remI mi nx c n) 94 0 (nI (lotZ q)) := by unfold lcI putI; rw [if_neg e]
    have c2 : lcL ml nx n q = u2 (remL ml nx n) 1 0 (lotHC (ml 1 0) q) := by unfold lcL putL; rw [if_neg e]
    rw [c1, c2]
    exact R.lotNo _ (lotZ_lt q)
theorem lot_step {a b : MI} {a' b' : ML} (ih : ∀ (M : MI) (Z : ML), (∀ t, t < 95 → M t = a t) → (∀ t, 95 ≤ t → M t = b t) → (∀ t, t < 95 → Z t = a' t) → (∀ t, 95 ≤ t → Z t = b' t) → RelP M Z n nx c q s E B1 B2) :
    (∀ (M : MI) (Z : ML), (∀ t, t < 95 → M t = lcI a a' nx c n q t) → (∀ t, 95 ≤ t → M t = lotI b b' c n q t) → (∀ t, t < 95 → Z t = lcL a' nx n q t) → (∀ t, 95 ≤ t → Z t = lotL b' c n q t) → RelP M Z (nP a' nx n q) (nxP nx) (cP c) (lotZ q) s E B1 B2) ∧ (if c = 20 then 20 else c + 1) = cP c ∧ (if lotA b' n q then n + 1 else n) = nP a' nx n q := by
  obtain ⟨M0, hM0⟩ : ∃ M0 : MI, M0 = fun t => if t < 95 then a t else b t := ⟨_, rfl⟩
  obtain ⟨Z0, hZ0⟩ : ∃ Z0 : ML, Z0 = fun t => if t < 95 then a' t else b' t := ⟨_, rfl⟩
  have m1 : ∀ t, t < 95 → M0 t = a t := fun t h => by rw [hM0]; exact if_pos h
  have m2 : ∀ t, 95 ≤ t → M0 t = b t := fun t h => by rw [hM0]; exact if_neg (by omega)
  have z1 : ∀ t, t < 95 → Z0 t = a' t := fun t h => by rw [hZ0]; exact if_pos h
  have z2 : ∀ t, 95 ≤ t → Z0 t = b' t := fun t h => by rw [hZ0]; exact if_neg (by omega)
  have R0 := ih M0 Z0 m1 m2 z1 z2
  have hx := R0.nx20
  have R1 := R0.dLot
  have eN : nP Z0 nx n q = nP a' nx n q := nP_S (S := fun t => t < 95) z1 (by decide) (by decide)
  refine ⟨fun M Z h1 h2 h3 h4 => ?_, cP_if R0.c20, ?_⟩
  · have eM : M = lotI (lcI M0 Z0 nx c n q) (lcL Z0 nx n q) c n q := by
      funext t
      rcases Nat.lt_or_ge t 95 with h | h
      · rw [h1 t h, lotI_lo h, lcI_S (S := fun t => t < 95) m1 z1 (by decide) (by decide) (by decide) t h]
      · rw [h2 t h]
        exact lotI_S (S := fun t => 95 ≤ t) (fun u hu => by rw [lcI_hi hx hu, m2 u hu]) (fun u hu => by rw [lcL_hi hx hu, z2 u hu]) (by decide) (by decide) t h
    have eZ : Z = lotL (lcL Z0 nx n q) c n q := by
      funext t
      rcases Nat.lt_or_ge t 95 with h | h
      · rw [h3 t h, lotL_lo h, lcL_S (S := fun t => t < 95) z1 (by decide) (by decide) t h]
      · rw [h4 t h]
        exact lotL_S (S := fun t => 95 ≤ t) (fun u hu => by rw [lcL_hi hx hu, z2 u hu]) (by decide) t h
    rw [eM, eZ, ← eN]; exact R1
  · rw [← eN, ← lotA_S (S := fun t => 95 ≤ t) z2 (by decide), R0.lotB rfl]; rfl
theorem RelP.drf {mi m2 : MI} {ml z2 : ML} (R : RelP mi ml n nx c q s E B1 B2) (hm : ∀ t, 95 ≤ t → m2 t = mi t) (hz : ∀ t, 95 ≤ t → z2 t = ml t) : ∀ i, (∀ (M : MI) (Z : ML), (∀ t, t < 95 → M t = (dcS mi ml nx c n q i).1 t) → (∀ t, 95 ≤ t → M t = (drS m2 z2 c n q i).1 t) → (∀ t, t < 95 → Z t = (dcS mi ml nx c n q i).2.1 t) → (∀ t, 95 ≤ t → Z t = (drS m2 z2 c n q i).2.1 t) → RelP M Z (dcS mi ml nx c n q i).2.2.2.2.1 (dcS mi ml nx c n q i).2.2.1 (dcS mi ml nx c n q i).2.2.2.1 (dcS mi ml nx c n q i).2.2.2.2.2 s E B1 B2) ∧ (drS m2 z2 c n q i).2.2.1 = (dcS mi ml nx c n q i).2.2.2.1 ∧ (drS m2 z2 c n q i).2.2.2.1 = (dcS mi ml nx c n q i).2.2.2.2.1 ∧ (drS m2 z2 c n q i).2.2.2.2 = (dcS mi ml nx c n q i).2.2.2.2.2
  | 0 => by
    refine ⟨fun M Z h1 h2 h3 h4 => ?_, rfl, rfl, rfl⟩
    have eM : M = mi := by
      funext t
      rcases Nat.lt_or_ge t 95 with h | h
      · exact h1 t h
      · exact (h2 t h).trans (hm t h)
    have eZ : Z = ml := by
      funext t
      rcases Nat.lt_or_ge t 95 with h | h
      · exact h3 t h
      · exact (h4 t h).trans (hz t h)
    rw [eM, eZ]; exact R
  | i + 1 => by
    obtain ⟨ih, hc, hn, hq⟩ := RelP.drf R hm hz i
    obtain ⟨g1, g2, g3⟩ := lot_step ih
    have d1 : (drS m2 z2 c n q (i + 1)).1 = lotI (drS m2 z2 c n q i).1 (drS m2 z2 c n q i).2.1 (dcS mi ml nx c n q i).2.2.2.1 (dcS mi ml nx c n q i).2.2.2.2.1 (dcS mi ml nx c n q i).2.2.2.2.2 := by rw [← hc, ← hn, ← hq]; rfl
    have d2 : (drS m2 z2 c n q (i + 1)).2.1 = lotL (drS m2 z2 c n q i).2.1 (dcS mi ml nx c n q i).2.2.2.1 (dcS mi ml nx c n q i).2.2.2.2.1 (dcS mi ml nx c n q i).2.2.2.2.2 := by rw [← hc, ← hn, ← hq]; rfl
    have d3 : (drS m2 z2 c n q (i + 1)).2.2.1 = (if (dcS mi ml nx c n q i).2.2.2.1 = 20 then 20 else (dcS mi ml nx c n q i).2.2.2.1 + 1) := by rw [← hc]; rfl
    have d4 : (drS m2 z2 c n q (i + 1)).2.2.2.1 = (if lotA (drS m2 z2 c n q i).2.1 (dcS mi ml nx c n q i).2.2.2.2.1 (dcS mi ml nx c n q i).2.2.2.2.2 then (dcS mi ml nx c n q i).2.2.2.2.1 + 1 else (dcS mi ml nx c n q i).2.2.2.2.1) := by rw [← hn, ← hq]; rfl
    have d5 : (drS m2 z2 c n q (i + 1)).2.2.2.2 = lotZ (dcS mi ml nx c n q i).2.2.2.2.2 := by rw [← hq]; rfl
    refine ⟨fun M Z h1 h2 h3 h4 => g1 M Z h1 (fun t ht => by rw [h2 t ht, d1]) h3 (fun t ht => by rw [h4 t ht, d2]), d3.trans g2, d4.trans g3, d5⟩
theorem drS_lo {m : MI} {z : ML} {t : Nat} (ht : t < 95) : ∀ i, (drS m z c n q i).1 t = m t ∧ (drS m z c n q i).2.1 t = z t
  | 0 => ⟨rfl, rfl⟩
  | i + 1 => by
    obtain ⟨h1, h2⟩ := drS_lo (m := m) (z := z) ht i
    exact ⟨(lotI_lo ht).trans h1, (lotL_lo ht).trans h2⟩
theorem dcS_hi {mi : MI} {ml : ML} (h : okC mi nx c n q) {t : Nat} (ht : 95 ≤ t) : ∀ i, (dcS mi ml nx c n q i).1 t = mi t ∧ (dcS mi ml nx c n q i).2.1 t = ml t
  | 0 => ⟨rfl, rfl⟩
  | i + 1 => by
    obtain ⟨h1, h2⟩ := dcS_hi (ml := ml) h ht i
    have hx := (dc_ok (ml := ml) h i).2.1
    exact ⟨(lcI_hi hx ht).trans h1, (lcL_hi hx ht).trans h2⟩
theorem RelP.okc {mi : MI} {ml : ML} (R : RelP mi ml n nx c q s E B1 B2) : okC mi nx c n q := ⟨R.hnx, R.nx20, R.hc, R.c20, R.hn, R.n40, R.2.2.2.2.1.2.1, R.2.2.2.2.1.1⟩
theorem RelP.dDrift {mi : MI} {ml : ML} (R : RelP mi ml n nx c q s E B1 B2) (k : Nat) : RelP (drS (dcS mi ml nx c n q k).1 (dcS mi ml nx c n q k).2.1 c n q k).1 (drS (dcS mi ml nx c n q k).1 (dcS mi ml nx c n q k).2.1 c n q k).2.1 (dcS mi ml nx c n q k).2.2.2.2.1 (dcS mi ml nx c n q k).2.2.1 (dcS mi ml nx c n q k).2.2.2.1 (dcS mi ml nx c n q k).2.2.2.2.2 s E B1 B2 ∧ (drS (dcS mi ml nx c n q k).1 (dcS mi ml nx c n q k).2.1 c n q k).2.2.2.1 = (dcS mi ml nx c n q k).2.2.2.2.1 := by
  obtain ⟨h1, h2, h3, h4⟩ := R.drf (m2 := (dcS mi ml nx c n q k).1) (z2 := (dcS mi ml nx c n q k).2.1) (fun t ht => (dcS_hi R.okc ht k).1) (fun t ht => (dcS_hi R.okc ht k).2) k
  exact ⟨h1 _ _ (fun t ht => (drS_lo ht k).1) (fun t _ => rfl) (fun t ht => (drS_lo ht k).2) (fun t _ => rfl), h3⟩
end DRIFT
end
