section
/-- a private method of a class that the tables say can be made, by its rows of tables_1 -/
def lw_okq (q : MethodName × Nat) : Prop := (q.1.cls ≠ "java/lang/invoke/MethodHandle" ∧ q.1.cls ≠ "java/lang/invoke/VarHandle") ∧ Cond.instantiable q.1.cls q.2 ∈ tables_1 ∧ Cond.privateMethod q.1 ∈ tables_1 ∧ Cond.instanceMethod q.1 ∈ tables_1
theorem lw_p0 : lw_okq (⟨"NearMarks", "countLookedAt", "(I)I"⟩, 10) := ⟨⟨by decide +kernel, by decide +kernel⟩, List.mem_of_getElem? (i := 16) (by decide +kernel), List.mem_of_getElem? (i := 252) (by decide +kernel), List.mem_of_getElem? (i := 253) (by decide +kernel)⟩
theorem lw_p1 : lw_okq (⟨"NearMarks", "leastDistance", "()I"⟩, 10) := ⟨⟨by decide +kernel, by decide +kernel⟩, List.mem_of_getElem? (i := 16) (by decide +kernel), List.mem_of_getElem? (i := 280) (by decide +kernel), List.mem_of_getElem? (i := 281) (by decide +kernel)⟩
theorem lw_p2 : lw_okq (⟨"NearMarks", "countOthersWithin", "(II)I"⟩, 10) := ⟨⟨by decide +kernel, by decide +kernel⟩, List.mem_of_getElem? (i := 16) (by decide +kernel), List.mem_of_getElem? (i := 371) (by decide +kernel), List.mem_of_getElem? (i := 372) (by decide +kernel)⟩
theorem lw_p3 : lw_okq (⟨"NearMarks", "countWithPart", "(J)I"⟩, 10) := ⟨⟨by decide +kernel, by decide +kernel⟩, List.mem_of_getElem? (i := 16) (by decide +kernel), List.mem_of_getElem? (i := 380) (by decide +kernel), List.mem_of_getElem? (i := 381) (by decide +kernel)⟩
theorem lw_p4 : lw_okq (⟨"NearMarks", "changeHandByDraws", "()V"⟩, 10) := ⟨⟨by decide +kernel, by decide +kernel⟩, List.mem_of_getElem? (i := 16) (by decide +kernel), List.mem_of_getElem? (i := 469) (by decide +kernel), List.mem_of_getElem? (i := 470) (by decide +kernel)⟩
theorem lw_p5 : lw_okq (⟨"NearMarks", "putIfUnlikeAll", "()V"⟩, 10) := ⟨⟨by decide +kernel, by decide +kernel⟩, List.mem_of_getElem? (i := 16) (by decide +kernel), List.mem_of_getElem? (i := 486) (by decide +kernel), List.mem_of_getElem? (i := 487) (by decide +kernel)⟩
theorem lw_p6 : lw_okq (⟨"NearMarks", "isNear", "(II)Z"⟩, 10) := ⟨⟨by decide +kernel, by decide +kernel⟩, List.mem_of_getElem? (i := 16) (by decide +kernel), List.mem_of_getElem? (i := 505) (by decide +kernel), List.mem_of_getElem? (i := 506) (by decide +kernel)⟩
theorem lw_p7 : lw_okq (⟨"NearMarks", "countAllLooks", "(LNearMarks$Parts;)I"⟩, 10) := ⟨⟨by decide +kernel, by decide +kernel⟩, List.mem_of_getElem? (i := 16) (by decide +kernel), List.mem_of_getElem? (i := 574) (by decide +kernel), List.mem_of_getElem? (i := 575) (by decide +kernel)⟩
theorem lw_p8 : lw_okq (⟨"NearMarksModel", "marks", "()I"⟩, 19) := ⟨⟨by decide +kernel, by decide +kernel⟩, List.mem_of_getElem? (i := 615) (by decide +kernel), List.mem_of_getElem? (i := 685) (by decide +kernel), List.mem_of_getElem? (i := 686) (by decide +kernel)⟩
theorem lw_p9 : lw_okq (⟨"NearMarksModel", "parts", "()I"⟩, 19) := ⟨⟨by decide +kernel, by decide +kernel⟩, List.mem_of_getElem? (i := 615) (by decide +kernel), List.mem_of_getElem? (i := 689) (by decide +kernel), List.mem_of_getElem? (i := 690) (by decide +kernel)⟩
theorem lw_p10 : lw_okq (⟨"NearMarksModel", "like", "(J)I"⟩, 19) := ⟨⟨by decide +kernel, by decide +kernel⟩, List.mem_of_getElem? (i := 615) (by decide +kernel), List.mem_of_getElem? (i := 696) (by decide +kernel), List.mem_of_getElem? (i := 697) (by decide +kernel)⟩
theorem lw_p11 : lw_okq (⟨"NearMarksModel", "own", "(I)J"⟩, 19) := ⟨⟨by decide +kernel, by decide +kernel⟩, List.mem_of_getElem? (i := 615) (by decide +kernel), List.mem_of_getElem? (i := 700) (by decide +kernel), List.mem_of_getElem? (i := 701) (by decide +kernel)⟩
theorem lw_p12 : lw_okq (⟨"NearMarksModel", "looked", "(Z)I"⟩, 19) := ⟨⟨by decide +kernel, by decide +kernel⟩, List.mem_of_getElem? (i := 615) (by decide +kernel), List.mem_of_getElem? (i := 704) (by decide +kernel), List.mem_of_getElem? (i := 705) (by decide +kernel)⟩
theorem lw_p13 : lw_okq (⟨"NearMarksModel", "off", "(I)I"⟩, 19) := ⟨⟨by decide +kernel, by decide +kernel⟩, List.mem_of_getElem? (i := 615) (by decide +kernel), List.mem_of_getElem? (i := 714) (by decide +kernel), List.mem_of_getElem? (i := 715) (by decide +kernel)⟩
theorem lw_p14 : lw_okq (⟨"NearMarksModel", "first", "(Z)I"⟩, 19) := ⟨⟨by decide +kernel, by decide +kernel⟩, List.mem_of_getElem? (i := 615) (by decide +kernel), List.mem_of_getElem? (i := 718) (by decide +kernel), List.mem_of_getElem? (i := 719) (by decide +kernel)⟩
theorem lw_p15 : lw_okq (⟨"NearMarksModel", "nearestOf", "(I)I"⟩, 19) := ⟨⟨by decide +kernel, by decide +kernel⟩, List.mem_of_getElem? (i := 615) (by decide +kernel), List.mem_of_getElem? (i := 722) (by decide +kernel), List.mem_of_getElem? (i := 723) (by decide +kernel)⟩
def lw_privs_1 : List (MethodName × Nat) := [(⟨"NearMarks", "countLookedAt", "(I)I"⟩, 10), (⟨"NearMarks", "leastDistance", "()I"⟩, 10), (⟨"NearMarks", "countOthersWithin", "(II)I"⟩, 10), (⟨"NearMarks", "countWithPart", "(J)I"⟩, 10), (⟨"NearMarks", "changeHandByDraws", "()V"⟩, 10), (⟨"NearMarks", "putIfUnlikeAll", "()V"⟩, 10), (⟨"NearMarks", "isNear", "(II)Z"⟩, 10), (⟨"NearMarks", "countAllLooks", "(LNearMarks$Parts;)I"⟩, 10), (⟨"NearMarksModel", "marks", "()I"⟩, 19), (⟨"NearMarksModel", "parts", "()I"⟩, 19), (⟨"NearMarksModel", "like", "(J)I"⟩, 19), (⟨"NearMarksModel", "own", "(I)J"⟩, 19), (⟨"NearMarksModel", "looked", "(Z)I"⟩, 19), (⟨"NearMarksModel", "off", "(I)I"⟩, 19), (⟨"NearMarksModel", "first", "(Z)I"⟩, 19), (⟨"NearMarksModel", "nearestOf", "(I)I"⟩, 19)]
theorem lw_r1 : ∀ q ∈ lw_privs_1, lw_okq q := List.forall_mem_cons.mpr ⟨lw_p0, List.forall_mem_cons.mpr ⟨lw_p1, List.forall_mem_cons.mpr ⟨lw_p2, List.forall_mem_cons.mpr ⟨lw_p3, List.forall_mem_cons.mpr ⟨lw_p4, List.forall_mem_cons.mpr ⟨lw_p5, List.forall_mem_cons.mpr ⟨lw_p6, List.forall_mem_cons.mpr ⟨lw_p7, List.forall_mem_cons.mpr ⟨lw_p8, List.forall_mem_cons.mpr ⟨lw_p9, List.forall_mem_cons.mpr ⟨lw_p10, List.forall_mem_cons.mpr ⟨lw_p11, List.forall_mem_cons.mpr ⟨lw_p12, List.forall_mem_cons.mpr ⟨lw_p13, List.forall_mem_cons.mpr ⟨lw_p14, List.forall_mem_cons.mpr ⟨lw_p15, fun _ h => absurd h List.not_mem_nil⟩⟩⟩⟩⟩⟩⟩⟩⟩⟩⟩⟩⟩⟩⟩⟩
theorem lw_p16 : lw_okq (⟨"NearMarksModel", "ahead", "(I)I"⟩, 19) := ⟨⟨by decide +kernel, by decide +kernel⟩, List.mem_of_getElem? (i := 615) (by decide +kernel), List.mem_of_getElem? (i := 726) (by decide +kernel), List.mem_of_getElem? (i := 727) (by decide +kernel)⟩
theorem lw_p17 : lw_okq (⟨"NearMarksModel", "dead", "()I"⟩, 19) := ⟨⟨by decide +kernel, by decide +kernel⟩, List.mem_of_getElem? (i := 615) (by decide +kernel), List.mem_of_getElem? (i := 730) (by decide +kernel), List.mem_of_getElem? (i := 731) (by decide +kernel)⟩
theorem lw_p18 : lw_okq (⟨"NearMarksModel", "isDead", "(I)Z"⟩, 19) := ⟨⟨by decide +kernel, by decide +kernel⟩, List.mem_of_getElem? (i := 615) (by decide +kernel), List.mem_of_getElem? (i := 734) (by decide +kernel), List.mem_of_getElem? (i := 735) (by decide +kernel)⟩
theorem lw_p19 : lw_okq (⟨"NearMarksModel", "together", "()I"⟩, 19) := ⟨⟨by decide +kernel, by decide +kernel⟩, List.mem_of_getElem? (i := 615) (by decide +kernel), List.mem_of_getElem? (i := 738) (by decide +kernel), List.mem_of_getElem? (i := 739) (by decide +kernel)⟩
theorem lw_p20 : lw_okq (⟨"NearMarksModel", "areTogether", "(II)Z"⟩, 19) := ⟨⟨by decide +kernel, by decide +kernel⟩, List.mem_of_getElem? (i := 615) (by decide +kernel), List.mem_of_getElem? (i := 742) (by decide +kernel), List.mem_of_getElem? (i := 743) (by decide +kernel)⟩
theorem lw_p21 : lw_okq (⟨"NearMarksModel", "could", "(Z)I"⟩, 19) := ⟨⟨by decide +kernel, by decide +kernel⟩, List.mem_of_getElem? (i := 615) (by decide +kernel), List.mem_of_getElem? (i := 746) (by decide +kernel), List.mem_of_getElem? (i := 747) (by decide +kernel)⟩
theorem lw_p22 : lw_okq (⟨"NearMarksModel", "couldBe", "(I)Z"⟩, 19) := ⟨⟨by decide +kernel, by decide +kernel⟩, List.mem_of_getElem? (i := 615) (by decide +kernel), List.mem_of_getElem? (i := 750) (by decide +kernel), List.mem_of_getElem? (i := 751) (by decide +kernel)⟩
theorem lw_p23 : lw_okq (⟨"NearMarksModel", "asked", "()I"⟩, 19) := ⟨⟨by decide +kernel, by decide +kernel⟩, List.mem_of_getElem? (i := 615) (by decide +kernel), List.mem_of_getElem? (i := 754) (by decide +kernel), List.mem_of_getElem? (i := 755) (by decide +kernel)⟩
theorem lw_p24 : lw_okq (⟨"NearMarksModel", "wrong", "()I"⟩, 19) := ⟨⟨by decide +kernel, by decide +kernel⟩, List.mem_of_getElem? (i := 615) (by decide +kernel), List.mem_of_getElem? (i := 758) (by decide +kernel), List.mem_of_getElem? (i := 759) (by decide +kernel)⟩
theorem lw_p25 : lw_okq (⟨"NearMarksModel", "isMark", "(I)Z"⟩, 19) := ⟨⟨by decide +kernel, by decide +kernel⟩, List.mem_of_getElem? (i := 615) (by decide +kernel), List.mem_of_getElem? (i := 762) (by decide +kernel), List.mem_of_getElem? (i := 763) (by decide +kernel)⟩
theorem lw_p26 : lw_okq (⟨"NearMarksModel", "beginOf", "(I)I"⟩, 19) := ⟨⟨by decide +kernel, by decide +kernel⟩, List.mem_of_getElem? (i := 615) (by decide +kernel), List.mem_of_getElem? (i := 787) (by decide +kernel), List.mem_of_getElem? (i := 788) (by decide +kernel)⟩
theorem lw_p27 : lw_okq (⟨"NearMarksModel", "endOf", "(I)I"⟩, 19) := ⟨⟨by decide +kernel, by decide +kernel⟩, List.mem_of_getElem? (i := 615) (by decide +kernel), List.mem_of_getElem? (i := 791) (by decide +kernel), List.mem_of_getElem? (i := 792) (by decide +kernel)⟩
theorem lw_p28 : lw_okq (⟨"NearMarksModel", "have", "(I)I"⟩, 19) := ⟨⟨by decide +kernel, by decide +kernel⟩, List.mem_of_getElem? (i := 615) (by decide +kernel), List.mem_of_getElem? (i := 795) (by decide +kernel), List.mem_of_getElem? (i := 796) (by decide +kernel)⟩
theorem lw_p29 : lw_okq (⟨"NearMarksModel", "note", "()V"⟩, 19) := ⟨⟨by decide +kernel, by decide +kernel⟩, List.mem_of_getElem? (i := 615) (by decide +kernel), List.mem_of_getElem? (i := 805) (by decide +kernel), List.mem_of_getElem? (i := 806) (by decide +kernel)⟩
theorem lw_p30 : lw_okq (⟨"NearMarksModel", "lay", "([J[II)V"⟩, 19) := ⟨⟨by decide +kernel, by decide +kernel⟩, List.mem_of_getElem? (i := 615) (by decide +kernel), List.mem_of_getElem? (i := 809) (by decide +kernel), List.mem_of_getElem? (i := 810) (by decide +kernel)⟩
theorem lw_p31 : lw_okq (⟨"NearMarksModel", "row", "()I"⟩, 19) := ⟨⟨by decide +kernel, by decide +kernel⟩, List.mem_of_getElem? (i := 615) (by decide +kernel), List.mem_of_getElem? (i := 823) (by decide +kernel), List.mem_of_getElem? (i := 824) (by decide +kernel)⟩
def lw_privs_2 : List (MethodName × Nat) := [(⟨"NearMarksModel", "ahead", "(I)I"⟩, 19), (⟨"NearMarksModel", "dead", "()I"⟩, 19), (⟨"NearMarksModel", "isDead", "(I)Z"⟩, 19), (⟨"NearMarksModel", "together", "()I"⟩, 19), (⟨"NearMarksModel", "areTogether", "(II)Z"⟩, 19), (⟨"NearMarksModel", "could", "(Z)I"⟩, 19), (⟨"NearMarksModel", "couldBe", "(I)Z"⟩, 19), (⟨"NearMarksModel", "asked", "()I"⟩, 19), (⟨"NearMarksModel", "wrong", "()I"⟩, 19), (⟨"NearMarksModel", "isMark", "(I)Z"⟩, 19), (⟨"NearMarksModel", "beginOf", "(I)I"⟩, 19), (⟨"NearMarksModel", "endOf", "(I)I"⟩, 19), (⟨"NearMarksModel", "have", "(I)I"⟩, 19), (⟨"NearMarksModel", "note", "()V"⟩, 19), (⟨"NearMarksModel", "lay", "([J[II)V"⟩, 19), (⟨"NearMarksModel", "row", "()I"⟩, 19)]
theorem lw_r2 : ∀ q ∈ lw_privs_2, lw_okq q := List.forall_mem_cons.mpr ⟨lw_p16, List.forall_mem_cons.mpr ⟨lw_p17, List.forall_mem_cons.mpr ⟨lw_p18, List.forall_mem_cons.mpr ⟨lw_p19, List.forall_mem_cons.mpr ⟨lw_p20, List.forall_mem_cons.mpr ⟨lw_p21, List.forall_mem_cons.mpr ⟨lw_p22, List.forall_mem_cons.mpr ⟨lw_p23, List.forall_mem_cons.mpr ⟨lw_p24, List.forall_mem_cons.mpr ⟨lw_p25, List.forall_mem_cons.mpr ⟨lw_p26, List.forall_mem_cons.mpr ⟨lw_p27, List.forall_mem_cons.mpr ⟨lw_p28, List.forall_mem_cons.mpr ⟨lw_p29, List.forall_mem_cons.mpr ⟨lw_p30, List.forall_mem_cons.mpr ⟨lw_p31, fun _ h => absurd h List.not_mem_nil⟩⟩⟩⟩⟩⟩⟩⟩⟩⟩⟩⟩⟩⟩⟩⟩
theorem lw_p32 : lw_okq (⟨"NearMarksModel", "add", "(I)V"⟩, 19) := ⟨⟨by decide +kernel, by decide +kernel⟩, List.mem_of_getElem? (i := 615) (by decide +kernel), List.mem_of_getElem? (i := 842) (by decide +kernel), List.mem_of_getElem? (i := 843) (by decide +kernel)⟩
theorem lw_p33 : lw_okq (⟨"NearMarksModel", "lot", "()V"⟩, 19) := ⟨⟨by decide +kernel, by decide +kernel⟩, List.mem_of_getElem? (i := 615) (by decide +kernel), List.mem_of_getElem? (i := 863) (by decide +kernel), List.mem_of_getElem? (i := 864) (by decide +kernel)⟩
theorem lw_p34 : lw_okq (⟨"NearMarksModel", "draw", "(I)I"⟩, 19) := ⟨⟨by decide +kernel, by decide +kernel⟩, List.mem_of_getElem? (i := 615) (by decide +kernel), List.mem_of_getElem? (i := 867) (by decide +kernel), List.mem_of_getElem? (i := 868) (by decide +kernel)⟩
theorem lw_p35 : lw_okq (⟨"NearMarksModel", "become", "([J[II)V"⟩, 19) := ⟨⟨by decide +kernel, by decide +kernel⟩, List.mem_of_getElem? (i := 615) (by decide +kernel), List.mem_of_getElem? (i := 879) (by decide +kernel), List.mem_of_getElem? (i := 880) (by decide +kernel)⟩
theorem lw_p36 : lw_okq (⟨"NearMarksModel", "layGroups", "(I)I"⟩, 19) := ⟨⟨by decide +kernel, by decide +kernel⟩, List.mem_of_getElem? (i := 615) (by decide +kernel), List.mem_of_getElem? (i := 900) (by decide +kernel), List.mem_of_getElem? (i := 901) (by decide +kernel)⟩
theorem lw_p37 : lw_okq (⟨"NearMarksModel", "leastOf", "(I)I"⟩, 19) := ⟨⟨by decide +kernel, by decide +kernel⟩, List.mem_of_getElem? (i := 615) (by decide +kernel), List.mem_of_getElem? (i := 908) (by decide +kernel), List.mem_of_getElem? (i := 909) (by decide +kernel)⟩
theorem lw_p38 : lw_okq (⟨"NearMarksModel", "manyOf", "(I)I"⟩, 19) := ⟨⟨by decide +kernel, by decide +kernel⟩, List.mem_of_getElem? (i := 615) (by decide +kernel), List.mem_of_getElem? (i := 912) (by decide +kernel), List.mem_of_getElem? (i := 913) (by decide +kernel)⟩
theorem lw_p39 : lw_okq (⟨"NearMarksModel", "wide", "(I)I"⟩, 19) := ⟨⟨by decide +kernel, by decide +kernel⟩, List.mem_of_getElem? (i := 615) (by decide +kernel), List.mem_of_getElem? (i := 916) (by decide +kernel), List.mem_of_getElem? (i := 917) (by decide +kernel)⟩
def lw_privs_3 : List (MethodName × Nat) := [(⟨"NearMarksModel", "add", "(I)V"⟩, 19), (⟨"NearMarksModel", "lot", "()V"⟩, 19), (⟨"NearMarksModel", "draw", "(I)I"⟩, 19), (⟨"NearMarksModel", "become", "([J[II)V"⟩, 19), (⟨"NearMarksModel", "layGroups", "(I)I"⟩, 19), (⟨"NearMarksModel", "leastOf", "(I)I"⟩, 19), (⟨"NearMarksModel", "manyOf", "(I)I"⟩, 19), (⟨"NearMarksModel", "wide", "(I)I"⟩, 19)]
theorem lw_r3 : ∀ q ∈ lw_privs_3, lw_okq q := List.forall_mem_cons.mpr ⟨lw_p32, List.forall_mem_cons.mpr ⟨lw_p33, List.forall_mem_cons.mpr ⟨lw_p34, List.forall_mem_cons.mpr ⟨lw_p35, List.forall_mem_cons.mpr ⟨lw_p36, List.forall_mem_cons.mpr ⟨lw_p37, List.forall_mem_cons.mpr ⟨lw_p38, List.forall_mem_cons.mpr ⟨lw_p39, fun _ h => absurd h List.not_mem_nil⟩⟩⟩⟩⟩⟩⟩⟩
def lw_privs : List (MethodName × Nat) := lw_privs_1 ++ (lw_privs_2 ++ (lw_privs_3))
def lw_tbl : List Cond := k2_sels lw_privs ++ tables_1
theorem lw_privs_ok : ∀ q ∈ lw_privs, lw_okq q := by
  show ∀ q ∈ lw_privs_1 ++ (lw_privs_2 ++ (lw_privs_3)), lw_okq q
  exact List.forall_mem_append.mpr ⟨lw_r1, List.forall_mem_append.mpr ⟨lw_r2, lw_r3⟩⟩
end
section
/-! my words: those of the tables that go with a call -/
def gtbl : List Cond := lw_tbl.filter goodWord
theorem g_in {w : Cond} (h : w ∈ lw_tbl) (hg : goodWord w = true) : w ∈ gtbl := List.mem_filter.mpr ⟨h, hg⟩
theorem g_at {w : Cond} (i : Nat) (h : lw_tbl[i]? = some w) (hg : goodWord w = true) : w ∈ gtbl := g_in (List.mem_of_getElem? h) hg
def CR0 : String := "NearMarks$Book"
def CT0 : u_T := fun k => match k with
  | 0 => ("NearMarks$Book", "ones", "[I", true)
  | 1 => ("NearMarks$Book", "others", "[I", true)
  | 2 => ("NearMarks$Book", "distances", "[I", true)
  | _ => ("NearMarks$Book", "count", "I", false)
def CY0 : Nat → FieldType := fun k => match k with
  | 0 => .array .int
  | 1 => .array .int
  | 2 => .array .int
  | _ => .int
theorem CN0 : ∀ a, a < 4 → ∀ b, b < 4 → a ≠ b → (CT0 a).2.1 ≠ (CT0 b).2.1 := by decide +kernel
theorem CYok0 : ∀ k, k < 4 → parseFieldDescriptor (CT0 k).2.2.1 = some (CY0 k) := by decide +kernel
theorem CW0_0 : u_lay CR0 CT0 0 ∈ gtbl := g_at 226 (by decide +kernel) (by decide +kernel)
theorem CW0_1 : u_lay CR0 CT0 1 ∈ gtbl := g_at 228 (by decide +kernel) (by decide +kernel)
theorem CW0_2 : u_lay CR0 CT0 2 ∈ gtbl := g_at 230 (by decide +kernel) (by decide +kernel)
theorem CW0_3 : u_lay CR0 CT0 3 ∈ gtbl := g_at 232 (by decide +kernel) (by decide +kernel)
theorem CI0 : ∀ w ∈ u_ws CR0 CT0 4, w ∈ gtbl := by
  intro w hw
  obtain ⟨k, hk, rfl⟩ := List.mem_map.mp hw
  have hk := List.mem_range.mp hk
  match k, hk with
  | 0, _ => exact CW0_0
  | 1, _ => exact CW0_1
  | 2, _ => exact CW0_2
  | 3, _ => exact CW0_3
def CR1 : String := "NearMarks$Columns"
def CT1 : u_T := fun k => match k with
  | 0 => ("NearMarks$Columns", "sets", "[J", true)
  | _ => ("NearMarks$Columns", "all", "J", false)
def CY1 : Nat → FieldType := fun k => match k with
  | 0 => .array .long
  | _ => .long
theorem CN1 : ∀ a, a < 2 → ∀ b, b < 2 → a ≠ b → (CT1 a).2.1 ≠ (CT1 b).2.1 := by decide +kernel
theorem CYok1 : ∀ k, k < 2 → parseFieldDescriptor (CT1 k).2.2.1 = some (CY1 k) := by decide +kernel
theorem CW1_0 : u_lay CR1 CT1 0 ∈ gtbl := g_at 190 (by decide +kernel) (by decide +kernel)
theorem CW1_1 : u_lay CR1 CT1 1 ∈ gtbl := g_at 192 (by decide +kernel) (by decide +kernel)
theorem CI1 : ∀ w ∈ u_ws CR1 CT1 2, w ∈ gtbl := by
  intro w hw
  obtain ⟨k, hk, rfl⟩ := List.mem_map.mp hw
  have hk := List.mem_range.mp hk
  match k, hk with
  | 0, _ => exact CW1_0
  | 1, _ => exact CW1_1
def CR2 : String := "NearMarks$Draws"
def CT2 : u_T := fun k => match k with
  | _ => ("NearMarks$Draws", "state", "I", false)
def CY2 : Nat → FieldType := fun k => match k with
  | _ => .int
theorem CN2 : ∀ a, a < 1 → ∀ b, b < 1 → a ≠ b → (CT2 a).2.1 ≠ (CT2 b).2.1 := by decide +kernel
theorem CYok2 : ∀ k, k < 1 → parseFieldDescriptor (CT2 k).2.2.1 = some (CY2 k) := by decide +kernel
theorem CW2_0 : u_lay CR2 CT2 0 ∈ gtbl := g_at 243 (by decide +kernel) (by decide +kernel)
theorem CI2 : ∀ w ∈ u_ws CR2 CT2 1, w ∈ gtbl := by
  intro w hw
  obtain ⟨k, hk, rfl⟩ := List.mem_map.mp hw
  have hk := List.mem_range.mp hk
  match k, hk with
  | 0, _ => exact CW2_0
def CR3 : String := "NearMarks$Grouping"
def CT3 : u_T := fun k => match k with
  | 0 => ("NearMarks$Grouping", "sets", "[J", true)
  | 1 => ("NearMarks$Grouping", "close", "[J", true)
  | _ => ("NearMarks$Grouping", "count", "I", false)
def CY3 : Nat → FieldType := fun k => match k with
  | 0 => .array .long
  | 1 => .array .long
  | _ => .int
theorem CN3 : ∀ a, a < 3 → ∀ b, b < 3 → a ≠ b → (CT3 a).2.1 ≠ (CT3 b).2.1 := by decide +kernel
theorem CYok3 : ∀ k, k < 3 → parseFieldDescriptor (CT3 k).2.2.1 = some (CY3 k) := by decide +kernel
theorem CW3_0 : u_lay CR3 CT3 0 ∈ gtbl := g_at 175 (by decide +kernel) (by decide +kernel)
theorem CW3_1 : u_lay CR3 CT3 1 ∈ gtbl := g_at 177 (by decide +kernel) (by decide +kernel)
theorem CW3_2 : u_lay CR3 CT3 2 ∈ gtbl := g_at 179 (by decide +kernel) (by decide +kernel)
theorem CI3 : ∀ w ∈ u_ws CR3 CT3 3, w ∈ gtbl := by
  intro w hw
  obtain ⟨k, hk, rfl⟩ := List.mem_map.mp hw
  have hk := List.mem_range.mp hk
  match k, hk with
  | 0, _ => exact CW3_0
  | 1, _ => exact CW3_1
  | 2, _ => exact CW3_2
def CR4 : String := "NearMarks$Image"
def CT4 : u_T := fun k => match k with
  | 0 => ("NearMarks$Image", "state", "LNearMarks$State;", true)
  | 1 => ("NearMarks$Image", "draws", "I", false)
  | _ => ("NearMarks$Image", "kept", "Z", false)
def CY4 : Nat → FieldType := fun k => match k with
  | 0 => .object "NearMarks$State"
  | 1 => .int
  | _ => .boolean
theorem CN4 : ∀ a, a < 3 → ∀ b, b < 3 → a ≠ b → (CT4 a).2.1 ≠ (CT4 b).2.1 := by decide +kernel
theorem CYok4 : ∀ k, k < 3 → parseFieldDescriptor (CT4 k).2.2.1 = some (CY4 k) := by decide +kernel
theorem CW4_0 : u_lay CR4 CT4 0 ∈ gtbl := g_at 131 (by decide +kernel) (by decide +kernel)
theorem CW4_1 : u_lay CR4 CT4 1 ∈ gtbl := g_at 133 (by decide +kernel) (by decide +kernel)
theorem CW4_2 : u_lay CR4 CT4 2 ∈ gtbl := g_at 135 (by decide +kernel) (by decide +kernel)
theorem CI4 : ∀ w ∈ u_ws CR4 CT4 3, w ∈ gtbl := by
  intro w hw
  obtain ⟨k, hk, rfl⟩ := List.mem_map.mp hw
  have hk := List.mem_range.mp hk
  match k, hk with
  | 0, _ => exact CW4_0
  | 1, _ => exact CW4_1
  | 2, _ => exact CW4_2
def CR5 : String := "NearMarks$Parts"
def CT5 : u_T := fun k => match k with
  | 0 => ("NearMarks$Parts", "firsts", "[I", true)
  | 1 => ("NearMarks$Parts", "masks", "[J", true)
  | _ => ("NearMarks$Parts", "count", "I", false)
def CY5 : Nat → FieldType := fun k => match k with
  | 0 => .array .int
  | 1 => .array .long
  | _ => .int
theorem CN5 : ∀ a, a < 3 → ∀ b, b < 3 → a ≠ b → (CT5 a).2.1 ≠ (CT5 b).2.1 := by decide +kernel
theorem CYok5 : ∀ k, k < 3 → parseFieldDescriptor (CT5 k).2.2.1 = some (CY5 k) := by decide +kernel
theorem CW5_0 : u_lay CR5 CT5 0 ∈ gtbl := g_at 150 (by decide +kernel) (by decide +kernel)
theorem CW5_1 : u_lay CR5 CT5 1 ∈ gtbl := g_at 152 (by decide +kernel) (by decide +kernel)
theorem CW5_2 : u_lay CR5 CT5 2 ∈ gtbl := g_at 154 (by decide +kernel) (by decide +kernel)
theorem CI5 : ∀ w ∈ u_ws CR5 CT5 3, w ∈ gtbl := by
  intro w hw
  obtain ⟨k, hk, rfl⟩ := List.mem_map.mp hw
  have hk := List.mem_range.mp hk
  match k, hk with
  | 0, _ => exact CW5_0
  | 1, _ => exact CW5_1
  | 2, _ => exact CW5_2
def CR6 : String := "NearMarks$Past"
def CT6 : u_T := fun k => match k with
  | 0 => ("NearMarks$Past", "ring", "[LNearMarks$State;", true)
  | 1 => ("NearMarks$Past", "next", "I", false)
  | _ => ("NearMarks$Past", "count", "I", false)
def CY6 : Nat → FieldType := fun k => match k with
  | 0 => .array (.object "NearMarks$State")
  | 1 => .int
  | _ => .int
theorem CN6 : ∀ a, a < 3 → ∀ b, b < 3 → a ≠ b → (CT6 a).2.1 ≠ (CT6 b).2.1 := by decide +kernel
theorem CYok6 : ∀ k, k < 3 → parseFieldDescriptor (CT6 k).2.2.1 = some (CY6 k) := by decide +kernel
theorem CW6_0 : u_lay CR6 CT6 0 ∈ gtbl := g_at 111 (by decide +kernel) (by decide +kernel)
theorem CW6_1 : u_lay CR6 CT6 1 ∈ gtbl := g_at 113 (by decide +kernel) (by decide +kernel)
theorem CW6_2 : u_lay CR6 CT6 2 ∈ gtbl := g_at 115 (by decide +kernel) (by decide +kernel)
theorem CI6 : ∀ w ∈ u_ws CR6 CT6 3, w ∈ gtbl := by
  intro w hw
  obtain ⟨k, hk, rfl⟩ := List.mem_map.mp hw
  have hk := List.mem_range.mp hk
  match k, hk with
  | 0, _ => exact CW6_0
  | 1, _ => exact CW6_1
  | 2, _ => exact CW6_2
def CR7 : String := "NearMarks$Sightings"
def CT7 : u_T := fun k => match k with
  | 0 => ("NearMarks$Sightings", "from", "[J", true)
  | 1 => ("NearMarks$Sightings", "distances", "[I", true)
  | 2 => ("NearMarks$Sightings", "tally", "[I", true)
  | _ => ("NearMarks$Sightings", "count", "I", false)
def CY7 : Nat → FieldType := fun k => match k with
  | 0 => .array .long
  | 1 => .array .int
  | 2 => .array .int
  | _ => .int
theorem CN7 : ∀ a, a < 4 → ∀ b, b < 4 → a ≠ b → (CT7 a).2.1 ≠ (CT7 b).2.1 := by decide +kernel
theorem CYok7 : ∀ k, k < 4 → parseFieldDescriptor (CT7 k).2.2.1 = some (CY7 k) := by decide +kernel
theorem CW7_0 : u_lay CR7 CT7 0 ∈ gtbl := g_at 206 (by decide +kernel) (by decide +kernel)
theorem CW7_1 : u_lay CR7 CT7 1 ∈ gtbl := g_at 208 (by decide +kernel) (by decide +kernel)
theorem CW7_2 : u_lay CR7 CT7 2 ∈ gtbl := g_at 210 (by decide +kernel) (by decide +kernel)
theorem CW7_3 : u_lay CR7 CT7 3 ∈ gtbl := g_at 212 (by decide +kernel) (by decide +kernel)
theorem CI7 : ∀ w ∈ u_ws CR7 CT7 4, w ∈ gtbl := by
  intro w hw
  obtain ⟨k, hk, rfl⟩ := List.mem_map.mp hw
  have hk := List.mem_range.mp hk
  match k, hk with
  | 0, _ => exact CW7_0
  | 1, _ => exact CW7_1
  | 2, _ => exact CW7_2
  | 3, _ => exact CW7_3
def CR8 : String := "NearMarks$State"
def CT8 : u_T := fun k => match k with
  | 0 => ("NearMarks$State", "inHand", "J", false)
  | 1 => ("NearMarks$State", "begins", "J", false)
  | 2 => ("NearMarks$State", "count", "I", false)
  | 3 => ("NearMarks$State", "marks", "[J", true)
  | _ => ("NearMarks$State", "kinds", "[I", true)
def CY8 : Nat → FieldType := fun k => match k with
  | 0 => .long
  | 1 => .long
  | 2 => .int
  | 3 => .array .long
  | _ => .array .int
theorem CN8 : ∀ a, a < 5 → ∀ b, b < 5 → a ≠ b → (CT8 a).2.1 ≠ (CT8 b).2.1 := by decide +kernel
theorem CYok8 : ∀ k, k < 5 → parseFieldDescriptor (CT8 k).2.2.1 = some (CY8 k) := by decide +kernel
theorem CW8_0 : u_lay CR8 CT8 0 ∈ gtbl := g_at 85 (by decide +kernel) (by decide +kernel)
theorem CW8_1 : u_lay CR8 CT8 1 ∈ gtbl := g_at 87 (by decide +kernel) (by decide +kernel)
theorem CW8_2 : u_lay CR8 CT8 2 ∈ gtbl := g_at 89 (by decide +kernel) (by decide +kernel)
theorem CW8_3 : u_lay CR8 CT8 3 ∈ gtbl := g_at 91 (by decide +kernel) (by decide +kernel)
theorem CW8_4 : u_lay CR8 CT8 4 ∈ gtbl := g_at 93 (by decide +kernel) (by decide +kernel)
theorem CI8 : ∀ w ∈ u_ws CR8 CT8 5, w ∈ gtbl := by
  intro w hw
  obtain ⟨k, hk, rfl⟩ := List.mem_map.mp hw
  have hk := List.mem_range.mp hk
  match k, hk with
  | 0, _ => exact CW8_0
  | 1, _ => exact CW8_1
  | 2, _ => exact CW8_2
  | 3, _ => exact CW8_3
  | 4, _ => exact CW8_4
def CR9 : String := "NearMarks"
def CT9 : u_T := fun k => match k with
  | 0 => ("NearMarks", "now", "LNearMarks$State;", true)
  | 1 => ("NearMarks", "past", "LNearMarks$Past;", true)
  | 2 => ("NearMarks", "images", "[LNearMarks$Image;", true)
  | 3 => ("NearMarks", "parts", "LNearMarks$Parts;", true)
  | 4 => ("NearMarks", "trial", "LNearMarks$Parts;", true)
  | 5 => ("NearMarks", "grouping", "LNearMarks$Grouping;", true)
  | 6 => ("NearMarks", "columns", "LNearMarks$Columns;", true)
  | 7 => ("NearMarks", "sightings", "LNearMarks$Sightings;", true)
  | 8 => ("NearMarks", "book", "LNearMarks$Book;", true)
  | _ => ("NearMarks", "draws", "LNearMarks$Draws;", true)
def CY9 : Nat → FieldType := fun k => match k with
  | 0 => .object "NearMarks$State"
  | 1 => .object "NearMarks$Past"
  | 2 => .array (.object "NearMarks$Image")
  | 3 => .object "NearMarks$Parts"
  | 4 => .object "NearMarks$Parts"
  | 5 => .object "NearMarks$Grouping"
  | 6 => .object "NearMarks$Columns"
  | 7 => .object "NearMarks$Sightings"
  | 8 => .object "NearMarks$Book"
  | _ => .object "NearMarks$Draws"
theorem CN9 : ∀ a, a < 10 → ∀ b, b < 10 → a ≠ b → (CT9 a).2.1 ≠ (CT9 b).2.1 := by decide +kernel
theorem CYok9 : ∀ k, k < 10 → parseFieldDescriptor (CT9 k).2.2.1 = some (CY9 k) := by decide +kernel
theorem CW9_0 : u_lay CR9 CT9 0 ∈ gtbl := g_at 256 (by decide +kernel) (by decide +kernel)
theorem CW9_1 : u_lay CR9 CT9 1 ∈ gtbl := g_at 258 (by decide +kernel) (by decide +kernel)
theorem CW9_2 : u_lay CR9 CT9 2 ∈ gtbl := g_at 260 (by decide +kernel) (by decide +kernel)
theorem CW9_3 : u_lay CR9 CT9 3 ∈ gtbl := g_at 262 (by decide +kernel) (by decide +kernel)
theorem CW9_4 : u_lay CR9 CT9 4 ∈ gtbl := g_at 264 (by decide +kernel) (by decide +kernel)
theorem CW9_5 : u_lay CR9 CT9 5 ∈ gtbl := g_at 266 (by decide +kernel) (by decide +kernel)
theorem CW9_6 : u_lay CR9 CT9 6 ∈ gtbl := g_at 268 (by decide +kernel) (by decide +kernel)
theorem CW9_7 : u_lay CR9 CT9 7 ∈ gtbl := g_at 270 (by decide +kernel) (by decide +kernel)
theorem CW9_8 : u_lay CR9 CT9 8 ∈ gtbl := g_at 272 (by decide +kernel) (by decide +kernel)
theorem CW9_9 : u_lay CR9 CT9 9 ∈ gtbl := g_at 274 (by decide +kernel) (by decide +kernel)
theorem CI9 : ∀ w ∈ u_ws CR9 CT9 10, w ∈ gtbl := by
  intro w hw
  obtain ⟨k, hk, rfl⟩ := List.mem_map.mp hw
  have hk := List.mem_range.mp hk
  match k, hk with
  | 0, _ => exact CW9_0
  | 1, _ => exact CW9_1
  | 2, _ => exact CW9_2
  | 3, _ => exact CW9_3
  | 4, _ => exact CW9_4
  | 5, _ => exact CW9_5
  | 6, _ => exact CW9_6
  | 7, _ => exact CW9_7
  | 8, _ => exact CW9_8
  | 9, _ => exact CW9_9
def CR10 : String := "NearMarksModel"
def CT10 : u_T := fun k => match k with
  | 0 => ("NearMarksModel", "now", "[J", true)
  | 1 => ("NearMarksModel", "kinds", "[I", true)
  | 2 => ("NearMarksModel", "backs", "I", false)
  | 3 => ("NearMarksModel", "back", "[J", true)
  | 4 => ("NearMarksModel", "backKind", "[I", true)
  | 5 => ("NearMarksModel", "image", "[J", true)
  | 6 => ("NearMarksModel", "imageKind", "[I", true)
  | 7 => ("NearMarksModel", "imageSeed", "[I", true)
  | 8 => ("NearMarksModel", "isKept", "[Z", true)
  | 9 => ("NearMarksModel", "seed", "I", false)
  | 10 => ("NearMarksModel", "seen", "I", false)
  | 11 => ("NearMarksModel", "seenMark", "[J", true)
  | 12 => ("NearMarksModel", "seenApart", "[I", true)
  | 13 => ("NearMarksModel", "entries", "I", false)
  | 14 => ("NearMarksModel", "bookOne", "[I", true)
  | 15 => ("NearMarksModel", "bookOther", "[I", true)
  | 16 => ("NearMarksModel", "bookApart", "[I", true)
  | 17 => ("NearMarksModel", "groupOf", "[I", true)
  | _ => ("NearMarksModel", "many", "[I", true)
def CY10 : Nat → FieldType := fun k => match k with
  | 0 => .array .long
  | 1 => .array .int
  | 2 => .int
  | 3 => .array .long
  | 4 => .array .int
  | 5 => .array .long
  | 6 => .array .int
  | 7 => .array .int
  | 8 => .array .boolean
  | 9 => .int
  | 10 => .int
  | 11 => .array .long
  | 12 => .array .int
  | 13 => .int
  | 14 => .array .int
  | 15 => .array .int
  | 16 => .array .int
  | 17 => .array .int
  | _ => .array .int
theorem CN10 : ∀ a, a < 19 → ∀ b, b < 19 → a ≠ b → (CT10 a).2.1 ≠ (CT10 b).2.1 := by decide +kernel
theorem CYok10 : ∀ k, k < 19 → parseFieldDescriptor (CT10 k).2.2.1 = some (CY10 k) := by decide +kernel
theorem CW10_0 : u_lay CR10 CT10 0 ∈ gtbl := g_at 680 (by decide +kernel) (by decide +kernel)
theorem CW10_1 : u_lay CR10 CT10 1 ∈ gtbl := g_at 682 (by decide +kernel) (by decide +kernel)
theorem CW10_2 : u_lay CR10 CT10 2 ∈ gtbl := g_at 684 (by decide +kernel) (by decide +kernel)
theorem CW10_3 : u_lay CR10 CT10 3 ∈ gtbl := g_at 686 (by decide +kernel) (by decide +kernel)
theorem CW10_4 : u_lay CR10 CT10 4 ∈ gtbl := g_at 688 (by decide +kernel) (by decide +kernel)
theorem CW10_5 : u_lay CR10 CT10 5 ∈ gtbl := g_at 690 (by decide +kernel) (by decide +kernel)
theorem CW10_6 : u_lay CR10 CT10 6 ∈ gtbl := g_at 692 (by decide +kernel) (by decide +kernel)
theorem CW10_7 : u_lay CR10 CT10 7 ∈ gtbl := g_at 694 (by decide +kernel) (by decide +kernel)
theorem CW10_8 : u_lay CR10 CT10 8 ∈ gtbl := g_at 696 (by decide +kernel) (by decide +kernel)
theorem CW10_9 : u_lay CR10 CT10 9 ∈ gtbl := g_at 698 (by decide +kernel) (by decide +kernel)
theorem CW10_10 : u_lay CR10 CT10 10 ∈ gtbl := g_at 700 (by decide +kernel) (by decide +kernel)
theorem CW10_11 : u_lay CR10 CT10 11 ∈ gtbl := g_at 702 (by decide +kernel) (by decide +kernel)
theorem CW10_12 : u_lay CR10 CT10 12 ∈ gtbl := g_at 704 (by decide +kernel) (by decide +kernel)
theorem CW10_13 : u_lay CR10 CT10 13 ∈ gtbl := g_at 706 (by decide +kernel) (by decide +kernel)
theorem CW10_14 : u_lay CR10 CT10 14 ∈ gtbl := g_at 708 (by decide +kernel) (by decide +kernel)
theorem CW10_15 : u_lay CR10 CT10 15 ∈ gtbl := g_at 710 (by decide +kernel) (by decide +kernel)
theorem CW10_16 : u_lay CR10 CT10 16 ∈ gtbl := g_at 712 (by decide +kernel) (by decide +kernel)
theorem CW10_17 : u_lay CR10 CT10 17 ∈ gtbl := g_at 714 (by decide +kernel) (by decide +kernel)
theorem CW10_18 : u_lay CR10 CT10 18 ∈ gtbl := g_at 716 (by decide +kernel) (by decide +kernel)
theorem CI10 : ∀ w ∈ u_ws CR10 CT10 19, w ∈ gtbl := by
  intro w hw
  obtain ⟨k, hk, rfl⟩ := List.mem_map.mp hw
  have hk := List.mem_range.mp hk
  match k, hk with
  | 0, _ => exact CW10_0
  | 1, _ => exact CW10_1
  | 2, _ => exact CW10_2
  | 3, _ => exact CW10_3
  | 4, _ => exact CW10_4
  | 5, _ => exact CW10_5
  | 6, _ => exact CW10_6
  | 7, _ => exact CW10_7
  | 8, _ => exact CW10_8
  | 9, _ => exact CW10_9
  | 10, _ => exact CW10_10
  | 11, _ => exact CW10_11
  | 12, _ => exact CW10_12
  | 13, _ => exact CW10_13
  | 14, _ => exact CW10_14
  | 15, _ => exact CW10_15
  | 16, _ => exact CW10_16
  | 17, _ => exact CW10_17
  | 18, _ => exact CW10_18
  | q + 19, hq => exact absurd hq (by omega)
abbrev vcl : List vw_C := [(CR0, CT0, 4), (CR1, CT1, 2), (CR2, CT2, 1), (CR3, CT3, 3), (CR4, CT4, 3), (CR5, CT5, 3), (CR6, CT6, 3), (CR7, CT7, 4), (CR8, CT8, 5), (CR9, CT9, 10), (CR10, CT10, 19)]
/-! methods: name, code, its words -/
def y_Nm_init : MethodName := ⟨"NearMarks", "<init>", "()V"⟩
abbrev c_Nm_init : ByteArray := prog_1_method_1_code
theorem wc_Nm_init : Cond.code y_Nm_init c_Nm_init 2 none ∈ gtbl := g_at 59 (by decide +kernel) (by decide +kernel)
def y_St_init : MethodName := ⟨"NearMarks$State", "<init>", "()V"⟩
abbrev c_St_init : ByteArray := prog_11_method_1_code
theorem wc_St_init : Cond.code y_St_init c_St_init 1 none ∈ gtbl := g_at 67 (by decide +kernel) (by decide +kernel)
def y_Pa_init : MethodName := ⟨"NearMarks$Past", "<init>", "()V"⟩
abbrev c_Pa_init : ByteArray := prog_8_method_1_code
theorem wc_Pa_init : Cond.code y_Pa_init c_Pa_init 2 none ∈ gtbl := g_at 102 (by decide +kernel) (by decide +kernel)
def y_Im_init : MethodName := ⟨"NearMarks$Image", "<init>", "()V"⟩
abbrev c_Im_init : ByteArray := prog_6_method_1_code
theorem wc_Im_init : Cond.code y_Im_init c_Im_init 1 none ∈ gtbl := g_at 123 (by decide +kernel) (by decide +kernel)
def y_Pt_init : MethodName := ⟨"NearMarks$Parts", "<init>", "()V"⟩
abbrev c_Pt_init : ByteArray := prog_7_method_1_code
theorem wc_Pt_init : Cond.code y_Pt_init c_Pt_init 1 none ∈ gtbl := g_at 142 (by decide +kernel) (by decide +kernel)
def y_Pt_beginAt : MethodName := ⟨"NearMarks$Parts", "beginAt", "(J)V"⟩
abbrev c_Pt_beginAt : ByteArray := prog_7_method_3_code
theorem wc_Pt_beginAt : Cond.code y_Pt_beginAt c_Pt_beginAt 4 none ∈ gtbl := g_at 160 (by decide +kernel) (by decide +kernel)
def y_Nm_hasBit : MethodName := ⟨"NearMarks", "hasBit", "(JI)Z"⟩
abbrev c_Nm_hasBit : ByteArray := prog_1_method_36_code
theorem wc_Nm_hasBit : Cond.code y_Nm_hasBit c_Nm_hasBit 3 (some .boolean) ∈ gtbl := g_at 163 (by decide +kernel) (by decide +kernel)
def y_Gr_init : MethodName := ⟨"NearMarks$Grouping", "<init>", "()V"⟩
abbrev c_Gr_init : ByteArray := prog_5_method_1_code
theorem wc_Gr_init : Cond.code y_Gr_init c_Gr_init 1 none ∈ gtbl := g_at 168 (by decide +kernel) (by decide +kernel)
def y_Co_init : MethodName := ⟨"NearMarks$Columns", "<init>", "()V"⟩
abbrev c_Co_init : ByteArray := prog_3_method_1_code
theorem wc_Co_init : Cond.code y_Co_init c_Co_init 1 none ∈ gtbl := g_at 186 (by decide +kernel) (by decide +kernel)
def y_Si_init : MethodName := ⟨"NearMarks$Sightings", "<init>", "()V"⟩
abbrev c_Si_init : ByteArray := prog_10_method_1_code
theorem wc_Si_init : Cond.code y_Si_init c_Si_init 1 none ∈ gtbl := g_at 199 (by decide +kernel) (by decide +kernel)
def y_Bk_init : MethodName := ⟨"NearMarks$Book", "<init>", "()V"⟩
abbrev c_Bk_init : ByteArray := prog_2_method_1_code
theorem wc_Bk_init : Cond.code y_Bk_init c_Bk_init 1 none ∈ gtbl := g_at 219 (by decide +kernel) (by decide +kernel)
def y_Dr_init : MethodName := ⟨"NearMarks$Draws", "<init>", "()V"⟩
abbrev c_Dr_init : ByteArray := prog_4_method_1_code
theorem wc_Dr_init : Cond.code y_Dr_init c_Dr_init 1 none ∈ gtbl := g_at 239 (by decide +kernel) (by decide +kernel)
def y_Nm_told : MethodName := ⟨"NearMarks", "told", "(I)I"⟩
abbrev c_Nm_told : ByteArray := prog_1_method_2_code
theorem wc_Nm_told : Cond.code y_Nm_told c_Nm_told 2 (some .int) ∈ gtbl := g_at 280 (by decide +kernel) (by decide +kernel)
def y_Lg_bitCount : MethodName := ⟨"java/lang/Long", "bitCount", "(J)I"⟩
abbrev c_Lg_bitCount : ByteArray := prog_14_method_50_code
theorem wc_Lg_bitCount : Cond.code y_Lg_bitCount c_Lg_bitCount 2 (some .int) ∈ gtbl := g_at 283 (by decide +kernel) (by decide +kernel)
def y_St_numberOf : MethodName := ⟨"NearMarks$State", "numberOf", "(J)I"⟩
abbrev c_St_numberOf : ByteArray := prog_11_method_5_code
theorem wc_St_numberOf : Cond.code y_St_numberOf c_St_numberOf 4 (some .int) ∈ gtbl := g_at 290 (by decide +kernel) (by decide +kernel)
def y_Nm_countLookedAt : MethodName := ⟨"NearMarks", "countLookedAt", "(I)I"⟩
abbrev c_Nm_countLookedAt : ByteArray := prog_1_method_7_code
theorem wc_Nm_countLookedAt : Cond.code y_Nm_countLookedAt c_Nm_countLookedAt 4 (some .int) ∈ gtbl := g_at 294 (by decide +kernel) (by decide +kernel)
def y_St_fromHand : MethodName := ⟨"NearMarks$State", "fromHand", "(I)I"⟩
abbrev c_St_fromHand : ByteArray := prog_11_method_8_code
theorem wc_St_fromHand : Cond.code y_St_fromHand c_St_fromHand 2 (some .int) ∈ gtbl := g_at 298 (by decide +kernel) (by decide +kernel)
def y_Nm_distanceOf : MethodName := ⟨"NearMarks", "distanceOf", "(JJ)I"⟩
abbrev c_Nm_distanceOf : ByteArray := prog_1_method_37_code
theorem wc_Nm_distanceOf : Cond.code y_Nm_distanceOf c_Nm_distanceOf 4 (some .int) ∈ gtbl := g_at 301 (by decide +kernel) (by decide +kernel)
def y_Pt_anyAlike : MethodName := ⟨"NearMarks$Parts", "anyAlike", "(J)Z"⟩
abbrev c_Pt_anyAlike : ByteArray := prog_7_method_6_code
theorem wc_Pt_anyAlike : Cond.code y_Pt_anyAlike c_Pt_anyAlike 4 (some .boolean) ∈ gtbl := g_at 305 (by decide +kernel) (by decide +kernel)
def y_Pt_reach : MethodName := ⟨"NearMarks$Parts", "reach", "()I"⟩
abbrev c_Pt_reach : ByteArray := prog_7_method_2_code
theorem wc_Pt_reach : Cond.code y_Pt_reach c_Pt_reach 1 (some .int) ∈ gtbl := g_at 309 (by decide +kernel) (by decide +kernel)
def y_St_byDistance : MethodName := ⟨"NearMarks$State", "byDistance", "(I)I"⟩
abbrev c_St_byDistance : ByteArray := prog_11_method_10_code
theorem wc_St_byDistance : Cond.code y_St_byDistance c_St_byDistance 3 (some .int) ∈ gtbl := g_at 313 (by decide +kernel) (by decide +kernel)
def y_St_countNearerThan : MethodName := ⟨"NearMarks$State", "countNearerThan", "(I)I"⟩
abbrev c_St_countNearerThan : ByteArray := prog_11_method_11_code
theorem wc_St_countNearerThan : Cond.code y_St_countNearerThan c_St_countNearerThan 6 (some .int) ∈ gtbl := g_at 317 (by decide +kernel) (by decide +kernel)
def y_Nm_leastDistance : MethodName := ⟨"NearMarks", "leastDistance", "()I"⟩
abbrev c_Nm_leastDistance : ByteArray := prog_1_method_8_code
theorem wc_Nm_leastDistance : Cond.code y_Nm_leastDistance c_Nm_leastDistance 2 (some .int) ∈ gtbl := g_at 322 (by decide +kernel) (by decide +kernel)
def y_St_has : MethodName := ⟨"NearMarks$State", "has", "(I)Z"⟩
abbrev c_St_has : ByteArray := prog_11_method_3_code
theorem wc_St_has : Cond.code y_St_has c_St_has 2 (some .boolean) ∈ gtbl := g_at 326 (by decide +kernel) (by decide +kernel)
def y_Co_countDead : MethodName := ⟨"NearMarks$Columns", "countDead", "(LNearMarks$State;)I"⟩
abbrev c_Co_countDead : ByteArray := prog_3_method_4_code
theorem wc_Co_countDead : Cond.code y_Co_countDead c_Co_countDead 4 (some .int) ∈ gtbl := g_at 330 (by decide +kernel) (by decide +kernel)
def y_Co_read : MethodName := ⟨"NearMarks$Columns", "read", "(LNearMarks$State;)V"⟩
abbrev c_Co_read : ByteArray := prog_3_method_2_code
theorem wc_Co_read : Cond.code y_Co_read c_Co_read 4 none ∈ gtbl := g_at 334 (by decide +kernel) (by decide +kernel)
def y_Co_isDead : MethodName := ⟨"NearMarks$Columns", "isDead", "(I)Z"⟩
abbrev c_Co_isDead : ByteArray := prog_3_method_3_code
theorem wc_Co_isDead : Cond.code y_Co_isDead c_Co_isDead 2 (some .boolean) ∈ gtbl := g_at 338 (by decide +kernel) (by decide +kernel)
def y_Co_firstPair : MethodName := ⟨"NearMarks$Columns", "firstPair", "(LNearMarks$State;)I"⟩
abbrev c_Co_firstPair : ByteArray := prog_3_method_5_code
theorem wc_Co_firstPair : Cond.code y_Co_firstPair c_Co_firstPair 4 (some .int) ∈ gtbl := g_at 342 (by decide +kernel) (by decide +kernel)
def y_Co_goTogether : MethodName := ⟨"NearMarks$Columns", "goTogether", "(II)Z"⟩
abbrev c_Co_goTogether : ByteArray := prog_3_method_6_code
theorem wc_Co_goTogether : Cond.code y_Co_goTogether c_Co_goTogether 3 (some .boolean) ∈ gtbl := g_at 346 (by decide +kernel) (by decide +kernel)
def y_Si_fitting : MethodName := ⟨"NearMarks$Sightings", "fitting", "(LNearMarks$State;)J"⟩
abbrev c_Si_fitting : ByteArray := prog_10_method_4_code
theorem wc_Si_fitting : Cond.code y_Si_fitting c_Si_fitting 5 (some .long) ∈ gtbl := g_at 350 (by decide +kernel) (by decide +kernel)
def y_Si_fits : MethodName := ⟨"NearMarks$Sightings", "fits", "(J)Z"⟩
abbrev c_Si_fits : ByteArray := prog_10_method_3_code
theorem wc_Si_fits : Cond.code y_Si_fits c_Si_fits 4 (some .boolean) ∈ gtbl := g_at 354 (by decide +kernel) (by decide +kernel)
def y_Si_leastFitting : MethodName := ⟨"NearMarks$Sightings", "leastFitting", "(LNearMarks$State;)I"⟩
abbrev c_Si_leastFitting : ByteArray := prog_10_method_5_code
theorem wc_Si_leastFitting : Cond.code y_Si_leastFitting c_Si_leastFitting 2 (some .int) ∈ gtbl := g_at 359 (by decide +kernel) (by decide +kernel)
def y_Nm_leastOf : MethodName := ⟨"NearMarks", "leastOf", "(J)I"⟩
abbrev c_Nm_leastOf : ByteArray := prog_1_method_35_code
theorem wc_Nm_leastOf : Cond.code y_Nm_leastOf c_Nm_leastOf 3 (some .int) ∈ gtbl := g_at 363 (by decide +kernel) (by decide +kernel)
def y_Si_bestToAsk : MethodName := ⟨"NearMarks$Sightings", "bestToAsk", "(LNearMarks$State;)I"⟩
abbrev c_Si_bestToAsk : ByteArray := prog_10_method_6_code
theorem wc_Si_bestToAsk : Cond.code y_Si_bestToAsk c_Si_bestToAsk 8 (some .int) ∈ gtbl := g_at 368 (by decide +kernel) (by decide +kernel)
def y_Si_greatestLeft : MethodName := ⟨"NearMarks$Sightings", "greatestLeft", "(LNearMarks$State;JI)I"⟩
abbrev c_Si_greatestLeft : ByteArray := prog_10_method_7_code
theorem wc_Si_greatestLeft : Cond.code y_Si_greatestLeft c_Si_greatestLeft 8 (some .int) ∈ gtbl := g_at 373 (by decide +kernel) (by decide +kernel)
def y_St_between : MethodName := ⟨"NearMarks$State", "between", "(II)I"⟩
abbrev c_St_between : ByteArray := prog_11_method_9_code
theorem wc_St_between : Cond.code y_St_between c_St_between 3 (some .int) ∈ gtbl := g_at 378 (by decide +kernel) (by decide +kernel)
def y_Ma_max : MethodName := ⟨"java/lang/Math", "max", "(II)I"⟩
abbrev c_Ma_max : ByteArray := prog_15_method_65_code
theorem wc_Ma_max : Cond.code y_Ma_max c_Ma_max 2 (some .int) ∈ gtbl := g_at 381 (by decide +kernel) (by decide +kernel)
def y_Bk_firstWrong : MethodName := ⟨"NearMarks$Book", "firstWrong", "(LNearMarks$State;)I"⟩
abbrev c_Bk_firstWrong : ByteArray := prog_2_method_3_code
theorem wc_Bk_firstWrong : Cond.code y_Bk_firstWrong c_Bk_firstWrong 3 (some .int) ∈ gtbl := g_at 385 (by decide +kernel) (by decide +kernel)
def y_Bk_isRight : MethodName := ⟨"NearMarks$Book", "isRight", "(LNearMarks$State;I)Z"⟩
abbrev c_Bk_isRight : ByteArray := prog_2_method_4_code
theorem wc_Bk_isRight : Cond.code y_Bk_isRight c_Bk_isRight 3 (some .boolean) ∈ gtbl := g_at 389 (by decide +kernel) (by decide +kernel)
def y_St_hasBoth : MethodName := ⟨"NearMarks$State", "hasBoth", "(II)Z"⟩
abbrev c_St_hasBoth : ByteArray := prog_11_method_4_code
theorem wc_St_hasBoth : Cond.code y_St_hasBoth c_St_hasBoth 3 (some .boolean) ∈ gtbl := g_at 393 (by decide +kernel) (by decide +kernel)
def y_Nm_hand : MethodName := ⟨"NearMarks", "hand", "()J"⟩
abbrev c_Nm_hand : ByteArray := prog_1_method_3_code
theorem wc_Nm_hand : Cond.code y_Nm_hand c_Nm_hand 1 (some .long) ∈ gtbl := g_at 400 (by decide +kernel) (by decide +kernel)
def y_Nm_markAt : MethodName := ⟨"NearMarks", "markAt", "(I)J"⟩
abbrev c_Nm_markAt : ByteArray := prog_1_method_4_code
theorem wc_Nm_markAt : Cond.code y_Nm_markAt c_Nm_markAt 2 (some .long) ∈ gtbl := g_at 404 (by decide +kernel) (by decide +kernel)
def y_Nm_mark : MethodName := ⟨"NearMarks", "mark", "(II)I"⟩
abbrev c_Nm_mark : ByteArray := prog_1_method_5_code
theorem wc_Nm_mark : Cond.code y_Nm_mark c_Nm_mark 3 (some .int) ∈ gtbl := g_at 408 (by decide +kernel) (by decide +kernel)
def y_Nm_countOthersWithin : MethodName := ⟨"NearMarks", "countOthersWithin", "(II)I"⟩
abbrev c_Nm_countOthersWithin : ByteArray := prog_1_method_9_code
theorem wc_Nm_countOthersWithin : Cond.code y_Nm_countOthersWithin c_Nm_countOthersWithin 5 (some .int) ∈ gtbl := g_at 413 (by decide +kernel) (by decide +kernel)
def y_Nm_part : MethodName := ⟨"NearMarks", "part", "(II)I"⟩
abbrev c_Nm_part : ByteArray := prog_1_method_6_code
theorem wc_Nm_part : Cond.code y_Nm_part c_Nm_part 3 (some .int) ∈ gtbl := g_at 418 (by decide +kernel) (by decide +kernel)
def y_Nm_countWithPart : MethodName := ⟨"NearMarks", "countWithPart", "(J)I"⟩
abbrev c_Nm_countWithPart : ByteArray := prog_1_method_10_code
theorem wc_Nm_countWithPart : Cond.code y_Nm_countWithPart c_Nm_countWithPart 5 (some .int) ∈ gtbl := g_at 422 (by decide +kernel) (by decide +kernel)
def y_Nm_type : MethodName := ⟨"NearMarks", "type", "(II)I"⟩
abbrev c_Nm_type : ByteArray := prog_1_method_11_code
theorem wc_Nm_type : Cond.code y_Nm_type c_Nm_type 3 (some .int) ∈ gtbl := g_at 426 (by decide +kernel) (by decide +kernel)
def y_Pa_remember : MethodName := ⟨"NearMarks$Past", "remember", "(LNearMarks$State;)V"⟩
abbrev c_Pa_remember : ByteArray := prog_8_method_2_code
theorem wc_Pa_remember : Cond.code y_Pa_remember c_Pa_remember 2 none ∈ gtbl := g_at 430 (by decide +kernel) (by decide +kernel)
def y_St_become : MethodName := ⟨"NearMarks$State", "become", "(LNearMarks$State;)V"⟩
abbrev c_St_become : ByteArray := prog_11_method_2_code
theorem wc_St_become : Cond.code y_St_become c_St_become 3 none ∈ gtbl := g_at 434 (by decide +kernel) (by decide +kernel)
def y_Ma_min : MethodName := ⟨"java/lang/Math", "min", "(II)I"⟩
abbrev c_Ma_min : ByteArray := prog_15_method_69_code
theorem wc_Ma_min : Cond.code y_Ma_min c_Ma_min 2 (some .int) ∈ gtbl := g_at 437 (by decide +kernel) (by decide +kernel)
def y_Pi_withRow : MethodName := ⟨"NearMarks$Picture", "withRow", "(JII)J"⟩
abbrev c_Pi_withRow : ByteArray := prog_9_method_3_code
theorem wc_Pi_withRow : Cond.code y_Pi_withRow c_Pi_withRow 5 (some .long) ∈ gtbl := g_at 440 (by decide +kernel) (by decide +kernel)
def y_Nm_flip : MethodName := ⟨"NearMarks", "flip", "(I)I"⟩
abbrev c_Nm_flip : ByteArray := prog_1_method_12_code
theorem wc_Nm_flip : Cond.code y_Nm_flip c_Nm_flip 2 (some .int) ∈ gtbl := g_at 446 (by decide +kernel) (by decide +kernel)
def y_Nm_turn : MethodName := ⟨"NearMarks", "turn", "()I"⟩
abbrev c_Nm_turn : ByteArray := prog_1_method_13_code
theorem wc_Nm_turn : Cond.code y_Nm_turn c_Nm_turn 1 (some .int) ∈ gtbl := g_at 450 (by decide +kernel) (by decide +kernel)
def y_Pi_turned : MethodName := ⟨"NearMarks$Picture", "turned", "(J)J"⟩
abbrev c_Pi_turned : ByteArray := prog_9_method_7_code
theorem wc_Pi_turned : Cond.code y_Pi_turned c_Pi_turned 6 (some .long) ∈ gtbl := g_at 453 (by decide +kernel) (by decide +kernel)
def y_Pi_hasDot : MethodName := ⟨"NearMarks$Picture", "hasDot", "(JII)Z"⟩
abbrev c_Pi_hasDot : ByteArray := prog_9_method_5_code
theorem wc_Pi_hasDot : Cond.code y_Pi_hasDot c_Pi_hasDot 4 (some .boolean) ∈ gtbl := g_at 456 (by decide +kernel) (by decide +kernel)
def y_Pi_dotAt : MethodName := ⟨"NearMarks$Picture", "dotAt", "(II)J"⟩
abbrev c_Pi_dotAt : ByteArray := prog_9_method_6_code
theorem wc_Pi_dotAt : Cond.code y_Pi_dotAt c_Pi_dotAt 2 (some .long) ∈ gtbl := g_at 460 (by decide +kernel) (by decide +kernel)
def y_Pi_firstRow : MethodName := ⟨"NearMarks$Picture", "firstRow", "(J)I"⟩
abbrev c_Pi_firstRow : ByteArray := prog_9_method_2_code
theorem wc_Pi_firstRow : Cond.code y_Pi_firstRow c_Pi_firstRow 2 (some .int) ∈ gtbl := g_at 463 (by decide +kernel) (by decide +kernel)
def y_Nm_mirror : MethodName := ⟨"NearMarks", "mirror", "()I"⟩
abbrev c_Nm_mirror : ByteArray := prog_1_method_14_code
theorem wc_Nm_mirror : Cond.code y_Nm_mirror c_Nm_mirror 1 (some .int) ∈ gtbl := g_at 467 (by decide +kernel) (by decide +kernel)
def y_Pi_mirrored : MethodName := ⟨"NearMarks$Picture", "mirrored", "(J)J"⟩
abbrev c_Pi_mirrored : ByteArray := prog_9_method_8_code
theorem wc_Pi_mirrored : Cond.code y_Pi_mirrored c_Pi_mirrored 6 (some .long) ∈ gtbl := g_at 470 (by decide +kernel) (by decide +kernel)
def y_Nm_hold : MethodName := ⟨"NearMarks", "hold", "(I)I"⟩
abbrev c_Nm_hold : ByteArray := prog_1_method_15_code
theorem wc_Nm_hold : Cond.code y_Nm_hold c_Nm_hold 3 (some .int) ∈ gtbl := g_at 474 (by decide +kernel) (by decide +kernel)
def y_Nm_put : MethodName := ⟨"NearMarks", "put", "(I)I"⟩
abbrev c_Nm_put : ByteArray := prog_1_method_16_code
theorem wc_Nm_put : Cond.code y_Nm_put c_Nm_put 2 (some .int) ∈ gtbl := g_at 478 (by decide +kernel) (by decide +kernel)
def y_Nm_isKind : MethodName := ⟨"NearMarks", "isKind", "(I)Z"⟩
abbrev c_Nm_isKind : ByteArray := prog_1_method_22_code
theorem wc_Nm_isKind : Cond.code y_Nm_isKind c_Nm_isKind 1 (some .boolean) ∈ gtbl := g_at 481 (by decide +kernel) (by decide +kernel)
def y_St_addHand : MethodName := ⟨"NearMarks$State", "addHand", "(I)V"⟩
abbrev c_St_addHand : ByteArray := prog_11_method_6_code
theorem wc_St_addHand : Cond.code y_St_addHand c_St_addHand 2 none ∈ gtbl := g_at 487 (by decide +kernel) (by decide +kernel)
def y_Nm_cut : MethodName := ⟨"NearMarks", "cut", "(J)I"⟩
abbrev c_Nm_cut : ByteArray := prog_1_method_17_code
theorem wc_Nm_cut : Cond.code y_Nm_cut c_Nm_cut 3 (some .int) ∈ gtbl := g_at 491 (by decide +kernel) (by decide +kernel)
def y_Nm_take : MethodName := ⟨"NearMarks", "take", "(I)I"⟩
abbrev c_Nm_take : ByteArray := prog_1_method_18_code
theorem wc_Nm_take : Cond.code y_Nm_take c_Nm_take 2 (some .int) ∈ gtbl := g_at 495 (by decide +kernel) (by decide +kernel)
def y_St_remove : MethodName := ⟨"NearMarks$State", "remove", "(I)V"⟩
abbrev c_St_remove : ByteArray := prog_11_method_7_code
theorem wc_St_remove : Cond.code y_St_remove c_St_remove 3 none ∈ gtbl := g_at 499 (by decide +kernel) (by decide +kernel)
def y_Nm_kind : MethodName := ⟨"NearMarks", "kind", "(II)I"⟩
abbrev c_Nm_kind : ByteArray := prog_1_method_19_code
theorem wc_Nm_kind : Cond.code y_Nm_kind c_Nm_kind 4 (some .int) ∈ gtbl := g_at 503 (by decide +kernel) (by decide +kernel)
def y_Nm_drift : MethodName := ⟨"NearMarks", "drift", "(I)I"⟩
abbrev c_Nm_drift : ByteArray := prog_1_method_20_code
theorem wc_Nm_drift : Cond.code y_Nm_drift c_Nm_drift 3 (some .int) ∈ gtbl := g_at 507 (by decide +kernel) (by decide +kernel)
def y_Nm_changeHandByDraws : MethodName := ⟨"NearMarks", "changeHandByDraws", "()V"⟩
abbrev c_Nm_changeHandByDraws : ByteArray := prog_1_method_23_code
theorem wc_Nm_changeHandByDraws : Cond.code y_Nm_changeHandByDraws c_Nm_changeHandByDraws 2 none ∈ gtbl := g_at 511 (by decide +kernel) (by decide +kernel)
def y_Dr_next : MethodName := ⟨"NearMarks$Draws", "next", "(I)I"⟩
abbrev c_Dr_next : ByteArray := prog_4_method_2_code
theorem wc_Dr_next : Cond.code y_Dr_next c_Dr_next 2 (some .int) ∈ gtbl := g_at 515 (by decide +kernel) (by decide +kernel)
def y_Pi_ofEqualRows : MethodName := ⟨"NearMarks$Picture", "ofEqualRows", "(I)J"⟩
abbrev c_Pi_ofEqualRows : ByteArray := prog_9_method_4_code
theorem wc_Pi_ofEqualRows : Cond.code y_Pi_ofEqualRows c_Pi_ofEqualRows 4 (some .long) ∈ gtbl := g_at 523 (by decide +kernel) (by decide +kernel)
def y_Nm_putIfUnlikeAll : MethodName := ⟨"NearMarks", "putIfUnlikeAll", "()V"⟩
abbrev c_Nm_putIfUnlikeAll : ByteArray := prog_1_method_24_code
theorem wc_Nm_putIfUnlikeAll : Cond.code y_Nm_putIfUnlikeAll c_Nm_putIfUnlikeAll 1 none ∈ gtbl := g_at 528 (by decide +kernel) (by decide +kernel)
def y_Nm_undo : MethodName := ⟨"NearMarks", "undo", "(I)I"⟩
abbrev c_Nm_undo : ByteArray := prog_1_method_21_code
theorem wc_Nm_undo : Cond.code y_Nm_undo c_Nm_undo 2 (some .int) ∈ gtbl := g_at 532 (by decide +kernel) (by decide +kernel)
def y_Pa_bringBack : MethodName := ⟨"NearMarks$Past", "bringBack", "(ILNearMarks$State;)V"⟩
abbrev c_Pa_bringBack : ByteArray := prog_8_method_3_code
theorem wc_Pa_bringBack : Cond.code y_Pa_bringBack c_Pa_bringBack 3 none ∈ gtbl := g_at 536 (by decide +kernel) (by decide +kernel)
def y_Nm_near : MethodName := ⟨"NearMarks", "near", "(I)J"⟩
abbrev c_Nm_near : ByteArray := prog_1_method_25_code
theorem wc_Nm_near : Cond.code y_Nm_near c_Nm_near 5 (some .long) ∈ gtbl := g_at 540 (by decide +kernel) (by decide +kernel)
def y_Nm_isDistance : MethodName := ⟨"NearMarks", "isDistance", "(I)Z"⟩
abbrev c_Nm_isDistance : ByteArray := prog_1_method_32_code
theorem wc_Nm_isDistance : Cond.code y_Nm_isDistance c_Nm_isDistance 1 (some .boolean) ∈ gtbl := g_at 543 (by decide +kernel) (by decide +kernel)
def y_Nm_isNear : MethodName := ⟨"NearMarks", "isNear", "(II)Z"⟩
abbrev c_Nm_isNear : ByteArray := prog_1_method_33_code
theorem wc_Nm_isNear : Cond.code y_Nm_isNear c_Nm_isNear 4 (some .boolean) ∈ gtbl := g_at 547 (by decide +kernel) (by decide +kernel)
def y_Nm_nearest : MethodName := ⟨"NearMarks", "nearest", "(I)I"⟩
abbrev c_Nm_nearest : ByteArray := prog_1_method_26_code
theorem wc_Nm_nearest : Cond.code y_Nm_nearest c_Nm_nearest 2 (some .int) ∈ gtbl := g_at 551 (by decide +kernel) (by decide +kernel)
def y_Nm_apart : MethodName := ⟨"NearMarks", "apart", "(II)I"⟩
abbrev c_Nm_apart : ByteArray := prog_1_method_27_code
theorem wc_Nm_apart : Cond.code y_Nm_apart c_Nm_apart 3 (some .int) ∈ gtbl := g_at 555 (by decide +kernel) (by decide +kernel)
def y_Nm_groups : MethodName := ⟨"NearMarks", "groups", "(I)I"⟩
abbrev c_Nm_groups : ByteArray := prog_1_method_28_code
theorem wc_Nm_groups : Cond.code y_Nm_groups c_Nm_groups 2 (some .int) ∈ gtbl := g_at 560 (by decide +kernel) (by decide +kernel)
def y_Gr_join : MethodName := ⟨"NearMarks$Grouping", "join", "(LNearMarks$State;I)V"⟩
abbrev c_Gr_join : ByteArray := prog_5_method_3_code
theorem wc_Gr_join : Cond.code y_Gr_join c_Gr_join 6 none ∈ gtbl := g_at 564 (by decide +kernel) (by decide +kernel)
def y_Gr_findClose : MethodName := ⟨"NearMarks$Grouping", "findClose", "(LNearMarks$State;I)V"⟩
abbrev c_Gr_findClose : ByteArray := prog_5_method_4_code
theorem wc_Gr_findClose : Cond.code y_Gr_findClose c_Gr_findClose 5 none ∈ gtbl := g_at 568 (by decide +kernel) (by decide +kernel)
def y_Gr_spread : MethodName := ⟨"NearMarks$Grouping", "spread", "(II)J"⟩
abbrev c_Gr_spread : ByteArray := prog_5_method_5_code
theorem wc_Gr_spread : Cond.code y_Gr_spread c_Gr_spread 9 (some .long) ∈ gtbl := g_at 574 (by decide +kernel) (by decide +kernel)
def y_Nm_group : MethodName := ⟨"NearMarks", "group", "(III)I"⟩
abbrev c_Nm_group : ByteArray := prog_1_method_29_code
theorem wc_Nm_group : Cond.code y_Nm_group c_Nm_group 4 (some .int) ∈ gtbl := g_at 578 (by decide +kernel) (by decide +kernel)
def y_Gr_has : MethodName := ⟨"NearMarks$Grouping", "has", "(I)Z"⟩
abbrev c_Gr_has : ByteArray := prog_5_method_2_code
theorem wc_Gr_has : Cond.code y_Gr_has c_Gr_has 2 (some .boolean) ∈ gtbl := g_at 582 (by decide +kernel) (by decide +kernel)
def y_St_widthOf : MethodName := ⟨"NearMarks$State", "widthOf", "(J)I"⟩
abbrev c_St_widthOf : ByteArray := prog_11_method_12_code
theorem wc_St_widthOf : Cond.code y_St_widthOf c_St_widthOf 6 (some .int) ∈ gtbl := g_at 587 (by decide +kernel) (by decide +kernel)
def y_Nm_middle : MethodName := ⟨"NearMarks", "middle", "(II)J"⟩
abbrev c_Nm_middle : ByteArray := prog_1_method_30_code
theorem wc_Nm_middle : Cond.code y_Nm_middle c_Nm_middle 3 (some .long) ∈ gtbl := g_at 594 (by decide +kernel) (by decide +kernel)
def y_Co_mostOf : MethodName := ⟨"NearMarks$Columns", "mostOf", "(LNearMarks$State;J)J"⟩
abbrev c_Co_mostOf : ByteArray := prog_3_method_7_code
theorem wc_Co_mostOf : Cond.code y_Co_mostOf c_Co_mostOf 8 (some .long) ∈ gtbl := g_at 598 (by decide +kernel) (by decide +kernel)
def y_Nm_fewest : MethodName := ⟨"NearMarks", "fewest", "(II)I"⟩
abbrev c_Nm_fewest : ByteArray := prog_1_method_31_code
theorem wc_Nm_fewest : Cond.code y_Nm_fewest c_Nm_fewest 7 (some .int) ∈ gtbl := g_at 603 (by decide +kernel) (by decide +kernel)
def y_Pt_beginEvenly : MethodName := ⟨"NearMarks$Parts", "beginEvenly", "(II)V"⟩
abbrev c_Pt_beginEvenly : ByteArray := prog_7_method_4_code
theorem wc_Pt_beginEvenly : Cond.code y_Pt_beginEvenly c_Pt_beginEvenly 9 none ∈ gtbl := g_at 607 (by decide +kernel) (by decide +kernel)
def y_Pt_turnOf : MethodName := ⟨"NearMarks$Parts", "turnOf", "(III)I"⟩
abbrev c_Pt_turnOf : ByteArray := prog_7_method_5_code
theorem wc_Pt_turnOf : Cond.code y_Pt_turnOf c_Pt_turnOf 3 (some .int) ∈ gtbl := g_at 611 (by decide +kernel) (by decide +kernel)
def y_Nm_countAllLooks : MethodName := ⟨"NearMarks", "countAllLooks", "(LNearMarks$Parts;)I"⟩
abbrev c_Nm_countAllLooks : ByteArray := prog_1_method_34_code
theorem wc_Nm_countAllLooks : Cond.code y_Nm_countAllLooks c_Nm_countAllLooks 5 (some .int) ∈ gtbl := g_at 616 (by decide +kernel) (by decide +kernel)
def y_Nm_see : MethodName := ⟨"NearMarks", "see", "(I)I"⟩
abbrev c_Nm_see : ByteArray := prog_1_method_38_code
theorem wc_Nm_see : Cond.code y_Nm_see c_Nm_see 2 (some .int) ∈ gtbl := g_at 620 (by decide +kernel) (by decide +kernel)
def y_Si_add : MethodName := ⟨"NearMarks$Sightings", "add", "(JI)V"⟩
abbrev c_Si_add : ByteArray := prog_10_method_2_code
theorem wc_Si_add : Cond.code y_Si_add c_Si_add 4 none ∈ gtbl := g_at 624 (by decide +kernel) (by decide +kernel)
def y_Nm_write : MethodName := ⟨"NearMarks", "write", "(III)I"⟩
abbrev c_Nm_write : ByteArray := prog_1_method_39_code
theorem wc_Nm_write : Cond.code y_Nm_write c_Nm_write 4 (some .int) ∈ gtbl := g_at 628 (by decide +kernel) (by decide +kernel)
def y_Bk_add : MethodName := ⟨"NearMarks$Book", "add", "(III)V"⟩
abbrev c_Bk_add : ByteArray := prog_2_method_2_code
theorem wc_Bk_add : Cond.code y_Bk_add c_Bk_add 4 none ∈ gtbl := g_at 632 (by decide +kernel) (by decide +kernel)
def y_Nm_tear : MethodName := ⟨"NearMarks", "tear", "()I"⟩
abbrev c_Nm_tear : ByteArray := prog_1_method_40_code
theorem wc_Nm_tear : Cond.code y_Nm_tear c_Nm_tear 2 (some .int) ∈ gtbl := g_at 636 (by decide +kernel) (by decide +kernel)
def y_Nm_seed : MethodName := ⟨"NearMarks", "seed", "(I)I"⟩
abbrev c_Nm_seed : ByteArray := prog_1_method_41_code
theorem wc_Nm_seed : Cond.code y_Nm_seed c_Nm_seed 3 (some .int) ∈ gtbl := g_at 640 (by decide +kernel) (by decide +kernel)
def y_Nm_keep : MethodName := ⟨"NearMarks", "keep", "(I)I"⟩
abbrev c_Nm_keep : ByteArray := prog_1_method_42_code
theorem wc_Nm_keep : Cond.code y_Nm_keep c_Nm_keep 2 (some .int) ∈ gtbl := g_at 644 (by decide +kernel) (by decide +kernel)
def y_Pa_forget : MethodName := ⟨"NearMarks$Past", "forget", "()V"⟩
abbrev c_Pa_forget : ByteArray := prog_8_method_4_code
theorem wc_Pa_forget : Cond.code y_Pa_forget c_Pa_forget 1 none ∈ gtbl := g_at 649 (by decide +kernel) (by decide +kernel)
def y_Nm_goBack : MethodName := ⟨"NearMarks", "goBack", "(I)I"⟩
abbrev c_Nm_goBack : ByteArray := prog_1_method_43_code
theorem wc_Nm_goBack : Cond.code y_Nm_goBack c_Nm_goBack 2 (some .int) ∈ gtbl := g_at 653 (by decide +kernel) (by decide +kernel)
def y_Mo_init : MethodName := ⟨"NearMarksModel", "<init>", "()V"⟩
abbrev c_Mo_init : ByteArray := prog_13_method_1_code
theorem wc_Mo_init : Cond.code y_Mo_init c_Mo_init 1 none ∈ gtbl := g_at 658 (by decide +kernel) (by decide +kernel)
def y_Mo_told : MethodName := ⟨"NearMarksModel", "told", "(I)I"⟩
abbrev c_Mo_told : ByteArray := prog_13_method_24_code
theorem wc_Mo_told : Cond.code y_Mo_told c_Mo_told 2 (some .int) ∈ gtbl := g_at 723 (by decide +kernel) (by decide +kernel)
def y_Mo_marks : MethodName := ⟨"NearMarksModel", "marks", "()I"⟩
abbrev c_Mo_marks : ByteArray := prog_13_method_5_code
theorem wc_Mo_marks : Cond.code y_Mo_marks c_Mo_marks 1 (some .int) ∈ gtbl := g_at 727 (by decide +kernel) (by decide +kernel)
def y_Mo_parts : MethodName := ⟨"NearMarksModel", "parts", "()I"⟩
abbrev c_Mo_parts : ByteArray := prog_13_method_9_code
theorem wc_Mo_parts : Cond.code y_Mo_parts c_Mo_parts 1 (some .int) ∈ gtbl := g_at 731 (by decide +kernel) (by decide +kernel)
def y_Mo_ones : MethodName := ⟨"NearMarksModel", "ones", "(J)I"⟩
abbrev c_Mo_ones : ByteArray := prog_13_method_3_code
theorem wc_Mo_ones : Cond.code y_Mo_ones c_Mo_ones 4 (some .int) ∈ gtbl := g_at 734 (by decide +kernel) (by decide +kernel)
def y_Mo_like : MethodName := ⟨"NearMarksModel", "like", "(J)I"⟩
abbrev c_Mo_like : ByteArray := prog_13_method_11_code
theorem wc_Mo_like : Cond.code y_Mo_like c_Mo_like 5 (some .int) ∈ gtbl := g_at 738 (by decide +kernel) (by decide +kernel)
def y_Mo_own : MethodName := ⟨"NearMarksModel", "own", "(I)J"⟩
abbrev c_Mo_own : ByteArray := prog_13_method_6_code
theorem wc_Mo_own : Cond.code y_Mo_own c_Mo_own 2 (some .long) ∈ gtbl := g_at 742 (by decide +kernel) (by decide +kernel)
def y_Mo_looked : MethodName := ⟨"NearMarksModel", "looked", "(Z)I"⟩
abbrev c_Mo_looked : ByteArray := prog_13_method_12_code
theorem wc_Mo_looked : Cond.code y_Mo_looked c_Mo_looked 5 (some .int) ∈ gtbl := g_at 746 (by decide +kernel) (by decide +kernel)
def y_Mo_isLooked : MethodName := ⟨"NearMarksModel", "isLooked", "(JJJ)Z"⟩
abbrev c_Mo_isLooked : ByteArray := prog_13_method_10_code
theorem wc_Mo_isLooked : Cond.code y_Mo_isLooked c_Mo_isLooked 11 (some .boolean) ∈ gtbl := g_at 749 (by decide +kernel) (by decide +kernel)
def y_Mo_has : MethodName := ⟨"NearMarksModel", "has", "(JI)Z"⟩
abbrev c_Mo_has : ByteArray := prog_13_method_4_code
theorem wc_Mo_has : Cond.code y_Mo_has c_Mo_has 3 (some .boolean) ∈ gtbl := g_at 752 (by decide +kernel) (by decide +kernel)
def y_Mo_off : MethodName := ⟨"NearMarksModel", "off", "(I)I"⟩
abbrev c_Mo_off : ByteArray := prog_13_method_8_code
theorem wc_Mo_off : Cond.code y_Mo_off c_Mo_off 2 (some .int) ∈ gtbl := g_at 756 (by decide +kernel) (by decide +kernel)
def y_Mo_first : MethodName := ⟨"NearMarksModel", "first", "(Z)I"⟩
abbrev c_Mo_first : ByteArray := prog_13_method_23_code
theorem wc_Mo_first : Cond.code y_Mo_first c_Mo_first 3 (some .int) ∈ gtbl := g_at 760 (by decide +kernel) (by decide +kernel)
def y_Mo_nearestOf : MethodName := ⟨"NearMarksModel", "nearestOf", "(I)I"⟩
abbrev c_Mo_nearestOf : ByteArray := prog_13_method_14_code
theorem wc_Mo_nearestOf : Cond.code y_Mo_nearestOf c_Mo_nearestOf 4 (some .int) ∈ gtbl := g_at 764 (by decide +kernel) (by decide +kernel)
def y_Mo_ahead : MethodName := ⟨"NearMarksModel", "ahead", "(I)I"⟩
abbrev c_Mo_ahead : ByteArray := prog_13_method_13_code
theorem wc_Mo_ahead : Cond.code y_Mo_ahead c_Mo_ahead 4 (some .int) ∈ gtbl := g_at 768 (by decide +kernel) (by decide +kernel)
def y_Mo_dead : MethodName := ⟨"NearMarksModel", "dead", "()I"⟩
abbrev c_Mo_dead : ByteArray := prog_13_method_16_code
theorem wc_Mo_dead : Cond.code y_Mo_dead c_Mo_dead 3 (some .int) ∈ gtbl := g_at 772 (by decide +kernel) (by decide +kernel)
def y_Mo_isDead : MethodName := ⟨"NearMarksModel", "isDead", "(I)Z"⟩
abbrev c_Mo_isDead : ByteArray := prog_13_method_15_code
theorem wc_Mo_isDead : Cond.code y_Mo_isDead c_Mo_isDead 4 (some .boolean) ∈ gtbl := g_at 776 (by decide +kernel) (by decide +kernel)
def y_Mo_together : MethodName := ⟨"NearMarksModel", "together", "()I"⟩
abbrev c_Mo_together : ByteArray := prog_13_method_18_code
theorem wc_Mo_together : Cond.code y_Mo_together c_Mo_together 3 (some .int) ∈ gtbl := g_at 780 (by decide +kernel) (by decide +kernel)
def y_Mo_areTogether : MethodName := ⟨"NearMarksModel", "areTogether", "(II)Z"⟩
abbrev c_Mo_areTogether : ByteArray := prog_13_method_17_code
theorem wc_Mo_areTogether : Cond.code y_Mo_areTogether c_Mo_areTogether 7 (some .boolean) ∈ gtbl := g_at 784 (by decide +kernel) (by decide +kernel)
def y_Mo_could : MethodName := ⟨"NearMarksModel", "could", "(Z)I"⟩
abbrev c_Mo_could : ByteArray := prog_13_method_20_code
theorem wc_Mo_could : Cond.code y_Mo_could c_Mo_could 5 (some .int) ∈ gtbl := g_at 788 (by decide +kernel) (by decide +kernel)
def y_Mo_couldBe : MethodName := ⟨"NearMarksModel", "couldBe", "(I)Z"⟩
abbrev c_Mo_couldBe : ByteArray := prog_13_method_19_code
theorem wc_Mo_couldBe : Cond.code y_Mo_couldBe c_Mo_couldBe 4 (some .boolean) ∈ gtbl := g_at 792 (by decide +kernel) (by decide +kernel)
def y_Mo_asked : MethodName := ⟨"NearMarksModel", "asked", "()I"⟩
abbrev c_Mo_asked : ByteArray := prog_13_method_21_code
theorem wc_Mo_asked : Cond.code y_Mo_asked c_Mo_asked 7 (some .int) ∈ gtbl := g_at 796 (by decide +kernel) (by decide +kernel)
def y_Mo_wrong : MethodName := ⟨"NearMarksModel", "wrong", "()I"⟩
abbrev c_Mo_wrong : ByteArray := prog_13_method_22_code
theorem wc_Mo_wrong : Cond.code y_Mo_wrong c_Mo_wrong 3 (some .int) ∈ gtbl := g_at 800 (by decide +kernel) (by decide +kernel)
def y_Mo_isMark : MethodName := ⟨"NearMarksModel", "isMark", "(I)Z"⟩
abbrev c_Mo_isMark : ByteArray := prog_13_method_7_code
theorem wc_Mo_isMark : Cond.code y_Mo_isMark c_Mo_isMark 2 (some .boolean) ∈ gtbl := g_at 804 (by decide +kernel) (by decide +kernel)
def y_Mo_in : MethodName := ⟨"NearMarksModel", "in", "(JJJ)Z"⟩
abbrev c_Mo_in : ByteArray := prog_13_method_2_code
theorem wc_Mo_in : Cond.code y_Mo_in c_Mo_in 6 (some .boolean) ∈ gtbl := g_at 807 (by decide +kernel) (by decide +kernel)
def y_Mo_hand : MethodName := ⟨"NearMarksModel", "hand", "()J"⟩
abbrev c_Mo_hand : ByteArray := prog_13_method_25_code
theorem wc_Mo_hand : Cond.code y_Mo_hand c_Mo_hand 1 (some .long) ∈ gtbl := g_at 812 (by decide +kernel) (by decide +kernel)
def y_Mo_markAt : MethodName := ⟨"NearMarksModel", "markAt", "(I)J"⟩
abbrev c_Mo_markAt : ByteArray := prog_13_method_26_code
theorem wc_Mo_markAt : Cond.code y_Mo_markAt c_Mo_markAt 2 (some .long) ∈ gtbl := g_at 816 (by decide +kernel) (by decide +kernel)
def y_Mo_mark : MethodName := ⟨"NearMarksModel", "mark", "(II)I"⟩
abbrev c_Mo_mark : ByteArray := prog_13_method_27_code
theorem wc_Mo_mark : Cond.code y_Mo_mark c_Mo_mark 5 (some .int) ∈ gtbl := g_at 820 (by decide +kernel) (by decide +kernel)
def y_Mo_part : MethodName := ⟨"NearMarksModel", "part", "(II)I"⟩
abbrev c_Mo_part : ByteArray := prog_13_method_31_code
theorem wc_Mo_part : Cond.code y_Mo_part c_Mo_part 3 (some .int) ∈ gtbl := g_at 825 (by decide +kernel) (by decide +kernel)
def y_Mo_beginOf : MethodName := ⟨"NearMarksModel", "beginOf", "(I)I"⟩
abbrev c_Mo_beginOf : ByteArray := prog_13_method_28_code
theorem wc_Mo_beginOf : Cond.code y_Mo_beginOf c_Mo_beginOf 4 (some .int) ∈ gtbl := g_at 829 (by decide +kernel) (by decide +kernel)
def y_Mo_endOf : MethodName := ⟨"NearMarksModel", "endOf", "(I)I"⟩
abbrev c_Mo_endOf : ByteArray := prog_13_method_29_code
theorem wc_Mo_endOf : Cond.code y_Mo_endOf c_Mo_endOf 2 (some .int) ∈ gtbl := g_at 833 (by decide +kernel) (by decide +kernel)
def y_Mo_have : MethodName := ⟨"NearMarksModel", "have", "(I)I"⟩
abbrev c_Mo_have : ByteArray := prog_13_method_30_code
theorem wc_Mo_have : Cond.code y_Mo_have c_Mo_have 6 (some .int) ∈ gtbl := g_at 837 (by decide +kernel) (by decide +kernel)
def y_Mo_type : MethodName := ⟨"NearMarksModel", "type", "(II)I"⟩
abbrev c_Mo_type : ByteArray := prog_13_method_35_code
theorem wc_Mo_type : Cond.code y_Mo_type c_Mo_type 3 (some .int) ∈ gtbl := g_at 841 (by decide +kernel) (by decide +kernel)
def y_Mo_note : MethodName := ⟨"NearMarksModel", "note", "()V"⟩
abbrev c_Mo_note : ByteArray := prog_13_method_32_code
theorem wc_Mo_note : Cond.code y_Mo_note c_Mo_note 2 none ∈ gtbl := g_at 847 (by decide +kernel) (by decide +kernel)
def y_Mo_lay : MethodName := ⟨"NearMarksModel", "lay", "([J[II)V"⟩
abbrev c_Mo_lay : ByteArray := prog_13_method_33_code
theorem wc_Mo_lay : Cond.code y_Mo_lay c_Mo_lay 5 none ∈ gtbl := g_at 851 (by decide +kernel) (by decide +kernel)
def y_Mo_flip : MethodName := ⟨"NearMarksModel", "flip", "(I)I"⟩
abbrev c_Mo_flip : ByteArray := prog_13_method_36_code
theorem wc_Mo_flip : Cond.code y_Mo_flip c_Mo_flip 2 (some .int) ∈ gtbl := g_at 856 (by decide +kernel) (by decide +kernel)
def y_Mo_turn : MethodName := ⟨"NearMarksModel", "turn", "()I"⟩
abbrev c_Mo_turn : ByteArray := prog_13_method_38_code
theorem wc_Mo_turn : Cond.code y_Mo_turn c_Mo_turn 4 (some .int) ∈ gtbl := g_at 861 (by decide +kernel) (by decide +kernel)
def y_Mo_row : MethodName := ⟨"NearMarksModel", "row", "()I"⟩
abbrev c_Mo_row : ByteArray := prog_13_method_37_code
theorem wc_Mo_row : Cond.code y_Mo_row c_Mo_row 1 (some .int) ∈ gtbl := g_at 865 (by decide +kernel) (by decide +kernel)
def y_Mo_mirror : MethodName := ⟨"NearMarksModel", "mirror", "()I"⟩
abbrev c_Mo_mirror : ByteArray := prog_13_method_39_code
theorem wc_Mo_mirror : Cond.code y_Mo_mirror c_Mo_mirror 4 (some .int) ∈ gtbl := g_at 869 (by decide +kernel) (by decide +kernel)
def y_Mo_hold : MethodName := ⟨"NearMarksModel", "hold", "(I)I"⟩
abbrev c_Mo_hold : ByteArray := prog_13_method_40_code
theorem wc_Mo_hold : Cond.code y_Mo_hold c_Mo_hold 3 (some .int) ∈ gtbl := g_at 873 (by decide +kernel) (by decide +kernel)
def y_Mo_put : MethodName := ⟨"NearMarksModel", "put", "(I)I"⟩
abbrev c_Mo_put : ByteArray := prog_13_method_42_code
theorem wc_Mo_put : Cond.code y_Mo_put c_Mo_put 2 (some .int) ∈ gtbl := g_at 877 (by decide +kernel) (by decide +kernel)
def y_Mo_add : MethodName := ⟨"NearMarksModel", "add", "(I)V"⟩
abbrev c_Mo_add : ByteArray := prog_13_method_41_code
theorem wc_Mo_add : Cond.code y_Mo_add c_Mo_add 2 none ∈ gtbl := g_at 884 (by decide +kernel) (by decide +kernel)
def y_Mo_cut : MethodName := ⟨"NearMarksModel", "cut", "(J)I"⟩
abbrev c_Mo_cut : ByteArray := prog_13_method_43_code
theorem wc_Mo_cut : Cond.code y_Mo_cut c_Mo_cut 3 (some .int) ∈ gtbl := g_at 888 (by decide +kernel) (by decide +kernel)
def y_Mo_take : MethodName := ⟨"NearMarksModel", "take", "(I)I"⟩
abbrev c_Mo_take : ByteArray := prog_13_method_44_code
theorem wc_Mo_take : Cond.code y_Mo_take c_Mo_take 4 (some .int) ∈ gtbl := g_at 892 (by decide +kernel) (by decide +kernel)
def y_Mo_kind : MethodName := ⟨"NearMarksModel", "kind", "(II)I"⟩
abbrev c_Mo_kind : ByteArray := prog_13_method_45_code
theorem wc_Mo_kind : Cond.code y_Mo_kind c_Mo_kind 4 (some .int) ∈ gtbl := g_at 896 (by decide +kernel) (by decide +kernel)
def y_Mo_drift : MethodName := ⟨"NearMarksModel", "drift", "(I)I"⟩
abbrev c_Mo_drift : ByteArray := prog_13_method_48_code
theorem wc_Mo_drift : Cond.code y_Mo_drift c_Mo_drift 3 (some .int) ∈ gtbl := g_at 900 (by decide +kernel) (by decide +kernel)
def y_Mo_lot : MethodName := ⟨"NearMarksModel", "lot", "()V"⟩
abbrev c_Mo_lot : ByteArray := prog_13_method_47_code
theorem wc_Mo_lot : Cond.code y_Mo_lot c_Mo_lot 8 none ∈ gtbl := g_at 905 (by decide +kernel) (by decide +kernel)
def y_Mo_draw : MethodName := ⟨"NearMarksModel", "draw", "(I)I"⟩
abbrev c_Mo_draw : ByteArray := prog_13_method_46_code
theorem wc_Mo_draw : Cond.code y_Mo_draw c_Mo_draw 2 (some .int) ∈ gtbl := g_at 909 (by decide +kernel) (by decide +kernel)
def y_Mo_undo : MethodName := ⟨"NearMarksModel", "undo", "(I)I"⟩
abbrev c_Mo_undo : ByteArray := prog_13_method_49_code
theorem wc_Mo_undo : Cond.code y_Mo_undo c_Mo_undo 2 (some .int) ∈ gtbl := g_at 917 (by decide +kernel) (by decide +kernel)
def y_Mo_become : MethodName := ⟨"NearMarksModel", "become", "([J[II)V"⟩
abbrev c_Mo_become : ByteArray := prog_13_method_34_code
theorem wc_Mo_become : Cond.code y_Mo_become c_Mo_become 5 none ∈ gtbl := g_at 921 (by decide +kernel) (by decide +kernel)
def y_Mo_near : MethodName := ⟨"NearMarksModel", "near", "(I)J"⟩
abbrev c_Mo_near : ByteArray := prog_13_method_50_code
theorem wc_Mo_near : Cond.code y_Mo_near c_Mo_near 7 (some .long) ∈ gtbl := g_at 925 (by decide +kernel) (by decide +kernel)
def y_Mo_nearest : MethodName := ⟨"NearMarksModel", "nearest", "(I)I"⟩
abbrev c_Mo_nearest : ByteArray := prog_13_method_51_code
theorem wc_Mo_nearest : Cond.code y_Mo_nearest c_Mo_nearest 2 (some .int) ∈ gtbl := g_at 930 (by decide +kernel) (by decide +kernel)
def y_Mo_apart : MethodName := ⟨"NearMarksModel", "apart", "(II)I"⟩
abbrev c_Mo_apart : ByteArray := prog_13_method_52_code
theorem wc_Mo_apart : Cond.code y_Mo_apart c_Mo_apart 3 (some .int) ∈ gtbl := g_at 934 (by decide +kernel) (by decide +kernel)
def y_Mo_groups : MethodName := ⟨"NearMarksModel", "groups", "(I)I"⟩
abbrev c_Mo_groups : ByteArray := prog_13_method_55_code
theorem wc_Mo_groups : Cond.code y_Mo_groups c_Mo_groups 2 (some .int) ∈ gtbl := g_at 938 (by decide +kernel) (by decide +kernel)
def y_Mo_layGroups : MethodName := ⟨"NearMarksModel", "layGroups", "(I)I"⟩
abbrev c_Mo_layGroups : ByteArray := prog_13_method_53_code
theorem wc_Mo_layGroups : Cond.code y_Mo_layGroups c_Mo_layGroups 5 (some .int) ∈ gtbl := g_at 942 (by decide +kernel) (by decide +kernel)
def y_Mo_group : MethodName := ⟨"NearMarksModel", "group", "(III)I"⟩
abbrev c_Mo_group : ByteArray := prog_13_method_58_code
theorem wc_Mo_group : Cond.code y_Mo_group c_Mo_group 5 (some .int) ∈ gtbl := g_at 946 (by decide +kernel) (by decide +kernel)
def y_Mo_leastOf : MethodName := ⟨"NearMarksModel", "leastOf", "(I)I"⟩
abbrev c_Mo_leastOf : ByteArray := prog_13_method_54_code
theorem wc_Mo_leastOf : Cond.code y_Mo_leastOf c_Mo_leastOf 4 (some .int) ∈ gtbl := g_at 950 (by decide +kernel) (by decide +kernel)
def y_Mo_manyOf : MethodName := ⟨"NearMarksModel", "manyOf", "(I)I"⟩
abbrev c_Mo_manyOf : ByteArray := prog_13_method_56_code
theorem wc_Mo_manyOf : Cond.code y_Mo_manyOf c_Mo_manyOf 4 (some .int) ∈ gtbl := g_at 954 (by decide +kernel) (by decide +kernel)
def y_Mo_wide : MethodName := ⟨"NearMarksModel", "wide", "(I)I"⟩
abbrev c_Mo_wide : ByteArray := prog_13_method_57_code
theorem wc_Mo_wide : Cond.code y_Mo_wide c_Mo_wide 6 (some .int) ∈ gtbl := g_at 958 (by decide +kernel) (by decide +kernel)
def y_Mo_middle : MethodName := ⟨"NearMarksModel", "middle", "(II)J"⟩
abbrev c_Mo_middle : ByteArray := prog_13_method_59_code
theorem wc_Mo_middle : Cond.code y_Mo_middle c_Mo_middle 9 (some .long) ∈ gtbl := g_at 962 (by decide +kernel) (by decide +kernel)
def y_Mo_fewest : MethodName := ⟨"NearMarksModel", "fewest", "(II)I"⟩
abbrev c_Mo_fewest : ByteArray := prog_13_method_62_code
theorem wc_Mo_fewest : Cond.code y_Mo_fewest c_Mo_fewest 9 (some .int) ∈ gtbl := g_at 966 (by decide +kernel) (by decide +kernel)
def y_Mo_cutBy : MethodName := ⟨"NearMarksModel", "cutBy", "(II)J"⟩
abbrev c_Mo_cutBy : ByteArray := prog_13_method_61_code
theorem wc_Mo_cutBy : Cond.code y_Mo_cutBy c_Mo_cutBy 6 (some .long) ∈ gtbl := g_at 970 (by decide +kernel) (by decide +kernel)
def y_Mo_isMore : MethodName := ⟨"NearMarksModel", "isMore", "(III)Z"⟩
abbrev c_Mo_isMore : ByteArray := prog_13_method_60_code
theorem wc_Mo_isMore : Cond.code y_Mo_isMore c_Mo_isMore 5 (some .boolean) ∈ gtbl := g_at 973 (by decide +kernel) (by decide +kernel)
def y_Mo_see : MethodName := ⟨"NearMarksModel", "see", "(I)I"⟩
abbrev c_Mo_see : ByteArray := prog_13_method_63_code
theorem wc_Mo_see : Cond.code y_Mo_see c_Mo_see 2 (some .int) ∈ gtbl := g_at 977 (by decide +kernel) (by decide +kernel)
def y_Mo_write : MethodName := ⟨"NearMarksModel", "write", "(III)I"⟩
abbrev c_Mo_write : ByteArray := prog_13_method_64_code
theorem wc_Mo_write : Cond.code y_Mo_write c_Mo_write 4 (some .int) ∈ gtbl := g_at 981 (by decide +kernel) (by decide +kernel)
def y_Mo_tear : MethodName := ⟨"NearMarksModel", "tear", "()I"⟩
abbrev c_Mo_tear : ByteArray := prog_13_method_65_code
theorem wc_Mo_tear : Cond.code y_Mo_tear c_Mo_tear 2 (some .int) ∈ gtbl := g_at 985 (by decide +kernel) (by decide +kernel)
def y_Mo_seed : MethodName := ⟨"NearMarksModel", "seed", "(I)I"⟩
abbrev c_Mo_seed : ByteArray := prog_13_method_66_code
theorem wc_Mo_seed : Cond.code y_Mo_seed c_Mo_seed 3 (some .int) ∈ gtbl := g_at 989 (by decide +kernel) (by decide +kernel)
def y_Mo_keep : MethodName := ⟨"NearMarksModel", "keep", "(I)I"⟩
abbrev c_Mo_keep : ByteArray := prog_13_method_67_code
theorem wc_Mo_keep : Cond.code y_Mo_keep c_Mo_keep 2 (some .int) ∈ gtbl := g_at 993 (by decide +kernel) (by decide +kernel)
def y_Mo_goBack : MethodName := ⟨"NearMarksModel", "goBack", "(I)I"⟩
abbrev c_Mo_goBack : ByteArray := prog_13_method_68_code
theorem wc_Mo_goBack : Cond.code y_Mo_goBack c_Mo_goBack 2 (some .int) ∈ gtbl := g_at 997 (by decide +kernel) (by decide +kernel)
end
section
/-! MY LAYER. One world of 111 cells behind one base address (NearMarks object and all that it holds: 0 .. 94; the reference: 95 .. 110), what they hold told by two maps: mi (ints, booleans: fields by slot, arrays by index) and ml (longs). References never change behind the constructors. -/
def OM : Type := Nat × va_G × (Nat → ClassId)
def ads (o : OM) (i : Nat) : Nat := o.1 + i
abbrev MI : Type := Nat → Nat → Int32
abbrev ML : Type := Nat → Nat → Int64
def uf {α : Type} (f : Nat → α) (k : Nat) (v : α) : Nat → α := fun b => if b = k then v else f b
def u2 {α : Type} (f : Nat → Nat → α) (i k : Nat) (v : α) : Nat → Nat → α := fun a => if a = i then uf (f i) k v else f a
theorem u2_s {α : Type} (f : Nat → Nat → α) (i k : Nat) (v : α) : u2 f i k v i = uf (f i) k v := by simp [u2]
theorem u2_n {α : Type} (f : Nat → Nat → α) {i j : Nat} (k : Nat) (v : α) (h : j ≠ i) : u2 f i k v j = f j := by simp [u2, h]
theorem uf_s {α : Type} (f : Nat → α) (k : Nat) (v : α) : uf f k v k = v := by simp [uf]
theorem uf_n {α : Type} (f : Nat → α) {k j : Nat} (v : α) (h : j ≠ k) : uf f k v j = f j := by simp [uf, h]
def aI (o : OM) (n : Nat) (f : Nat → Int32) : va_E := .inl (o.2.2 0, n, .inl f)
def aJ (o : OM) (n : Nat) (g : Nat → Int64) : va_E := .inl (o.2.2 1, n, .inr (.inl g))
def aZ (o : OM) (n : Nat) (f : Nat → Int32) : va_E := .inl (o.2.2 2, n, .inl f)
def aIm (o : OM) (n : Nat) (f : Nat → Option Nat) : va_E := .inl (o.2.2 3, n, .inr (.inr (.inr (.inr f))))
def aSt (o : OM) (n : Nat) (f : Nat → Option Nat) : va_E := .inl (o.2.2 4, n, .inr (.inr (.inr (.inr f))))
/-- fields of each class: what is held by slot, references by the cells' order -/
def fSt (o : OM) (i : Nat) (f : Nat → Int32) (g : Nat → Int64) : List Value := [.long (g 0), .long (g 1), .int (f 2), .ref (ads o (i + 1)), .ref (ads o (i + 2))]
def fPt (o : OM) (i : Nat) (f : Nat → Int32) (_ : Nat → Int64) : List Value := [.ref (ads o (i + 1)), .ref (ads o (i + 2)), .int (f 2)]
def fIm (o : OM) (i : Nat) (f : Nat → Int32) (_ : Nat → Int64) : List Value := [.ref (ads o (i + 1)), .int (f 1), .int (f 2)]
def fPa (o : OM) (i : Nat) (f : Nat → Int32) (_ : Nat → Int64) : List Value := [.ref (ads o (i + 1)), .int (f 1), .int (f 2)]
def fGr (o : OM) (i : Nat) (f : Nat → Int32) (_ : Nat → Int64) : List Value := [.ref (ads o (i + 1)), .ref (ads o (i + 2)), .int (f 2)]
def fCo (o : OM) (i : Nat) (_ : Nat → Int32) (g : Nat → Int64) : List Value := [.ref (ads o (i + 1)), .long (g 1)]
def fSi (o : OM) (i : Nat) (f : Nat → Int32) (_ : Nat → Int64) : List Value := [.ref (ads o (i + 1)), .ref (ads o (i + 2)), .ref (ads o (i + 3)), .int (f 3)]
def fBk (o : OM) (i : Nat) (f : Nat → Int32) (_ : Nat → Int64) : List Value := [.ref (ads o (i + 1)), .ref (ads o (i + 2)), .ref (ads o (i + 3)), .int (f 3)]
def fDr (_ : OM) (_ : Nat) (f : Nat → Int32) (_ : Nat → Int64) : List Value := [.int (f 0)]
def fNm (o : OM) (_ : Nat) (_ : Nat → Int32) (_ : Nat → Int64) : List Value := [.ref (ads o 1), .ref (ads o 4), .ref (ads o 66), .ref (ads o 75), .ref (ads o 78), .ref (ads o 81), .ref (ads o 84), .ref (ads o 86), .ref (ads o 90), .ref (ads o 94)]
def fMo (o : OM) (_ : Nat) (f : Nat → Int32) (_ : Nat → Int64) : List Value := [.ref (ads o 96), .ref (ads o 97), .int (f 2), .ref (ads o 98), .ref (ads o 99), .ref (ads o 100), .ref (ads o 101), .ref (ads o 102), .ref (ads o 103), .int (f 9), .int (f 10), .ref (ads o 104), .ref (ads o 105), .int (f 13), .ref (ads o 106), .ref (ads o 107), .ref (ads o 108), .ref (ads o 109), .ref (ads o 110)]
def cE (o : OM) (f : Nat → Int32) (g : Nat → Int64) (i : Nat) : va_E :=
  if 6 ≤ i ∧ i < 66 then (if i % 3 = 0 then .inr (8, fSt o i f g) else if i % 3 = 1 then aJ o 40 g else aI o 40 f)
  else if i = 0 then .inr (9, fNm o i f g) else if i = 1 then .inr (8, fSt o i f g) else if i = 2 then aJ o 40 g else if i = 3 then aI o 40 f
  else if i = 4 then .inr (6, fPa o i f g) else if i = 5 then aSt o 20 (fun k => some (ads o (6 + 3 * k)))
  else if i = 66 then aIm o 2 (fun k => some (ads o (67 + 4 * k)))
  else if i = 67 then .inr (4, fIm o i f g) else if i = 68 then .inr (8, fSt o i f g) else if i = 69 then aJ o 40 g else if i = 70 then aI o 40 f
  else if i = 71 then .inr (4, fIm o i f g) else if i = 72 then .inr (8, fSt o i f g) else if i = 73 then aJ o 40 g else if i = 74 then aI o 40 f
  else if i = 75 then .inr (5, fPt o i f g) else if i = 76 then aI o 8 f else if i = 77 then aJ o 8 g
  else if i = 78 then .inr (5, fPt o i f g) else if i = 79 then aI o 8 f else if i = 80 then aJ o 8 g
  else if i = 81 then .inr (3, fGr o i f g) else if i = 82 then aJ o 40 g else if i = 83 then aJ o 40 g
  else if i = 84 then .inr (1, fCo o i f g) else if i = 85 then aJ o 64 g
  else if i = 86 then .inr (7, fSi o i f g) else if i = 87 then aJ o 6 g else if i = 88 then aI o 6 f else if i = 89 then aI o 65 f
  else if i = 90 then .inr (0, fBk o i f g) else if i = 91 then aI o 20 f else if i = 92 then aI o 20 f else if i = 93 then aI o 20 f
  else if i = 94 then .inr (2, fDr o i f g)
  else if i = 95 then .inr (10, fMo o i f g) else if i = 96 then aJ o 43 g else if i = 97 then aI o 40 f else if i = 98 then aJ o 860 g else if i = 99 then aI o 800 f
  else if i = 100 then aJ o 86 g else if i = 101 then aI o 80 f else if i = 102 then aI o 2 f else if i = 103 then aZ o 2 f
  else if i = 104 then aJ o 6 g else if i = 105 then aI o 6 f else if i = 106 then aI o 20 f else if i = 107 then aI o 20 f else if i = 108 then aI o 20 f
  else if i = 109 then aI o 40 f else aI o 65 f
def cellsL (o : OM) (mi : MI) (ml : ML) : va_W := (List.range 111).map (fun i => (ads o i, cE o (mi i) (ml i) i))
def Wp (o : OM) (mi : MI) (ml : ML) (H : Heap) : Prop := va_P o.2.1 vcl (cellsL o mi ml) H
def isA (o : OM) (q : Nat) : Prop := o.1 ≤ q ∧ q < o.1 + 111
theorem cells_at (o : OM) (mi : MI) (ml : ML) {i : Nat} (h : i < 111) : (cellsL o mi ml)[i]? = some (ads o i, cE o (mi i) (ml i) i) := by
  simp [cellsL, h]
theorem cells_inv {o : OM} {mi : MI} {ml : ML} {i : Nat} {q : Nat × va_E} (h : (cellsL o mi ml)[i]? = some q) : i < 111 ∧ q = (ads o i, cE o (mi i) (ml i) i) := by
  have hl : i < 111 := by
    have := (List.getElem?_eq_some_iff.mp h).1
    simpa [cellsL] using this
  rw [cells_at o mi ml hl] at h
  exact ⟨hl, (Option.some.inj h).symm⟩
theorem cells_D (o : OM) (mi : MI) (ml : ML) : va_D (isA o) (cellsL o mi ml) := by
  refine ⟨fun i j p q hi hj e => ?_, fun k q hk => ?_⟩
  · obtain ⟨h1, rfl⟩ := cells_inv hi
    obtain ⟨h2, rfl⟩ := cells_inv hj
    have e' : o.1 + i = o.1 + j := e
    omega
  · obtain ⟨h1, rfl⟩ := cells_inv hk
    exact ⟨by show o.1 ≤ o.1 + k; omega, by show o.1 + k < o.1 + 111; omega⟩
theorem cells_set (o : OM) {mi mi' : MI} {ml ml' : ML} {i : Nat} {e : va_E} (hi : i < 111) (h1 : ∀ j, j ≠ i → mi' j = mi j ∧ ml' j = ml j) (h2 : cE o (mi' i) (ml' i) i = e) : (cellsL o mi ml).set i (ads o i, e) = cellsL o mi' ml' := by
  apply List.ext_getElem?
  intro j
  by_cases hj : j < 111
  · by_cases hji : j = i
    · subst hji
      rw [List.getElem?_set_self (by simp [cellsL]; exact hj), cells_at o mi' ml' hj, h2]
    · rw [List.getElem?_set_ne (Ne.symm hji), cells_at o mi ml hj, cells_at o mi' ml' hj, (h1 j hji).1, (h1 j hji).2]
  · rw [List.getElem?_eq_none (by simp [cellsL]; omega), List.getElem?_eq_none (by simp [cellsL]; omega)]
/-- which private methods are called across the nest -/
def nst : List (String × Nat × MethodName × String) := [("NearMarks$Parts", 23, y_Nm_hasBit, "NearMarks"), ("NearMarks$State", 36, y_Nm_distanceOf, "NearMarks"), ("NearMarks$Sightings", 26, y_Nm_distanceOf, "NearMarks"), ("NearMarks$Sightings", 44, y_Nm_leastOf, "NearMarks"), ("NearMarks$Sightings", 57, y_Nm_hasBit, "NearMarks"), ("NearMarks$Picture", 19, y_Nm_hasBit, "NearMarks"), ("NearMarks$Grouping", 29, y_Nm_hasBit, "NearMarks"), ("NearMarks$State", 47, y_Nm_hasBit, "NearMarks"), ("NearMarks", 78, y_Dr_init, "NearMarks")]
def Nst (U : State) : Prop := ∀ q ∈ nst, va_Nw (.methodLinkNest q.1 q.2.1 q.2.2.1 q.2.2.2) U
theorem Nst.warm {s U : State} (hW : s.WarmedH U.vm) (h : Nst s) : Nst U := fun q hq => va_Nw.warmM hW (h q hq)
def vtys (o : OM) : List (ClassId × FieldType) := [(o.2.2 0, .int), (o.2.2 1, .long), (o.2.2 2, .boolean), (o.2.2 3, .object "NearMarks$Image"), (o.2.2 4, .object "NearMarks$State")]
def Kp (o : OM) (U : State) : Prop := va_K o.2.1 vcl (vtys o) U ∧ Nst U
theorem Kp.warm {o : OM} {s U : State} (hW : s.WarmedH U.vm) (h : Kp o s) : Kp o U := ⟨va_K.moved hW.alike h.1, h.2.warm hW⟩
def wsY (y : MethodName) (cc : ByteArray) (n : Nat) (r : Option FieldType) : List Cond := .code y cc n r :: gtbl
theorem gtbl_good : GoodIn gtbl gtbl := fun _ hw => ⟨hw, good_of_word (List.mem_filter.mp hw).2⟩
theorem wsY_good {y : MethodName} {cc : ByteArray} {n : Nat} {r : Option FieldType} (h : Cond.code y cc n r ∈ gtbl) : GoodIn gtbl (wsY y cc n r) := fun w hw => (List.mem_cons.mp hw).elim (fun e => e ▸ gtbl_good _ h) (fun h2 => gtbl_good _ h2)
/-- CONTRACTS -/
def Qof (o : OM) (P : Option Value → MI → ML → Prop) : Array Value → State → Outcome → State → Prop := fun _ st oc t => (∃ (v : Option Value) (mi : MI) (ml : ML), oc = .returned v ∧ P v mi ml ∧ Wp o mi ml t.heap) ∧ va_F (isA o) st t
def Pof (o : OM) (A : List Value) (mi : MI) (ml : ML) : Array Value → State → Prop := va_Pc A (fun U => Wp o mi ml U.heap ∧ Kp o U)
def Con (l : Launch) (y : MethodName) (cc : ByteArray) (n : Nat) (r : Option FieldType) (fr lo : Nat) (o : OM) (A : List Value) (mi : MI) (ml : ML) (P : Option Value → MI → ML → Prop) : Prop :=
  Met l y (wsY y cc n r) { frames := fr, cells := 0, slots := 0, locals := lo } (Pof o A mi ml) (Qof o P) 0 0 (isA o)
/-- the walk's surroundings: all that stays while a method runs -/
def GT : Type := Program × Launch × Env × Room × State × MethodId × Array Value × List Frame × Method × Code × (State → Prop)
abbrev GT.p (γ : GT) : Program := γ.1
abbrev GT.l (γ : GT) : Launch := γ.2.1
abbrev GT.e (γ : GT) : Env := γ.2.2.1
abbrev GT.R (γ : GT) : Room := γ.2.2.2.1
abbrev GT.s (γ : GT) : State := γ.2.2.2.2.1
abbrev GT.m (γ : GT) : MethodId := γ.2.2.2.2.2.1
abbrev GT.a (γ : GT) : Array Value := γ.2.2.2.2.2.2.1
abbrev GT.b (γ : GT) : List Frame := γ.2.2.2.2.2.2.2.1
abbrev GT.me (γ : GT) : Method := γ.2.2.2.2.2.2.2.2.1
abbrev GT.c (γ : GT) : Code := γ.2.2.2.2.2.2.2.2.2.1
abbrev GT.Q (γ : GT) : State → Prop := γ.2.2.2.2.2.2.2.2.2.2
def V (γ : GT) (o : OM) (n : Nat) (mi : MI) (ml : ML) (pc : Nat) (lv : List (Nat × Value)) (st : List Value) : Prop :=
  ∀ (H : Heap) (locs : List Loc) (ls : Array Slot), Wp o mi ml H → va_S (isA o) γ.s.heap H locs → lv_has ls n lv → W γ.p γ.l γ.e γ.R γ.s γ.m γ.a γ.b γ.me γ.c H locs 0 0 γ.Q (F0 γ.m pc ls st)
def Cx (γ : GT) (l : Launch) (o : OM) (own : String) (cc : ByteArray) (n : Nat) (r : Option FieldType) (fr lo : Nat) (P : Option Value → MI → ML → Prop) : Prop :=
  γ.p.tables.exec = Jvm.exec ∧ γ.c.code = cc ∧ γ.c.maxLocals = n ∧ γ.s.vm.findClass own = some γ.m.cls ∧ (∀ w ∈ gtbl, w.before γ.a γ.s = true) ∧ Kp o γ.s ∧ γ.me.sig.returnType = r ∧ γ.me.locks = false ∧ γ.R.frames = fr ∧ γ.R.locals = lo ∧ γ.l = l ∧ γ.Q = MQ γ.b (Qof o P) γ.a γ.s 0 0 (isA o)
theorem Con.mk {l : Launch} {y : MethodName} {cc : ByteArray} {n : Nat} {r : Option FieldType} {fr lo : Nat} {o : OM} {A : List Value} {mi : MI} {ml : ML} {P : Option Value → MI → ML → Prop} (hy : plainName y.cls = true) (hlen : (lg_sl A).length ≤ n)
    (h : ∀ γ : GT, Cx γ l o y.cls cc n r fr lo P → V γ o n mi ml 0 (lv_args 0 A) []) : Con l y cc n r fr lo o A mi ml P := by
  refine Met.ofW (cc := cc) (maxL := n) (ret := r) hy rfl ?_
  intro p e s m args below meth c s₁ B hml hv
  obtain ⟨rfl, hP, hK⟩ := hv
  have hts := atoms_spec (ws := wsY y cc n r) B.pre
  rw [lg_entry_eq]
  exact h (p, l, e, _, s, m, _, below, meth, c, _) ⟨B.exec, B.bytes, hml, findClass_of_methodNamed B.named, fun w hw => hts w (List.mem_cons_of_mem _ hw), hK, B.returns, B.notSynchronized, rfl, rfl, rfl, rfl⟩ s.heap [] _ hP va_S.rf (lv_entry A hlen)
section ROWS
variable {γ : GT} {l : Launch} {o : OM} {own : String} {cc : ByteArray} {n : Nat} {r : Option FieldType} {fr lo : Nat} {P : Option Value → MI → ML → Prop}
variable {mi : MI} {ml : ML} {pc : Nat} {lv : List (Nat × Value)} {st rest : List Value}
/-- other words for the same -/
theorem V.eq {mi' : MI} {ml' : ML} {lv' : List (Nat × Value)} {st' : List Value} (k : V γ o n mi' ml' pc lv' st') (h1 : mi' = mi) (h2 : ml' = ml) (h3 : lv' = lv) (h4 : st' = st) : V γ o n mi ml pc lv st := by
  subst h1; subst h2; subst h3; subst h4; exact k
theorem V.wk {lv' : List (Nat × Value)} (ks : List Nat) (k : V γ o n mi ml pc lv' st) (h : lv_pick lv ks = lv') : V γ o n mi ml pc lv st := fun H locs ls h1 h2 h3 => k H locs ls h1 h2 (lv_sub h3 ks h)
theorem V.at {pc' : Nat} (h : pc = pc') (k : V γ o n mi ml pc lv st) : V γ o n mi ml pc' lv st := h ▸ k
/-- constants -/
theorem r_iconst (X : Cx γ l o own cc n r fr lo P) {z : Int} {v : Int32} (d : decode cc pc = .ok (.iconst z, 1)) (hv : Int32.ofInt z = v) (k : V γ o n mi ml (pc + 1) lv (.int v :: rest)) : V γ o n mi ml pc lv rest := fun H locs ls h1 h2 h3 => lv_iconst X.1 X.2.1 d hv (k H locs ls h1 h2 h3)
theorem r_bipush (X : Cx γ l o own cc n r fr lo P) {z : Int} {v : Int32} (d : decode cc pc = .ok (.bipush z, 2)) (hv : (Int8.ofInt z).toInt32 = v) (k : V γ o n mi ml (pc + 2) lv (.int v :: rest)) : V γ o n mi ml pc lv rest := fun H locs ls h1 h2 h3 => lv_bipush X.1 X.2.1 d hv (k H locs ls h1 h2 h3)
theorem r_sipush (X : Cx γ l o own cc n r fr lo P) {z : Int} {v : Int32} (d : decode cc pc = .ok (.sipush z, 3)) (hv : (Int16.ofInt z).toInt32 = v) (k : V γ o n mi ml (pc + 3) lv (.int v :: rest)) : V γ o n mi ml pc lv rest := fun H locs ls h1 h2 h3 => lv_sipush X.1 X.2.1 d hv (k H locs ls h1 h2 h3)
theorem r_lconst (X : Cx γ l o own cc n r fr lo P) {z : Fin 2} {v : Int64} (d : decode cc pc = .ok (.lconst z, 1)) (hv : Int64.ofNat (z : Nat) = v) (k : V γ o n mi ml (pc + 1) lv (.long v :: rest)) : V γ o n mi ml pc lv rest := fun H locs ls h1 h2 h3 => lv_lconst X.1 X.2.1 d hv (k H locs ls h1 h2 h3)
theorem r_ldc (X : Cx γ l o own cc n r fr lo P) {ix : Nat} {v0 v : Int32} (w : Cond.constant own ix v0 ∈ gtbl) (hv : v0 = v) (d : decode cc pc = .ok (.ldc ix, 2)) (k : V γ o n mi ml (pc + 2) lv (.int v :: rest)) : V γ o n mi ml pc lv rest := fun H locs ls h1 h2 h3 => lv_ldc X.1 X.2.1 X.2.2.2.1 (hv ▸ X.2.2.2.2.1 _ w) d (k H locs ls h1 h2 h3)
theorem r_ldc2 (X : Cx γ l o own cc n r fr lo P) {ix : Nat} {v : Int64} (w : Cond.constantLong own ix v ∈ gtbl) (d : decode cc pc = .ok (.ldc2_w ix, 3)) (k : V γ o n mi ml (pc + 3) lv (.long v :: rest)) : V γ o n mi ml pc lv rest := fun H locs ls h1 h2 h3 => lv_ldc2 X.1 X.2.1 X.2.2.2.1 (X.2.2.2.2.1 _ w) d (k H locs ls h1 h2 h3)
/-- locals -/
theorem r_iload_n (X : Cx γ l o own cc n r fr lo P) {q : Fin 4} {i : Nat} {x : Int32} (k0 : Nat) (d : decode cc pc = .ok (.iload_n q, 1)) (hi : (q : Nat) = i) (hl : lv[k0]? = some (i, .int x)) (k : V γ o n mi ml (pc + 1) lv (.int x :: rest)) : V γ o n mi ml pc lv rest := fun H locs ls h1 h2 h3 => lv_iload_n X.1 X.2.1 d hi (lv_at h3 k0 hl) (k H locs ls h1 h2 h3)
theorem r_iload (X : Cx γ l o own cc n r fr lo P) {i : Nat} {x : Int32} (k0 : Nat) (d : decode cc pc = .ok (.iload i, 2)) (hl : lv[k0]? = some (i, .int x)) (k : V γ o n mi ml (pc + 2) lv (.int x :: rest)) : V γ o n mi ml pc lv rest := fun H locs ls h1 h2 h3 => lv_iload X.1 X.2.1 d (lv_at h3 k0 hl) (k H locs ls h1 h2 h3)
theorem r_lload_n (X : Cx γ l o own cc n r fr lo P) {q : Fin 4} {i : Nat} {x : Int64} (k0 : Nat) (d : decode cc pc = .ok (.lload_n q, 1)) (hi : (q : Nat) = i) (hl : lv[k0]? = some (i, .long x)) (k : V γ o n mi ml (pc + 1) lv (.long x :: rest)) : V γ o n mi ml pc lv rest := fun H locs ls h1 h2 h3 => lv_lload_n X.1 X.2.1 d hi (lv_at h3 k0 hl) (k H locs ls h1 h2 h3)
theorem r_lload (X : Cx γ l o own cc n r fr lo P) {i : Nat} {x : Int64} (k0 : Nat) (d : decode cc pc = .ok (.lload i, 2)) (hl : lv[k0]? = some (i, .long x)) (k : V γ o n mi ml (pc + 2) lv (.long x :: rest)) : V γ o n mi ml pc lv rest := fun H locs ls h1 h2 h3 => lv_lload X.1 X.2.1 d (lv_at h3 k0 hl) (k H locs ls h1 h2 h3)
theorem r_aload_n (X : Cx γ l o own cc n r fr lo P) {q : Fin 4} {i : Nat} {x : Nat} (k0 : Nat) (d : decode cc pc = .ok (.aload_n q, 1)) (hi : (q : Nat) = i) (hl : lv[k0]? = some (i, .ref x)) (k : V γ o n mi ml (pc + 1) lv (.ref x :: rest)) : V γ o n mi ml pc lv rest := fun H locs ls h1 h2 h3 => lv_aload_n X.1 X.2.1 d hi (lv_at h3 k0 hl) (k H locs ls h1 h2 h3)
theorem r_istore_n (X : Cx γ l o own cc n r fr lo P) {q : Fin 4} {i : Nat} {x : Int32} (lv' : List (Nat × Value)) (d : decode cc pc = .ok (.istore_n q, 1)) (hi : (q : Nat) = i) (hn : i < n) (hl : (i, Value.int x) :: lv.filter (fun q => !(q.1 == i) && !(q.1 + 1 == i && q.2.category == 2)) = lv') (k : V γ o n mi ml (pc + 1) lv' rest) : V γ o n mi ml pc lv (.int x :: rest) := fun H locs ls h1 h2 h3 => lv_istore_n X.1 X.2.1 d hi h3 hn hl (fun ls2 h4 => k H locs ls2 h1 h2 h4)
theorem r_istore (X : Cx γ l o own cc n r fr lo P) {i : Nat} {x : Int32} (lv' : List (Nat × Value)) (d : decode cc pc = .ok (.istore i, 2)) (hn : i < n) (hl : (i, Value.int x) :: lv.filter (fun q => !(q.1 == i) && !(q.1 + 1 == i && q.2.category == 2)) = lv') (k : V γ o n mi ml (pc + 2) lv' rest) : V γ o n mi ml pc lv (.int x :: rest) := fun H locs ls h1 h2 h3 => lv_istore X.1 X.2.1 d h3 hn hl (fun ls2 h4 => k H locs ls2 h1 h2 h4)
theorem r_lstore_n (X : Cx γ l o own cc n r fr lo P) {q : Fin 4} {i : Nat} {x : Int64} (lv' : List (Nat × Value)) (d : decode cc pc = .ok (.lstore_n q, 1)) (hi : (q : Nat) = i) (hn : i + 1 < n) (hl : (i, Value.long x) :: lv.filter (fun q => !(q.1 == i) && (!(q.1 == i + 1) && !(q.1 + 1 == i && q.2.category == 2))) = lv') (k : V γ o n mi ml (pc + 1) lv' rest) : V γ o n mi ml pc lv (.long x :: rest) := fun H locs ls h1 h2 h3 => lv_lstore_n X.1 X.2.1 d hi h3 hn hl (fun ls2 h4 => k H locs ls2 h1 h2 h4)
theorem r_lstore (X : Cx γ l o own cc n r fr lo P) {i : Nat} {x : Int64} (lv' : List (Nat × Value)) (d : decode cc pc = .ok (.lstore i, 2)) (hn : i + 1 < n) (hl : (i, Value.long x) :: lv.filter (fun q => !(q.1 == i) && (!(q.1 == i + 1) && !(q.1 + 1 == i && q.2.category == 2))) = lv') (k : V γ o n mi ml (pc + 2) lv' rest) : V γ o n mi ml pc lv (.long x :: rest) := fun H locs ls h1 h2 h3 => lv_lstore X.1 X.2.1 d h3 hn hl (fun ls2 h4 => k H locs ls2 h1 h2 h4)
theorem r_iinc (X : Cx γ l o own cc n r fr lo P) {i : Nat} {z : Int} {x v : Int32} (k0 : Nat) (lv' : List (Nat × Value)) (d : decode cc pc = .ok (.iinc i z, 3)) (hk : lv[k0]? = some (i, .int x)) (hv : x + Int32.ofInt z = v) (hn : i < n) (hl : (i, Value.int v) :: lv.filter (fun q => !(q.1 == i) && !(q.1 + 1 == i && q.2.category == 2)) = lv') (k : V γ o n mi ml (pc + 3) lv' rest) : V γ o n mi ml pc lv rest := fun H locs ls h1 h2 h3 => lv_iinc X.1 X.2.1 d h3 hk hv hn hl (fun ls2 h4 => k H locs ls2 h1 h2 h4)
end ROWS
end
section
/-! rows of my layer: arithmetic, branches, fields, arrays, calls, ends -/
def bI (b : Bool) : Int32 := if b then 1 else 0
theorem bI_eq0 (b : Bool) : bI b = 0 ↔ b = false := by cases b <;> decide
theorem bI_t : bI true = 1 := rfl
theorem bI_f : bI false = 0 := rfl
theorem bI_nar (b : Bool) : narrow .boolean (.int (bI b)) = .int (bI b) := by cases b <;> rfl
def shl (x : Int64) (k : Nat) : Int64 := x <<< ((nI k).toInt64 &&& 63)
def shr (x : Int64) (k : Nat) : Int64 := x >>> ((nI k).toInt64 &&& 63)
def ushr (x : Int64) (k : Nat) : Int64 := (x.toUInt64 >>> ((nI k).toInt64.toUInt64 &&& Int64.toUInt64 63)).toInt64
section ROWS2
variable {γ : GT} {l : Launch} {o : OM} {own : String} {cc : ByteArray} {n : Nat} {r : Option FieldType} {fr lo : Nat} {P : Option Value → MI → ML → Prop}
variable {mi : MI} {ml : ML} {pc : Nat} {lv : List (Nat × Value)} {st rest : List Value}
theorem r_iadd (X : Cx γ l o own cc n r fr lo P) {x y v : Int32} (d : decode cc pc = .ok (.iadd, 1)) (hv : x + y = v) (k : V γ o n mi ml (pc + 1) lv (.int v :: rest)) : V γ o n mi ml (pc) lv (.int y :: .int x :: rest) := fun H locs ls h1 h2 h3 => lv_iadd X.1 X.2.1 d (by rw [hv]; exact k H locs ls h1 h2 h3)
theorem r_isub (X : Cx γ l o own cc n r fr lo P) {x y v : Int32} (d : decode cc pc = .ok (.isub, 1)) (hv : x - y = v) (k : V γ o n mi ml (pc + 1) lv (.int v :: rest)) : V γ o n mi ml (pc) lv (.int y :: .int x :: rest) := fun H locs ls h1 h2 h3 => lv_isub X.1 X.2.1 d (by rw [hv]; exact k H locs ls h1 h2 h3)
theorem r_imul (X : Cx γ l o own cc n r fr lo P) {x y v : Int32} (d : decode cc pc = .ok (.imul, 1)) (hv : x * y = v) (k : V γ o n mi ml (pc + 1) lv (.int v :: rest)) : V γ o n mi ml (pc) lv (.int y :: .int x :: rest) := fun H locs ls h1 h2 h3 => lv_imul X.1 X.2.1 d (by rw [hv]; exact k H locs ls h1 h2 h3)
theorem r_iand (X : Cx γ l o own cc n r fr lo P) {x y v : Int32} (d : decode cc pc = .ok (.iand, 1)) (hv : x &&& y = v) (k : V γ o n mi ml (pc + 1) lv (.int v :: rest)) : V γ o n mi ml (pc) lv (.int y :: .int x :: rest) := fun H locs ls h1 h2 h3 => lv_iand X.1 X.2.1 d (by rw [hv]; exact k H locs ls h1 h2 h3)
theorem r_idiv (X : Cx γ l o own cc n r fr lo P) {x y v : Int32} (d : decode cc pc = .ok (.idiv, 1)) (hne : ¬ y = 0) (hv : x / y = v) (k : V γ o n mi ml (pc + 1) lv (.int v :: rest)) : V γ o n mi ml (pc) lv (.int y :: .int x :: rest) := fun H locs ls h1 h2 h3 => lv_idiv X.1 X.2.1 d hne (by rw [hv]; exact k H locs ls h1 h2 h3)
theorem r_irem (X : Cx γ l o own cc n r fr lo P) {x y v : Int32} (d : decode cc pc = .ok (.irem, 1)) (hne : ¬ y = 0) (hv : x - x / y * y = v) (k : V γ o n mi ml (pc + 1) lv (.int v :: rest)) : V γ o n mi ml (pc) lv (.int y :: .int x :: rest) := fun H locs ls h1 h2 h3 => lv_irem X.1 X.2.1 d hne (by rw [hv]; exact k H locs ls h1 h2 h3)
theorem r_ladd (X : Cx γ l o own cc n r fr lo P) {x y v : Int64} (d : decode cc pc = .ok (.ladd, 1)) (hv : x + y = v) (k : V γ o n mi ml (pc + 1) lv (.long v :: rest)) : V γ o n mi ml (pc) lv (.long y :: .long x :: rest) := fun H locs ls h1 h2 h3 => lv_ladd X.1 X.2.1 d (by rw [hv]; exact k H locs ls h1 h2 h3)
theorem r_lsub (X : Cx γ l o own cc n r fr lo P) {x y v : Int64} (d : decode cc pc = .ok (.lsub, 1)) (hv : x - y = v) (k : V γ o n mi ml (pc + 1) lv (.long v :: rest)) : V γ o n mi ml (pc) lv (.long y :: .long x :: rest) := fun H locs ls h1 h2 h3 => lv_lsub X.1 X.2.1 d (by rw [hv]; exact k H locs ls h1 h2 h3)
theorem r_lmul (X : Cx γ l o own cc n r fr lo P) {x y v : Int64} (d : decode cc pc = .ok (.lmul, 1)) (hv : x * y = v) (k : V γ o n mi ml (pc + 1) lv (.long v :: rest)) : V γ o n mi ml (pc) lv (.long y :: .long x :: rest) := fun H locs ls h1 h2 h3 => lv_lmul X.1 X.2.1 d (by rw [hv]; exact k H locs ls h1 h2 h3)
theorem r_land (X : Cx γ l o own cc n r fr lo P) {x y v : Int64} (d : decode cc pc = .ok (.land, 1)) (hv : x &&& y = v) (k : V γ o n mi ml (pc + 1) lv (.long v :: rest)) : V γ o n mi ml (pc) lv (.long y :: .long x :: rest) := fun H locs ls h1 h2 h3 => lv_land X.1 X.2.1 d (by rw [hv]; exact k H locs ls h1 h2 h3)
theorem r_lor (X : Cx γ l o own cc n r fr lo P) {x y v : Int64} (d : decode cc pc = .ok (.lor, 1)) (hv : x ||| y = v) (k : V γ o n mi ml (pc + 1) lv (.long v :: rest)) : V γ o n mi ml (pc) lv (.long y :: .long x :: rest) := fun H locs ls h1 h2 h3 => lv_lor X.1 X.2.1 d (by rw [hv]; exact k H locs ls h1 h2 h3)
theorem r_lxor (X : Cx γ l o own cc n r fr lo P) {x y v : Int64} (d : decode cc pc = .ok (.lxor, 1)) (hv : x ^^^ y = v) (k : V γ o n mi ml (pc + 1) lv (.long v :: rest)) : V γ o n mi ml (pc) lv (.long y :: .long x :: rest) := fun H locs ls h1 h2 h3 => lv_lxor X.1 X.2.1 d (by rw [hv]; exact k H locs ls h1 h2 h3)
theorem r_lrem (X : Cx γ l o own cc n r fr lo P) {x y v : Int64} (d : decode cc pc = .ok (.lrem, 1)) (hne : ¬ y = 0) (hv : x - x / y * y = v) (k : V γ o n mi ml (pc + 1) lv (.long v :: rest)) : V γ o n mi ml (pc) lv (.long y :: .long x :: rest) := fun H locs ls h1 h2 h3 => lv_lrem X.1 X.2.1 d hne (by rw [hv]; exact k H locs ls h1 h2 h3)
theorem r_i2l (X : Cx γ l o own cc n r fr lo P) {x : Int32} {v : Int64} (d : decode cc pc = .ok (.i2l, 1)) (hv : x.toInt64 = v) (k : V γ o n mi ml (pc + 1) lv (.long v :: rest)) : V γ o n mi ml (pc) lv (.int x :: rest) := fun H locs ls h1 h2 h3 => lv_i2l X.1 X.2.1 d hv (k H locs ls h1 h2 h3)
theorem r_l2i (X : Cx γ l o own cc n r fr lo P) {x : Int64} {v : Int32} (d : decode cc pc = .ok (.l2i, 1)) (hv : x.toInt32 = v) (k : V γ o n mi ml (pc + 1) lv (.int v :: rest)) : V γ o n mi ml (pc) lv (.long x :: rest) := fun H locs ls h1 h2 h3 => lv_l2i X.1 X.2.1 d hv (k H locs ls h1 h2 h3)
theorem r_lushr (X : Cx γ l o own cc n r fr lo P) {x v : Int64} {y : Int32} (d : decode cc pc = .ok (.lushr, 1)) (hv : (x.toUInt64 >>> (y.toInt64.toUInt64 &&& Int64.toUInt64 63)).toInt64 = v) (k : V γ o n mi ml (pc + 1) lv (.long v :: rest)) : V γ o n mi ml (pc) lv (.int y :: .long x :: rest) := fun H locs ls h1 h2 h3 => lv_lushr X.1 X.2.1 d hv (k H locs ls h1 h2 h3)
theorem r_lshl (X : Cx γ l o own cc n r fr lo P) {x v : Int64} {y : Int32} (d : decode cc pc = .ok (.lshl, 1)) (hv : x <<< (y.toInt64 &&& 63) = v) (k : V γ o n mi ml (pc + 1) lv (.long v :: rest)) : V γ o n mi ml (pc) lv (.int y :: .long x :: rest) := fun H locs ls h1 h2 h3 => lv_lshl X.1 X.2.1 d hv (k H locs ls h1 h2 h3)
theorem r_lshr (X : Cx γ l o own cc n r fr lo P) {x v : Int64} {y : Int32} (d : decode cc pc = .ok (.lshr, 1)) (hv : x >>> (y.toInt64 &&& 63) = v) (k : V γ o n mi ml (pc + 1) lv (.long v :: rest)) : V γ o n mi ml (pc) lv (.int y :: .long x :: rest) := fun H locs ls h1 h2 h3 => lv_lshr X.1 X.2.1 d hv (k H locs ls h1 h2 h3)
theorem r_dup (X : Cx γ l o own cc n r fr lo P) {a : Value} (d : decode cc pc = .ok (.dup, 1)) (ha : a.category = 1) (k : V γ o n mi ml (pc + 1) lv (a :: a :: rest)) : V γ o n mi ml (pc) lv (a :: rest) := fun H locs ls h1 h2 h3 => lv_dup X.1 X.2.1 d ha (k H locs ls h1 h2 h3)
theorem r_pop (X : Cx γ l o own cc n r fr lo P) {a : Value} (d : decode cc pc = .ok (.pop, 1)) (ha : a.category = 1) (k : V γ o n mi ml (pc + 1) lv (rest)) : V γ o n mi ml (pc) lv (a :: rest) := fun H locs ls h1 h2 h3 => lv_pop X.1 X.2.1 d ha (k H locs ls h1 h2 h3)
theorem r_dup2_2 (X : Cx γ l o own cc n r fr lo P) {a : Value} (d : decode cc pc = .ok (.dup2, 1)) (ha : a.category = 2) (k : V γ o n mi ml (pc + 1) lv (a :: a :: rest)) : V γ o n mi ml (pc) lv (a :: rest) := fun H locs ls h1 h2 h3 => lv_dup2_2 X.1 X.2.1 d ha (k H locs ls h1 h2 h3)
theorem r_dup2_11 (X : Cx γ l o own cc n r fr lo P) {a b : Value} (d : decode cc pc = .ok (.dup2, 1)) (ha : a.category = 1) (hb : b.category = 1) (k : V γ o n mi ml (pc + 1) lv (a :: b :: a :: b :: rest)) : V γ o n mi ml (pc) lv (a :: b :: rest) := fun H locs ls h1 h2 h3 => lv_dup2_11 X.1 X.2.1 d ha hb (k H locs ls h1 h2 h3)
theorem r_lcmp (X : Cx γ l o own cc n r fr lo P) {x y : Int64} (d : decode cc pc = .ok (.lcmp, 1)) (k : V γ o n mi ml (pc + 1) lv (.int (lg_cmp x y) :: rest)) : V γ o n mi ml (pc) lv (.long y :: .long x :: rest) := fun H locs ls h1 h2 h3 => W.lcmp X.1 X.2.1 d (k H locs ls h1 h2 h3)
theorem r_goto (X : Cx γ l o own cc n r fr lo P) {off : Int} {tgt : Nat} (d : decode cc pc = .ok (.goto off, 3)) (ht : (pc : Int) + off = (tgt : Int)) (k : V γ o n mi ml (tgt) lv (rest)) : V γ o n mi ml (pc) lv (rest) := fun H locs ls h1 h2 h3 => lv_goto X.1 X.2.1 d ht (k H locs ls h1 h2 h3)
theorem r_ifeq (X : Cx γ l o own cc n r fr lo P) {x : Int32} {c : Prop} {off : Int} {tgt : Nat} (d : decode cc pc = .ok (.ifCond .eq off, 3)) (ht : (pc : Int) + off = (tgt : Int)) (hc : (x = 0) ↔ c) (kt : c → V γ o n mi ml (tgt) lv (rest)) (kf : ¬ c → V γ o n mi ml (pc + 3) lv (rest)) : V γ o n mi ml (pc) lv (.int x :: rest) := fun H locs ls h1 h2 h3 => lv_if_eq X.1 X.2.1 d ht (fun q => kt (hc.mp q) H locs ls h1 h2 h3) (fun q => kf (fun z => q (hc.mpr z)) H locs ls h1 h2 h3)
theorem r_iceq (X : Cx γ l o own cc n r fr lo P) {x y : Int32} {c : Prop} {off : Int} {tgt : Nat} (d : decode cc pc = .ok (.if_icmp .eq off, 3)) (ht : (pc : Int) + off = (tgt : Int)) (hc : (x = y) ↔ c) (kt : c → V γ o n mi ml (tgt) lv (rest)) (kf : ¬ c → V γ o n mi ml (pc + 3) lv (rest)) : V γ o n mi ml (pc) lv (.int y :: .int x :: rest) := fun H locs ls h1 h2 h3 => lv_icmp_eq X.1 X.2.1 d ht (fun q => kt (hc.mp q) H locs ls h1 h2 h3) (fun q => kf (fun z => q (hc.mpr z)) H locs ls h1 h2 h3)
theorem r_ifne (X : Cx γ l o own cc n r fr lo P) {x : Int32} {c : Prop} {off : Int} {tgt : Nat} (d : decode cc pc = .ok (.ifCond .ne off, 3)) (ht : (pc : Int) + off = (tgt : Int)) (hc : (¬ x = 0) ↔ c) (kt : c → V γ o n mi ml (tgt) lv (rest)) (kf : ¬ c → V γ o n mi ml (pc + 3) lv (rest)) : V γ o n mi ml (pc) lv (.int x :: rest) := fun H locs ls h1 h2 h3 => lv_if_ne X.1 X.2.1 d ht (fun q => kt (hc.mp q) H locs ls h1 h2 h3) (fun q => kf (fun z => hc.mpr z q) H locs ls h1 h2 h3)
theorem r_icne (X : Cx γ l o own cc n r fr lo P) {x y : Int32} {c : Prop} {off : Int} {tgt : Nat} (d : decode cc pc = .ok (.if_icmp .ne off, 3)) (ht : (pc : Int) + off = (tgt : Int)) (hc : (¬ x = y) ↔ c) (kt : c → V γ o n mi ml (tgt) lv (rest)) (kf : ¬ c → V γ o n mi ml (pc + 3) lv (rest)) : V γ o n mi ml (pc) lv (.int y :: .int x :: rest) := fun H locs ls h1 h2 h3 => lv_icmp_ne X.1 X.2.1 d ht (fun q => kt (hc.mp q) H locs ls h1 h2 h3) (fun q => kf (fun z => hc.mpr z q) H locs ls h1 h2 h3)
theorem r_iflt (X : Cx γ l o own cc n r fr lo P) {x : Int32} {c : Prop} {off : Int} {tgt : Nat} (d : decode cc pc = .ok (.ifCond .lt off, 3)) (ht : (pc : Int) + off = (tgt : Int)) (hc : (x < 0) ↔ c) (kt : c → V γ o n mi ml (tgt) lv (rest)) (kf : ¬ c → V γ o n mi ml (pc + 3) lv (rest)) : V γ o n mi ml (pc) lv (.int x :: rest) := fun H locs ls h1 h2 h3 => lv_if_lt X.1 X.2.1 d ht (fun q => kt (hc.mp q) H locs ls h1 h2 h3) (fun q => kf (fun z => q (hc.mpr z)) H locs ls h1 h2 h3)
theorem r_iclt (X : Cx γ l o own cc n r fr lo P) {x y : Int32} {c : Prop} {off : Int} {tgt : Nat} (d : decode cc pc = .ok (.if_icmp .lt off, 3)) (ht : (pc : Int) + off = (tgt : Int)) (hc : (x < y) ↔ c) (kt : c → V γ o n mi ml (tgt) lv (rest)) (kf : ¬ c → V γ o n mi ml (pc + 3) lv (rest)) : V γ o n mi ml (pc) lv (.int y :: .int x :: rest) := fun H locs ls h1 h2 h3 => lv_icmp_lt X.1 X.2.1 d ht (fun q => kt (hc.mp q) H locs ls h1 h2 h3) (fun q => kf (fun z => q (hc.mpr z)) H locs ls h1 h2 h3)
theorem r_ifge (X : Cx γ l o own cc n r fr lo P) {x : Int32} {c : Prop} {off : Int} {tgt : Nat} (d : decode cc pc = .ok (.ifCond .ge off, 3)) (ht : (pc : Int) + off = (tgt : Int)) (hc : (0 ≤ x) ↔ c) (kt : c → V γ o n mi ml (tgt) lv (rest)) (kf : ¬ c → V γ o n mi ml (pc + 3) lv (rest)) : V γ o n mi ml (pc) lv (.int x :: rest) := fun H locs ls h1 h2 h3 => lv_if_ge X.1 X.2.1 d ht (fun q => kt (hc.mp q) H locs ls h1 h2 h3) (fun q => kf (fun z => q (hc.mpr z)) H locs ls h1 h2 h3)
theorem r_icge (X : Cx γ l o own cc n r fr lo P) {x y : Int32} {c : Prop} {off : Int} {tgt : Nat} (d : decode cc pc = .ok (.if_icmp .ge off, 3)) (ht : (pc : Int) + off = (tgt : Int)) (hc : (y ≤ x) ↔ c) (kt : c → V γ o n mi ml (tgt) lv (rest)) (kf : ¬ c → V γ o n mi ml (pc + 3) lv (rest)) : V γ o n mi ml (pc) lv (.int y :: .int x :: rest) := fun H locs ls h1 h2 h3 => lv_icmp_ge X.1 X.2.1 d ht (fun q => kt (hc.mp q) H locs ls h1 h2 h3) (fun q => kf (fun z => q (hc.mpr z)) H locs ls h1 h2 h3)
theorem r_ifgt (X : Cx γ l o own cc n r fr lo P) {x : Int32} {c : Prop} {off : Int} {tgt : Nat} (d : decode cc pc = .ok (.ifCond .gt off, 3)) (ht : (pc : Int) + off = (tgt : Int)) (hc : (0 < x) ↔ c) (kt : c → V γ o n mi ml (tgt) lv (rest)) (kf : ¬ c → V γ o n mi ml (pc + 3) lv (rest)) : V γ o n mi ml (pc) lv (.int x :: rest) := fun H locs ls h1 h2 h3 => lv_if_gt X.1 X.2.1 d ht (fun q => kt (hc.mp q) H locs ls h1 h2 h3) (fun q => kf (fun z => q (hc.mpr z)) H locs ls h1 h2 h3)
theorem r_icgt (X : Cx γ l o own cc n r fr lo P) {x y : Int32} {c : Prop} {off : Int} {tgt : Nat} (d : decode cc pc = .ok (.if_icmp .gt off, 3)) (ht : (pc : Int) + off = (tgt : Int)) (hc : (y < x) ↔ c) (kt : c → V γ o n mi ml (tgt) lv (rest)) (kf : ¬ c → V γ o n mi ml (pc + 3) lv (rest)) : V γ o n mi ml (pc) lv (.int y :: .int x :: rest) := fun H locs ls h1 h2 h3 => lv_icmp_gt X.1 X.2.1 d ht (fun q => kt (hc.mp q) H locs ls h1 h2 h3) (fun q => kf (fun z => q (hc.mpr z)) H locs ls h1 h2 h3)
theorem r_ifle (X : Cx γ l o own cc n r fr lo P) {x : Int32} {c : Prop} {off : Int} {tgt : Nat} (d : decode cc pc = .ok (.ifCond .le off, 3)) (ht : (pc : Int) + off = (tgt : Int)) (hc : (x ≤ 0) ↔ c) (kt : c → V γ o n mi ml (tgt) lv (rest)) (kf : ¬ c → V γ o n mi ml (pc + 3) lv (rest)) : V γ o n mi ml (pc) lv (.int x :: rest) := fun H locs ls h1 h2 h3 => lv_if_le X.1 X.2.1 d ht (fun q => kt (hc.mp q) H locs ls h1 h2 h3) (fun q => kf (fun z => q (hc.mpr z)) H locs ls h1 h2 h3)
theorem r_icle (X : Cx γ l o own cc n r fr lo P) {x y : Int32} {c : Prop} {off : Int} {tgt : Nat} (d : decode cc pc = .ok (.if_icmp .le off, 3)) (ht : (pc : Int) + off = (tgt : Int)) (hc : (x ≤ y) ↔ c) (kt : c → V γ o n mi ml (tgt) lv (rest)) (kf : ¬ c → V γ o n mi ml (pc + 3) lv (rest)) : V γ o n mi ml (pc) lv (.int y :: .int x :: rest) := fun H locs ls h1 h2 h3 => lv_icmp_le X.1 X.2.1 d ht (fun q => kt (hc.mp q) H locs ls h1 h2 h3) (fun q => kf (fun z => q (hc.mpr z)) H locs ls h1 h2 h3)
theorem r_ifeqB (X : Cx γ l o own cc n r fr lo P) {b : Bool} {off : Int} {tgt : Nat} (d : decode cc pc = .ok (.ifCond .eq off, 3)) (ht : (pc : Int) + off = (tgt : Int)) (kt : b = false → V γ o n mi ml (tgt) lv (rest)) (kf : b = true → V γ o n mi ml (pc + 3) lv (rest)) : V γ o n mi ml (pc) lv (.int (bI b) :: rest) := r_ifeq X d ht (bI_eq0 b) kt (fun q => kf (by simpa using q))
theorem r_ifneB (X : Cx γ l o own cc n r fr lo P) {b : Bool} {off : Int} {tgt : Nat} (d : decode cc pc = .ok (.ifCond .ne off, 3)) (ht : (pc : Int) + off = (tgt : Int)) (kt : b = true → V γ o n mi ml (tgt) lv (rest)) (kf : b = false → V γ o n mi ml (pc + 3) lv (rest)) : V γ o n mi ml (pc) lv (.int (bI b) :: rest) := r_ifne X d ht (c := b = true) (by rw [bI_eq0]; simp) kt (fun q => kf (by simpa using q))
theorem r_end_i (X : Cx γ l o own cc n (some .int) fr lo P) {v : Int32} (d : decode cc pc = .ok (.ireturn, 1)) (h : P (some (.int v)) mi ml) : V γ o n mi ml pc lv [.int v] := by
  intro H locs ls h1 h2 h3
  rw [X.2.2.2.2.2.2.2.2.2.2.2]
  exact W.iret (Qc := Qof o P) X.1 X.2.1 X.2.2.2.2.2.2.1 (fun t ht _ => ⟨⟨_, mi, ml, rfl, h, by rw [ht]; exact h1⟩, h2.F ht⟩) h2.2.2 d X.2.2.2.2.2.2.2.1
theorem r_end_z (X : Cx γ l o own cc n (some .boolean) fr lo P) {v : Int32} (hn : narrow .boolean (.int v) = .int v) (d : decode cc pc = .ok (.ireturn, 1)) (h : P (some (.int v)) mi ml) : V γ o n mi ml pc lv [.int v] := by
  intro H locs ls h1 h2 h3
  rw [X.2.2.2.2.2.2.2.2.2.2.2]
  exact W.zret (Qc := Qof o P) X.1 X.2.1 X.2.2.2.2.2.2.1 hn (fun t ht _ => ⟨⟨_, mi, ml, rfl, h, by rw [ht]; exact h1⟩, h2.F ht⟩) h2.2.2 d X.2.2.2.2.2.2.2.1
theorem r_end_l (X : Cx γ l o own cc n (some .long) fr lo P) {v : Int64} (d : decode cc pc = .ok (.lreturn, 1)) (h : P (some (.long v)) mi ml) : V γ o n mi ml pc lv [.long v] := by
  intro H locs ls h1 h2 h3
  rw [X.2.2.2.2.2.2.2.2.2.2.2]
  exact W.lret (Qc := Qof o P) X.1 X.2.1 X.2.2.2.2.2.2.1 (fun t ht _ => ⟨⟨_, mi, ml, rfl, h, by rw [ht]; exact h1⟩, h2.F ht⟩) h2.2.2 d X.2.2.2.2.2.2.2.1
theorem r_end_v (X : Cx γ l o own cc n none fr lo P) (d : decode cc pc = .ok (.return_, 1)) (h : P none mi ml) : V γ o n mi ml pc lv [] := by
  intro H locs ls h1 h2 h3
  rw [X.2.2.2.2.2.2.2.2.2.2.2]
  exact W.vret (Qc := Qof o P) X.1 X.2.1 X.2.2.2.2.2.2.1 (fun t ht _ => ⟨⟨_, mi, ml, rfl, h, by rw [ht]; exact h1⟩, h2.F ht⟩) h2.2.2 d X.2.2.2.2.2.2.2.1
/-- a field's site: class number, slot -/
def FOK (own : String) (ix ci k : Nat) : Prop := ∃ (C : String) (T : u_T) (N : Nat), vcl[ci]? = some (C, T, N) ∧ (∀ w ∈ u_ws C T N, w ∈ gtbl) ∧ k < N ∧ Cond.fieldLink own ix (T k).1 (T k).2.1 (T k).2.2.1 ∈ gtbl
def FOKw (own : String) (ix ci k : Nat) (ty : FieldType) : Prop := ∃ (C : String) (T : u_T) (N : Nat) (ty0 : Nat → FieldType), vcl[ci]? = some (C, T, N) ∧ (∀ w ∈ u_ws C T N, w ∈ gtbl) ∧ k < N ∧ Cond.fieldLink own ix (T k).1 (T k).2.1 (T k).2.2.1 ∈ gtbl ∧ (∀ k, k < N → parseFieldDescriptor (T k).2.2.1 = some (ty0 k)) ∧ (∀ a, a < N → ∀ b, b < N → a ≠ b → (T a).2.1 ≠ (T b).2.1) ∧ (T k).2.2.2 = false ∧ parseFieldDescriptor (T k).2.2.1 = some ty
theorem r_get (X : Cx γ l o own cc n r fr lo P) {i ix ci : Nat} {k : Nat} {F : (Nat → Int32) → (Nat → Int64) → List Value} (f : FOK own ix ci k) (hi : i < 111) (hc : ∀ f g, cE o f g i = .inr (ci, F f g)) {v : Value} (hv : (F (mi i) (ml i))[k]? = some v) (d : decode cc pc = .ok (.getfield ix, 3)) (kk : V γ o n mi ml (pc + 3) lv (v :: rest)) : V γ o n mi ml pc lv (.ref (ads o i) :: rest) := by
  intro H locs ls h1 h2 h3
  obtain ⟨C, T, N, e1, e2, e3, e4⟩ := f
  exact va_get X.1 X.2.1 X.2.2.2.2.1 e2 X.2.2.2.1 X.2.2.2.2.2.1.1 h1 i (by rw [cells_at o mi ml hi, hc]) e1 k e3 (X.2.2.2.2.1 _ e4) (fun _ h => h) hv d (kk H locs ls h1 h2 h3)
theorem r_put (X : Cx γ l o own cc n r fr lo P) {i ix ci : Nat} {k : Nat} {F : (Nat → Int32) → (Nat → Int64) → List Value} {ty : FieldType} (f : FOKw own ix ci k ty) (hi : i < 111) (hc : ∀ f g, cE o f g i = .inr (ci, F f g)) {v : Value} {mi' : MI} {ml' : ML} (hm : ∀ j, j ≠ i → mi' j = mi j ∧ ml' j = ml j) (hs : F (mi' i) (ml' i) = (F (mi i) (ml i)).set k v) (hl : k < (F (mi i) (ml i)).length) (hn : narrow ty v = v) (hf : fits ty v = true) (d : decode cc pc = .ok (.putfield ix, 3)) (kk : V γ o n mi' ml' (pc + 3) lv rest) : V γ o n mi ml pc lv (v :: .ref (ads o i) :: rest) := by
  intro H locs ls h1 h2 h3
  obtain ⟨C, T, N, ty0, e1, e2, e3, e4, e5, e6, e7, e8⟩ := f
  refine va_put X.1 X.2.1 X.2.2.2.2.1 e2 ty0 e5 e6 X.2.2.2.1 X.2.2.2.2.2.1.1 h1 (cells_D o mi ml) h2 i (by rw [cells_at o mi ml hi, hc]) e1 k e3 (X.2.2.2.2.1 _ e4) (fun _ h => h) e7 e8 hn hf hl d (fun H1 locs1 g1 g2 g3 => ?_)
  rw [cells_set o (mi' := mi') (ml' := ml') hi hm (by rw [hc, hs])] at g1
  exact kk H1 locs1 ls g1 g3 h3
theorem r_putI (X : Cx γ l o own cc n r fr lo P) {i ix ci : Nat} {k : Nat} {F : (Nat → Int32) → (Nat → Int64) → List Value} (f : FOKw own ix ci k .int) (hi : i < 111) (hc : ∀ f g, cE o f g i = .inr (ci, F f g)) {x : Int32} (hs : ∀ f g, F (uf f k x) g = (F f g).set k (.int x)) (hl : k < (F (mi i) (ml i)).length) (d : decode cc pc = .ok (.putfield ix, 3)) (kk : V γ o n (u2 mi i k x) ml (pc + 3) lv rest) : V γ o n mi ml pc lv (.int x :: .ref (ads o i) :: rest) :=
  r_put X f hi hc (fun j hj => ⟨u2_n mi k x hj, rfl⟩) (by rw [u2_s]; exact hs _ _) hl rfl rfl d kk
theorem r_putZ (X : Cx γ l o own cc n r fr lo P) {i ix ci : Nat} {k : Nat} {F : (Nat → Int32) → (Nat → Int64) → List Value} (f : FOKw own ix ci k .boolean) (hi : i < 111) (hc : ∀ f g, cE o f g i = .inr (ci, F f g)) {x : Int32} (hs : ∀ f g, F (uf f k x) g = (F f g).set k (.int x)) (hl : k < (F (mi i) (ml i)).length) (hn : narrow .boolean (.int x) = .int x) (hf : fits .boolean (.int x) = true) (d : decode cc pc = .ok (.putfield ix, 3)) (kk : V γ o n (u2 mi i k x) ml (pc + 3) lv rest) : V γ o n mi ml pc lv (.int x :: .ref (ads o i) :: rest) :=
  r_put X f hi hc (fun j hj => ⟨u2_n mi k x hj, rfl⟩) (by rw [u2_s]; exact hs _ _) hl hn hf d kk
theorem r_putL (X : Cx γ l o own cc n r fr lo P) {i ix ci : Nat} {k : Nat} {F : (Nat → Int32) → (Nat → Int64) → List Value} (f : FOKw own ix ci k .long) (hi : i < 111) (hc : ∀ f g, cE o f g i = .inr (ci, F f g)) {x : Int64} (hs : ∀ f g, F f (uf g k x) = (F f g).set k (.long x)) (hl : k < (F (mi i) (ml i)).length) (d : decode cc pc = .ok (.putfield ix, 3)) (kk : V γ o n mi (u2 ml i k x) (pc + 3) lv rest) : V γ o n mi ml pc lv (.long x :: .ref (ads o i) :: rest) :=
  r_put X f hi hc (fun j hj => ⟨rfl, u2_n ml k x hj⟩) (by rw [u2_s]; exact hs _ _) hl rfl rfl d kk
/-- arrays -/
theorem r_iald (X : Cx γ l o own cc n r fr lo P) {i m j : Nat} {v : Int32} (hi : i < 111) (hc : ∀ f g, cE o f g i = aI o m f) (hm : m < 2 ^ 31) (hj : j < m) (hv : mi i j = v) (d : decode cc pc = .ok (.iaload, 1)) (k : V γ o n mi ml (pc + 1) lv (.int v :: rest)) : V γ o n mi ml pc lv (.int (nI j) :: .ref (ads o i) :: rest) := by
  intro H locs ls h1 h2 h3
  refine va_iald X.1 X.2.1 X.2.2.2.2.2.1.1 h1 i 0 (f := mi i) (n := m) (cA := o.2.2 0) (by rw [cells_at o mi ml hi, hc]; rfl) rfl (vp_in_nI hj hm) d ?_
  rw [nI_clamp (Nat.lt_trans hj hm), hv]
  exact k H locs ls h1 h2 h3
theorem r_zald (X : Cx γ l o own cc n r fr lo P) {i m j : Nat} {v : Int32} (hi : i < 111) (hc : ∀ f g, cE o f g i = aZ o m f) (hm : m < 2 ^ 31) (hj : j < m) (hv : mi i j = v) (d : decode cc pc = .ok (.baload, 1)) (k : V γ o n mi ml (pc + 1) lv (.int v :: rest)) : V γ o n mi ml pc lv (.int (nI j) :: .ref (ads o i) :: rest) := by
  intro H locs ls h1 h2 h3
  refine va_zald X.1 X.2.1 X.2.2.2.2.2.1.1 h1 i 2 (f := mi i) (n := m) (cA := o.2.2 2) (by rw [cells_at o mi ml hi, hc]; rfl) rfl (vp_in_nI hj hm) d ?_
  rw [nI_clamp (Nat.lt_trans hj hm), hv]
  exact k H locs ls h1 h2 h3
theorem r_lald (X : Cx γ l o own cc n r fr lo P) {i m j : Nat} {v : Int64} (hi : i < 111) (hc : ∀ f g, cE o f g i = aJ o m g) (hm : m < 2 ^ 31) (hj : j < m) (hv : ml i j = v) (d : decode cc pc = .ok (.laload, 1)) (k : V γ o n mi ml (pc + 1) lv (.long v :: rest)) : V γ o n mi ml pc lv (.int (nI j) :: .ref (ads o i) :: rest) := by
  intro H locs ls h1 h2 h3
  refine va_lald X.1 X.2.1 X.2.2.2.2.2.1.1 h1 i 1 (f := ml i) (n := m) (cA := o.2.2 1) (by rw [cells_at o mi ml hi, hc]; rfl) rfl (vp_in_nI hj hm) d ?_
  rw [nI_clamp (Nat.lt_trans hj hm), hv]
  exact k H locs ls h1 h2 h3
theorem r_aaldS (X : Cx γ l o own cc n r fr lo P) {i m j a : Nat} {F : Nat → Option Nat} (hi : i < 111) (hc : ∀ f g, cE o f g i = aSt o m F) (hm : m < 2 ^ 31) (hj : j < m) (hv : F j = some a) (d : decode cc pc = .ok (.aaload, 1)) (k : V γ o n mi ml (pc + 1) lv (.ref a :: rest)) : V γ o n mi ml pc lv (.int (nI j) :: .ref (ads o i) :: rest) := by
  intro H locs ls h1 h2 h3
  refine va_aldq X.1 X.2.1 X.2.2.2.2.2.1.1 h1 i 4 (f := F) (n := m) (cA := o.2.2 4) (C := "NearMarks$State") (by rw [cells_at o mi ml hi, hc]; rfl) rfl (vp_in_nI hj hm) d ?_
  rw [nI_clamp (Nat.lt_trans hj hm), hv]
  exact k H locs ls h1 h2 h3
theorem r_aaldI (X : Cx γ l o own cc n r fr lo P) {i m j a : Nat} {F : Nat → Option Nat} (hi : i < 111) (hc : ∀ f g, cE o f g i = aIm o m F) (hm : m < 2 ^ 31) (hj : j < m) (hv : F j = some a) (d : decode cc pc = .ok (.aaload, 1)) (k : V γ o n mi ml (pc + 1) lv (.ref a :: rest)) : V γ o n mi ml pc lv (.int (nI j) :: .ref (ads o i) :: rest) := by
  intro H locs ls h1 h2 h3
  refine va_aldq X.1 X.2.1 X.2.2.2.2.2.1.1 h1 i 3 (f := F) (n := m) (cA := o.2.2 3) (C := "NearMarks$Image") (by rw [cells_at o mi ml hi, hc]; rfl) rfl (vp_in_nI hj hm) d ?_
  rw [nI_clamp (Nat.lt_trans hj hm), hv]
  exact k H locs ls h1 h2 h3
theorem r_iast (X : Cx γ l o own cc n r fr lo P) {i m j : Nat} {x : Int32} (hi : i < 111) (hc : ∀ f g, cE o f g i = aI o m f) (hm : m < 2 ^ 31) (hj : j < m) (d : decode cc pc = .ok (.iastore, 1)) (k : V γ o n (u2 mi i j x) ml (pc + 1) lv rest) : V γ o n mi ml pc lv (.int x :: .int (nI j) :: .ref (ads o i) :: rest) := by
  intro H locs ls h1 h2 h3
  refine va_iast X.1 X.2.1 X.2.2.2.2.2.1.1 h1 (cells_D o mi ml) h2 i 0 (f := mi i) (n := m) (cA := o.2.2 0) (by rw [cells_at o mi ml hi, hc]; rfl) rfl (vp_in_nI hj hm) d (fun H1 locs1 g1 g2 g3 => ?_)
  rw [nI_clamp (Nat.lt_trans hj hm), cells_set o (mi' := u2 mi i j x) (ml' := ml) hi (fun q hq => ⟨u2_n mi j x hq, rfl⟩) (by rw [hc, u2_s]; rfl)] at g1
  exact k H1 locs1 ls g1 g3 h3
theorem r_zast (X : Cx γ l o own cc n r fr lo P) {i m j : Nat} {x : Int32} (hx : vp_nar .boolean x = x) (hi : i < 111) (hc : ∀ f g, cE o f g i = aZ o m f) (hm : m < 2 ^ 31) (hj : j < m) (d : decode cc pc = .ok (.bastore, 1)) (k : V γ o n (u2 mi i j x) ml (pc + 1) lv rest) : V γ o n mi ml pc lv (.int x :: .int (nI j) :: .ref (ads o i) :: rest) := by
  intro H locs ls h1 h2 h3
  refine va_zast X.1 X.2.1 X.2.2.2.2.2.1.1 h1 (cells_D o mi ml) h2 i 2 (f := mi i) (n := m) (cA := o.2.2 2) (by rw [cells_at o mi ml hi, hc]; rfl) rfl (vp_in_nI hj hm) d (fun H1 locs1 g1 g2 g3 => ?_)
  rw [nI_clamp (Nat.lt_trans hj hm), hx, cells_set o (mi' := u2 mi i j x) (ml' := ml) hi (fun q hq => ⟨u2_n mi j x hq, rfl⟩) (by rw [hc, u2_s]; rfl)] at g1
  exact k H1 locs1 ls g1 g3 h3
theorem r_last (X : Cx γ l o own cc n r fr lo P) {i m j : Nat} {x : Int64} (hi : i < 111) (hc : ∀ f g, cE o f g i = aJ o m g) (hm : m < 2 ^ 31) (hj : j < m) (d : decode cc pc = .ok (.lastore, 1)) (k : V γ o n mi (u2 ml i j x) (pc + 1) lv rest) : V γ o n mi ml pc lv (.long x :: .int (nI j) :: .ref (ads o i) :: rest) := by
  intro H locs ls h1 h2 h3
  refine va_last X.1 X.2.1 X.2.2.2.2.2.1.1 h1 (cells_D o mi ml) h2 i 1 (f := ml i) (n := m) (cA := o.2.2 1) (by rw [cells_at o mi ml hi, hc]; rfl) rfl (vp_in_nI hj hm) d (fun H1 locs1 g1 g2 g3 => ?_)
  rw [nI_clamp (Nat.lt_trans hj hm), cells_set o (mi' := mi) (ml' := u2 ml i j x) hi (fun q hq => ⟨rfl, u2_n ml j x hq⟩) (by rw [hc, u2_s]; rfl)] at g1
  exact k H1 locs1 ls g1 g3 h3
/-- switches -/
theorem r_tswIn (X : Cx γ l o own cc n r fr lo P) {dflt lo0 hi0 : Int} {offs : Array Int} {len : Nat} {x : Int32} {off : Int} {tgt : Nat} (d : decode cc pc = .ok (.tableswitch dflt lo0 hi0 offs, len)) (a1 : ¬ x.toInt < lo0) (a2 : ¬ hi0 < x.toInt) (ho : offs[(x.toInt - lo0).toNat]? = some off) (ht : (pc : Int) + off = (tgt : Int)) (k : V γ o n mi ml tgt lv rest) : V γ o n mi ml pc lv (.int x :: rest) := fun H locs ls h1 h2 h3 => lv_tableIn X.1 X.2.1 d a1 a2 ho ht (k H locs ls h1 h2 h3)
theorem r_tswOut (X : Cx γ l o own cc n r fr lo P) {dflt lo0 hi0 : Int} {offs : Array Int} {len : Nat} {x : Int32} {tgt : Nat} (d : decode cc pc = .ok (.tableswitch dflt lo0 hi0 offs, len)) (h : x.toInt < lo0 ∨ hi0 < x.toInt) (ht : (pc : Int) + dflt = (tgt : Int)) (k : V γ o n mi ml tgt lv rest) : V γ o n mi ml pc lv (.int x :: rest) := fun H locs ls h1 h2 h3 => lv_tableOut X.1 X.2.1 d h ht (k H locs ls h1 h2 h3)
/-- calls -/
theorem Pof.blind {A : List Value} : FrameBlind (Pof o A mi ml) := fun a U g mk q => by
  obtain ⟨q0, q1, q2⟩ := q
  exact ⟨q0, q1, Kp.warm (s := U) (U := U.calling g mk a) (State.WarmedH.refl U) q2⟩
theorem V.run {P' : Option Value → MI → ML → Prop} {a : Array Value} (hr : ∀ (H : Heap) (locs : List Loc) (ls : Array Slot), Wp o mi ml H → va_S (isA o) γ.s.heap H locs → lv_has ls n lv → va_Run γ.p γ.l γ.e γ.R γ.s γ.m γ.a γ.b γ.me γ.c H locs 0 0 0 0 (F0 γ.m pc ls st) rest (Qof o P' a) (isA o))
    (kk : ∀ (v : Option Value) (mi' : MI) (ml' : ML), P' v mi' ml' → V γ o n mi' ml' (pc + 3) lv (v.toList ++ rest)) : V γ o n mi ml pc lv st := by
  intro H locs ls h1 h2 h3 T hT Z
  obtain ⟨v, st₀, t, T', L, h0, Z', hL, e1, e2, ⟨⟨v', mi', ml', hv, hp, hw⟩, hz, hk⟩, sg⟩ := hr H locs ls h1 h2 h3 T hT Z
  cases hv
  rw [h0] at hz hk
  obtain ⟨t2, a1, b1⟩ := kk v mi' ml' hp T'.heap (locs ++ L) ls (by rw [e1]; exact hw)
    ⟨Nat.le_trans h2.1 (by rw [e1]; exact hz), fun q g1 g2 => by rw [e1, hk q (Nat.lt_of_lt_of_le g1 h2.1) g2]; exact h2.2.1 q g1 g2, fun q hq => by
      rcases List.mem_append.mp hq with h | h
      · exact h2.2.2 q h
      · exact hL q h⟩ h3 T' rfl Z'
  exact ⟨t2, sg t2 a1, b1⟩
def SOK (y : MethodName) (cc : ByteArray) (n : Nat) (r : Option FieldType) (k : Nat) : Prop := Cond.static y ∈ gtbl ∧ Cond.initialized y.cls ∈ gtbl ∧ Cond.code y cc n r ∈ gtbl ∧ (y.cls ≠ "java/lang/invoke/MethodHandle" ∧ y.cls ≠ "java/lang/invoke/VarHandle" ∧ (parseMethodDescriptor y.desc).map (fun d => d.parameters.length) = some k)
def VOK (y : MethodName) (cc : ByteArray) (n : Nat) (r : Option FieldType) (k : Nat) : Prop := Cond.instanceMethod y ∈ gtbl ∧ Cond.selects y.cls y y ∈ gtbl ∧ Cond.initialized y.cls ∈ gtbl ∧ Cond.code y cc n r ∈ gtbl ∧ (y.cls ≠ "java/lang/invoke/MethodHandle" ∧ y.cls ≠ "java/lang/invoke/VarHandle" ∧ (parseMethodDescriptor y.desc).map (fun d => d.parameters.length) = some k)
theorem r_callS (X : Cx γ l o own cc n r fr lo P) {y : MethodName} {cc' : ByteArray} {n' : Nat} {r' : Option FieldType} {fr' lo' k ix : Nat} {As : List Value} {P' : Option Value → MI → ML → Prop} (hC : Con l y cc' n' r' fr' lo' o As mi ml P') (Y : SOK y cc' n' r' k) (w : Cond.methodLink own ix y ∈ gtbl) (hk : As.length = k) (hR : fr' + 1 ≤ fr ∧ 8 + (n' + 11) + lo' ≤ lo) (hst : st = As.reverse ++ rest) (hW : (rest.map fun v => v.category).sum ≤ 8) (d : decode cc pc = .ok (.invokestatic ix, 3))
    (kk : ∀ (v : Option Value) (mi' : MI) (ml' : ML), P' v mi' ml' → V γ o n mi' ml' (pc + 3) lv (v.toList ++ rest)) : V γ o n mi ml pc lv st := by
  obtain ⟨x1, x2, x3, x4, x5, x6, x7, x8, x9, x10, x11, x12⟩ := X
  subst x9; subst x10; subst x11
  obtain ⟨y1, y2, y3, y4⟩ := Y
  refine V.run (fun H locs ls h1 h2 h3 => va_runS (As := As) (g := F0 γ.m pc ls st) ⟨x1, x2, x3, x4, x5⟩ hC (va_cwS k x5 ?_ rfl rfl rfl y4 hR) ⟨Pof.blind, fun U hU hWu => ⟨rfl, by rw [hU]; exact h1, x6.warm hWu⟩⟩ rfl hk h3.1 hst (lv_room hW) d ⟨Nat.zero_le _, Nat.zero_le _⟩) kk
  intro w' hw'
  rcases List.mem_append.mp hw' with h | h
  · have h' : w' = .methodLink own ix y ∨ w' = .static y ∨ w' = .initialized y.cls := by simpa using h
    rcases h' with rfl | rfl | rfl
    · exact gtbl_good _ w
    · exact gtbl_good _ y1
    · exact gtbl_good _ y2
  · exact wsY_good y3 _ h
theorem r_callN (X : Cx γ l o own cc n r fr lo P) {y : MethodName} {cc' : ByteArray} {n' : Nat} {r' : Option FieldType} {fr' lo' k ix : Nat} {host : String} {As : List Value} {P' : Option Value → MI → ML → Prop} (hC : Con l y cc' n' r' fr' lo' o As mi ml P') (Y : SOK y cc' n' r' k) (w : (own, ix, y, host) ∈ nst) (hk : As.length = k) (hR : fr' + 1 ≤ fr ∧ 8 + (n' + 11) + lo' ≤ lo) (hst : st = As.reverse ++ rest) (hW : (rest.map fun v => v.category).sum ≤ 8) (d : decode cc pc = .ok (.invokestatic ix, 3))
    (kk : ∀ (v : Option Value) (mi' : MI) (ml' : ML), P' v mi' ml' → V γ o n mi' ml' (pc + 3) lv (v.toList ++ rest)) : V γ o n mi ml pc lv st := by
  obtain ⟨x1, x2, x3, x4, x5, x6, x7, x8, x9, x10, x11, x12⟩ := X
  subst x9; subst x10; subst x11
  obtain ⟨y1, y2, y3, y4⟩ := Y
  exact V.run (fun H locs ls h1 h2 h3 => va_runSN (As := As) (g := F0 γ.m pc ls st) (host := host) ⟨x1, x2, x3, x4, x5⟩ hC ⟨va_cnB k x5 (wsY_good y3) rfl rfl rfl (x6.2 _ w) (x5 _ y2) y4 hR, x5 _ y1, trivial⟩ ⟨Pof.blind, fun U hU hWu => ⟨rfl, by rw [hU]; exact h1, x6.warm hWu⟩⟩ rfl hk h3.1 hst (lv_room hW) d ⟨Nat.zero_le _, Nat.zero_le _⟩) kk
theorem r_callV (X : Cx γ l o own cc n r fr lo P) {y : MethodName} {cc' : ByteArray} {n' : Nat} {r' : Option FieldType} {fr' lo' k ix i ci : Nat} {F : (Nat → Int32) → (Nat → Int64) → List Value} {T : u_T} {N : Nat} {As : List Value} {P' : Option Value → MI → ML → Prop} (hC : Con l y cc' n' r' fr' lo' o (.ref (ads o i) :: As) mi ml P') (Y : VOK y cc' n' r' k) (w : Cond.methodLink own ix y ∈ gtbl) (hk : As.length = k) (hi : i < 111) (hc : ∀ f g, cE o f g i = .inr (ci, F f g)) (hcl : vcl[ci]? = some (y.cls, T, N)) (hR : fr' + 1 ≤ fr ∧ 8 + (n' + 11) + lo' ≤ lo) (hst : st = As.reverse ++ .ref (ads o i) :: rest) (hW : (rest.map fun v => v.category).sum ≤ 8) (d : decode cc pc = .ok (.invokevirtual ix, 3))
    (kk : ∀ (v : Option Value) (mi' : MI) (ml' : ML), P' v mi' ml' → V γ o n mi' ml' (pc + 3) lv (v.toList ++ rest)) : V γ o n mi ml pc lv st := by
  obtain ⟨x1, x2, x3, x4, x5, x6, x7, x8, x9, x10, x11, x12⟩ := X
  subst x9; subst x10; subst x11
  obtain ⟨y1, y2, y3, y4, y5⟩ := Y
  refine V.run (fun H locs ls h1 h2 h3 => va_runV (C := y.cls) (As := As) (g := F0 γ.m pc ls st) ⟨x1, x2, x3, x4, x5⟩ hC (cwV k x5 ?_ rfl rfl rfl ⟨rfl, y5⟩ hR) ⟨Pof.blind, va_recv x6.1 h1 (q0 := i) hcl (by rw [cells_at o mi ml hi, hc]), fun U hU hWu => ⟨rfl, by rw [hU]; exact h1, x6.warm hWu⟩⟩ rfl hk h3.1 hst (lv_room hW) d ⟨Nat.zero_le _, Nat.zero_le _⟩) kk
  intro w' hw'
  rcases List.mem_append.mp hw' with h | h
  · have h' : w' = .methodLink own ix y ∨ w' = .instanceMethod y ∨ w' = .selects y.cls y y ∨ w' = .initialized y.cls := by simpa using h
    rcases h' with rfl | rfl | rfl | rfl
    · exact gtbl_good _ w
    · exact gtbl_good _ y1
    · exact gtbl_good _ y2
    · exact gtbl_good _ y3
  · exact wsY_good y4 _ h
/-- answers without a change: I int, L long, D any answer and new maps -/
def ConD (l : Launch) (y : MethodName) (cc : ByteArray) (n : Nat) (r : Option FieldType) (fr lo : Nat) (o : OM) (A : List Value) (mi : MI) (ml : ML) (v : Option Value) (mi' : MI) (ml' : ML) : Prop := Con l y cc n r fr lo o A mi ml (fun v0 a b => v0 = v ∧ a = mi' ∧ b = ml')
theorem kD {mi' : MI} {ml' : ML} {v : Option Value} {st' : List Value} (h : v.toList ++ rest = st') (k : V γ o n mi' ml' (pc + 3) lv st') : ∀ (v0 : Option Value) (a : MI) (b : ML), v0 = v ∧ a = mi' ∧ b = ml' → V γ o n a b (pc + 3) lv (v0.toList ++ rest) := by
  rintro _ _ _ ⟨rfl, rfl, rfl⟩
  rw [h]; exact k
end ROWS2
end
section
/-! sites: fields, calls, constants by their words; methods as they are called; cells by number -/
theorem f_Nm_10 : FOK "NearMarks" 10 9 0 := ⟨CR9, CT9, 10, rfl, CI9, by decide, g_at 246 (by decide +kernel) (by decide +kernel)⟩
theorem f_Nm_19 : FOK "NearMarks" 19 9 1 := ⟨CR9, CT9, 10, rfl, CI9, by decide, g_at 247 (by decide +kernel) (by decide +kernel)⟩
theorem f_Nm_25 : FOK "NearMarks" 25 9 2 := ⟨CR9, CT9, 10, rfl, CI9, by decide, g_at 248 (by decide +kernel) (by decide +kernel)⟩
theorem f_Nm_33 : FOK "NearMarks" 33 9 3 := ⟨CR9, CT9, 10, rfl, CI9, by decide, g_at 249 (by decide +kernel) (by decide +kernel)⟩
theorem f_Nm_37 : FOK "NearMarks" 37 8 1 := ⟨CR8, CT8, 5, rfl, CI8, by decide, g_at 73 (by decide +kernel) (by decide +kernel)⟩
theorem fw_Nm_37 : FOKw "NearMarks" 37 8 1 .long := ⟨CR8, CT8, 5, CY8, rfl, CI8, by decide, g_at 73 (by decide +kernel) (by decide +kernel), CYok8, CN8, rfl, by decide +kernel⟩
theorem f_Nm_45 : FOK "NearMarks" 45 9 4 := ⟨CR9, CT9, 10, rfl, CI9, by decide, g_at 250 (by decide +kernel) (by decide +kernel)⟩
theorem f_Nm_51 : FOK "NearMarks" 51 9 5 := ⟨CR9, CT9, 10, rfl, CI9, by decide, g_at 251 (by decide +kernel) (by decide +kernel)⟩
theorem f_Nm_58 : FOK "NearMarks" 58 9 6 := ⟨CR9, CT9, 10, rfl, CI9, by decide, g_at 252 (by decide +kernel) (by decide +kernel)⟩
theorem f_Nm_65 : FOK "NearMarks" 65 9 7 := ⟨CR9, CT9, 10, rfl, CI9, by decide, g_at 253 (by decide +kernel) (by decide +kernel)⟩
theorem f_Nm_72 : FOK "NearMarks" 72 9 8 := ⟨CR9, CT9, 10, rfl, CI9, by decide, g_at 254 (by decide +kernel) (by decide +kernel)⟩
theorem f_Nm_79 : FOK "NearMarks" 79 9 9 := ⟨CR9, CT9, 10, rfl, CI9, by decide, g_at 255 (by decide +kernel) (by decide +kernel)⟩
theorem f_Nm_83 : FOK "NearMarks" 83 8 2 := ⟨CR8, CT8, 5, rfl, CI8, by decide, g_at 76 (by decide +kernel) (by decide +kernel)⟩
theorem fw_Nm_83 : FOKw "NearMarks" 83 8 2 .int := ⟨CR8, CT8, 5, CY8, rfl, CI8, by decide, g_at 76 (by decide +kernel) (by decide +kernel), CYok8, CN8, rfl, by decide +kernel⟩
theorem f_Nm_87 : FOK "NearMarks" 87 5 2 := ⟨CR5, CT5, 3, rfl, CI5, by decide, g_at 149 (by decide +kernel) (by decide +kernel)⟩
theorem fw_Nm_87 : FOKw "NearMarks" 87 5 2 .int := ⟨CR5, CT5, 3, CY5, rfl, CI5, by decide, g_at 149 (by decide +kernel) (by decide +kernel), CYok5, CN5, rfl, by decide +kernel⟩
theorem f_Nm_88 : FOK "NearMarks" 88 8 0 := ⟨CR8, CT8, 5, rfl, CI8, by decide, g_at 71 (by decide +kernel) (by decide +kernel)⟩
theorem fw_Nm_88 : FOKw "NearMarks" 88 8 0 .long := ⟨CR8, CT8, 5, CY8, rfl, CI8, by decide, g_at 71 (by decide +kernel) (by decide +kernel), CYok8, CN8, rfl, by decide +kernel⟩
theorem f_Nm_121 : FOK "NearMarks" 121 7 3 := ⟨CR7, CT7, 4, rfl, CI7, by decide, g_at 205 (by decide +kernel) (by decide +kernel)⟩
theorem fw_Nm_121 : FOKw "NearMarks" 121 7 3 .int := ⟨CR7, CT7, 4, CY7, rfl, CI7, by decide, g_at 205 (by decide +kernel) (by decide +kernel), CYok7, CN7, rfl, by decide +kernel⟩
theorem f_Nm_132 : FOK "NearMarks" 132 0 3 := ⟨CR0, CT0, 4, rfl, CI0, by decide, g_at 225 (by decide +kernel) (by decide +kernel)⟩
theorem fw_Nm_132 : FOKw "NearMarks" 132 0 3 .int := ⟨CR0, CT0, 4, CY0, rfl, CI0, by decide, g_at 225 (by decide +kernel) (by decide +kernel), CYok0, CN0, rfl, by decide +kernel⟩
theorem f_Nm_136 : FOK "NearMarks" 136 6 2 := ⟨CR6, CT6, 3, rfl, CI6, by decide, g_at 110 (by decide +kernel) (by decide +kernel)⟩
theorem fw_Nm_136 : FOKw "NearMarks" 136 6 2 .int := ⟨CR6, CT6, 3, CY6, rfl, CI6, by decide, g_at 110 (by decide +kernel) (by decide +kernel), CYok6, CN6, rfl, by decide +kernel⟩
theorem f_Nm_142 : FOK "NearMarks" 142 8 3 := ⟨CR8, CT8, 5, rfl, CI8, by decide, g_at 81 (by decide +kernel) (by decide +kernel)⟩
theorem f_Nm_147 : FOK "NearMarks" 147 8 4 := ⟨CR8, CT8, 5, rfl, CI8, by decide, g_at 84 (by decide +kernel) (by decide +kernel)⟩
theorem f_Nm_162 : FOK "NearMarks" 162 5 0 := ⟨CR5, CT5, 3, rfl, CI5, by decide, g_at 145 (by decide +kernel) (by decide +kernel)⟩
theorem f_Nm_165 : FOK "NearMarks" 165 5 1 := ⟨CR5, CT5, 3, rfl, CI5, by decide, g_at 147 (by decide +kernel) (by decide +kernel)⟩
theorem f_Nm_237 : FOK "NearMarks" 237 3 2 := ⟨CR3, CT3, 3, rfl, CI3, by decide, g_at 174 (by decide +kernel) (by decide +kernel)⟩
theorem fw_Nm_237 : FOKw "NearMarks" 237 3 2 .int := ⟨CR3, CT3, 3, CY3, rfl, CI3, by decide, g_at 174 (by decide +kernel) (by decide +kernel), CYok3, CN3, rfl, by decide +kernel⟩
theorem f_Nm_239 : FOK "NearMarks" 239 3 0 := ⟨CR3, CT3, 3, rfl, CI3, by decide, g_at 171 (by decide +kernel) (by decide +kernel)⟩
theorem f_Nm_271 : FOK "NearMarks" 271 2 0 := ⟨CR2, CT2, 1, rfl, CI2, by decide, g_at 242 (by decide +kernel) (by decide +kernel)⟩
theorem fw_Nm_271 : FOKw "NearMarks" 271 2 0 .int := ⟨CR2, CT2, 1, CY2, rfl, CI2, by decide, g_at 242 (by decide +kernel) (by decide +kernel), CYok2, CN2, rfl, by decide +kernel⟩
theorem f_Nm_274 : FOK "NearMarks" 274 4 0 := ⟨CR4, CT4, 3, rfl, CI4, by decide, g_at 128 (by decide +kernel) (by decide +kernel)⟩
theorem f_Nm_279 : FOK "NearMarks" 279 4 1 := ⟨CR4, CT4, 3, rfl, CI4, by decide, g_at 129 (by decide +kernel) (by decide +kernel)⟩
theorem fw_Nm_279 : FOKw "NearMarks" 279 4 1 .int := ⟨CR4, CT4, 3, CY4, rfl, CI4, by decide, g_at 129 (by decide +kernel) (by decide +kernel), CYok4, CN4, rfl, by decide +kernel⟩
theorem f_Nm_281 : FOK "NearMarks" 281 4 2 := ⟨CR4, CT4, 3, rfl, CI4, by decide, g_at 130 (by decide +kernel) (by decide +kernel)⟩
theorem fw_Nm_281 : FOKw "NearMarks" 281 4 2 .boolean := ⟨CR4, CT4, 3, CY4, rfl, CI4, by decide, g_at 130 (by decide +kernel) (by decide +kernel), CYok4, CN4, rfl, by decide +kernel⟩
theorem f_Bk_9 : FOK "NearMarks$Book" 9 0 0 := ⟨CR0, CT0, 4, rfl, CI0, by decide, g_at 221 (by decide +kernel) (by decide +kernel)⟩
theorem f_Bk_15 : FOK "NearMarks$Book" 15 0 1 := ⟨CR0, CT0, 4, rfl, CI0, by decide, g_at 222 (by decide +kernel) (by decide +kernel)⟩
theorem f_Bk_18 : FOK "NearMarks$Book" 18 0 2 := ⟨CR0, CT0, 4, rfl, CI0, by decide, g_at 223 (by decide +kernel) (by decide +kernel)⟩
theorem f_Bk_21 : FOK "NearMarks$Book" 21 0 3 := ⟨CR0, CT0, 4, rfl, CI0, by decide, g_at 224 (by decide +kernel) (by decide +kernel)⟩
theorem fw_Bk_21 : FOKw "NearMarks$Book" 21 0 3 .int := ⟨CR0, CT0, 4, CY0, rfl, CI0, by decide, g_at 224 (by decide +kernel) (by decide +kernel), CYok0, CN0, rfl, by decide +kernel⟩
theorem f_Co_9 : FOK "NearMarks$Columns" 9 1 0 := ⟨CR1, CT1, 2, rfl, CI1, by decide, g_at 188 (by decide +kernel) (by decide +kernel)⟩
theorem f_Co_15 : FOK "NearMarks$Columns" 15 8 2 := ⟨CR8, CT8, 5, rfl, CI8, by decide, g_at 74 (by decide +kernel) (by decide +kernel)⟩
theorem fw_Co_15 : FOKw "NearMarks$Columns" 15 8 2 .int := ⟨CR8, CT8, 5, CY8, rfl, CI8, by decide, g_at 74 (by decide +kernel) (by decide +kernel), CYok8, CN8, rfl, by decide +kernel⟩
theorem f_Co_21 : FOK "NearMarks$Columns" 21 1 1 := ⟨CR1, CT1, 2, rfl, CI1, by decide, g_at 189 (by decide +kernel) (by decide +kernel)⟩
theorem fw_Co_21 : FOKw "NearMarks$Columns" 21 1 1 .long := ⟨CR1, CT1, 2, CY1, rfl, CI1, by decide, g_at 189 (by decide +kernel) (by decide +kernel), CYok1, CN1, rfl, by decide +kernel⟩
theorem f_Co_25 : FOK "NearMarks$Columns" 25 8 3 := ⟨CR8, CT8, 5, rfl, CI8, by decide, g_at 80 (by decide +kernel) (by decide +kernel)⟩
theorem f_Dr_7 : FOK "NearMarks$Draws" 7 2 0 := ⟨CR2, CT2, 1, rfl, CI2, by decide, g_at 241 (by decide +kernel) (by decide +kernel)⟩
theorem fw_Dr_7 : FOKw "NearMarks$Draws" 7 2 0 .int := ⟨CR2, CT2, 1, CY2, rfl, CI2, by decide, g_at 241 (by decide +kernel) (by decide +kernel), CYok2, CN2, rfl, by decide +kernel⟩
theorem f_Gr_9 : FOK "NearMarks$Grouping" 9 3 0 := ⟨CR3, CT3, 3, rfl, CI3, by decide, g_at 170 (by decide +kernel) (by decide +kernel)⟩
theorem f_Gr_15 : FOK "NearMarks$Grouping" 15 3 1 := ⟨CR3, CT3, 3, rfl, CI3, by decide, g_at 172 (by decide +kernel) (by decide +kernel)⟩
theorem f_Gr_18 : FOK "NearMarks$Grouping" 18 3 2 := ⟨CR3, CT3, 3, rfl, CI3, by decide, g_at 173 (by decide +kernel) (by decide +kernel)⟩
theorem fw_Gr_18 : FOKw "NearMarks$Grouping" 18 3 2 .int := ⟨CR3, CT3, 3, CY3, rfl, CI3, by decide, g_at 173 (by decide +kernel) (by decide +kernel), CYok3, CN3, rfl, by decide +kernel⟩
theorem f_Gr_26 : FOK "NearMarks$Grouping" 26 8 2 := ⟨CR8, CT8, 5, rfl, CI8, by decide, g_at 77 (by decide +kernel) (by decide +kernel)⟩
theorem fw_Gr_26 : FOKw "NearMarks$Grouping" 26 8 2 .int := ⟨CR8, CT8, 5, CY8, rfl, CI8, by decide, g_at 77 (by decide +kernel) (by decide +kernel), CYok8, CN8, rfl, by decide +kernel⟩
theorem f_Im_10 : FOK "NearMarks$Image" 10 4 0 := ⟨CR4, CT4, 3, rfl, CI4, by decide, g_at 127 (by decide +kernel) (by decide +kernel)⟩
theorem f_Pt_9 : FOK "NearMarks$Parts" 9 5 0 := ⟨CR5, CT5, 3, rfl, CI5, by decide, g_at 144 (by decide +kernel) (by decide +kernel)⟩
theorem f_Pt_15 : FOK "NearMarks$Parts" 15 5 1 := ⟨CR5, CT5, 3, rfl, CI5, by decide, g_at 146 (by decide +kernel) (by decide +kernel)⟩
theorem f_Pt_19 : FOK "NearMarks$Parts" 19 5 2 := ⟨CR5, CT5, 3, rfl, CI5, by decide, g_at 148 (by decide +kernel) (by decide +kernel)⟩
theorem fw_Pt_19 : FOKw "NearMarks$Parts" 19 5 2 .int := ⟨CR5, CT5, 3, CY5, rfl, CI5, by decide, g_at 148 (by decide +kernel) (by decide +kernel), CYok5, CN5, rfl, by decide +kernel⟩
theorem f_Pa_11 : FOK "NearMarks$Past" 11 6 0 := ⟨CR6, CT6, 3, rfl, CI6, by decide, g_at 107 (by decide +kernel) (by decide +kernel)⟩
theorem f_Pa_18 : FOK "NearMarks$Past" 18 6 1 := ⟨CR6, CT6, 3, rfl, CI6, by decide, g_at 108 (by decide +kernel) (by decide +kernel)⟩
theorem fw_Pa_18 : FOKw "NearMarks$Past" 18 6 1 .int := ⟨CR6, CT6, 3, CY6, rfl, CI6, by decide, g_at 108 (by decide +kernel) (by decide +kernel), CYok6, CN6, rfl, by decide +kernel⟩
theorem f_Pa_26 : FOK "NearMarks$Past" 26 6 2 := ⟨CR6, CT6, 3, rfl, CI6, by decide, g_at 109 (by decide +kernel) (by decide +kernel)⟩
theorem fw_Pa_26 : FOKw "NearMarks$Past" 26 6 2 .int := ⟨CR6, CT6, 3, CY6, rfl, CI6, by decide, g_at 109 (by decide +kernel) (by decide +kernel), CYok6, CN6, rfl, by decide +kernel⟩
theorem f_Si_9 : FOK "NearMarks$Sightings" 9 7 0 := ⟨CR7, CT7, 4, rfl, CI7, by decide, g_at 201 (by decide +kernel) (by decide +kernel)⟩
theorem f_Si_15 : FOK "NearMarks$Sightings" 15 7 1 := ⟨CR7, CT7, 4, rfl, CI7, by decide, g_at 202 (by decide +kernel) (by decide +kernel)⟩
theorem f_Si_19 : FOK "NearMarks$Sightings" 19 7 2 := ⟨CR7, CT7, 4, rfl, CI7, by decide, g_at 203 (by decide +kernel) (by decide +kernel)⟩
theorem f_Si_22 : FOK "NearMarks$Sightings" 22 7 3 := ⟨CR7, CT7, 4, rfl, CI7, by decide, g_at 204 (by decide +kernel) (by decide +kernel)⟩
theorem fw_Si_22 : FOKw "NearMarks$Sightings" 22 7 3 .int := ⟨CR7, CT7, 4, CY7, rfl, CI7, by decide, g_at 204 (by decide +kernel) (by decide +kernel), CYok7, CN7, rfl, by decide +kernel⟩
theorem f_Si_30 : FOK "NearMarks$Sightings" 30 8 2 := ⟨CR8, CT8, 5, rfl, CI8, by decide, g_at 78 (by decide +kernel) (by decide +kernel)⟩
theorem fw_Si_30 : FOKw "NearMarks$Sightings" 30 8 2 .int := ⟨CR8, CT8, 5, CY8, rfl, CI8, by decide, g_at 78 (by decide +kernel) (by decide +kernel), CYok8, CN8, rfl, by decide +kernel⟩
theorem f_Si_33 : FOK "NearMarks$Sightings" 33 8 3 := ⟨CR8, CT8, 5, rfl, CI8, by decide, g_at 82 (by decide +kernel) (by decide +kernel)⟩
theorem f_St_11 : FOK "NearMarks$State" 11 8 1 := ⟨CR8, CT8, 5, rfl, CI8, by decide, g_at 72 (by decide +kernel) (by decide +kernel)⟩
theorem fw_St_11 : FOKw "NearMarks$State" 11 8 1 .long := ⟨CR8, CT8, 5, CY8, rfl, CI8, by decide, g_at 72 (by decide +kernel) (by decide +kernel), CYok8, CN8, rfl, by decide +kernel⟩
theorem f_St_17 : FOK "NearMarks$State" 17 8 3 := ⟨CR8, CT8, 5, rfl, CI8, by decide, g_at 79 (by decide +kernel) (by decide +kernel)⟩
theorem f_St_21 : FOK "NearMarks$State" 21 8 4 := ⟨CR8, CT8, 5, rfl, CI8, by decide, g_at 83 (by decide +kernel) (by decide +kernel)⟩
theorem f_St_25 : FOK "NearMarks$State" 25 8 0 := ⟨CR8, CT8, 5, rfl, CI8, by decide, g_at 70 (by decide +kernel) (by decide +kernel)⟩
theorem fw_St_25 : FOKw "NearMarks$State" 25 8 0 .long := ⟨CR8, CT8, 5, CY8, rfl, CI8, by decide, g_at 70 (by decide +kernel) (by decide +kernel), CYok8, CN8, rfl, by decide +kernel⟩
theorem f_St_28 : FOK "NearMarks$State" 28 8 2 := ⟨CR8, CT8, 5, rfl, CI8, by decide, g_at 75 (by decide +kernel) (by decide +kernel)⟩
theorem fw_St_28 : FOKw "NearMarks$State" 28 8 2 .int := ⟨CR8, CT8, 5, CY8, rfl, CI8, by decide, g_at 75 (by decide +kernel) (by decide +kernel), CYok8, CN8, rfl, by decide +kernel⟩
theorem f_Mo_7 : FOK "NearMarksModel" 7 10 0 := ⟨CR10, CT10, 19, rfl, CI10, by decide, g_at 661 (by decide +kernel) (by decide +kernel)⟩
theorem f_Mo_13 : FOK "NearMarksModel" 13 10 1 := ⟨CR10, CT10, 19, rfl, CI10, by decide, g_at 662 (by decide +kernel) (by decide +kernel)⟩
theorem f_Mo_17 : FOK "NearMarksModel" 17 10 3 := ⟨CR10, CT10, 19, rfl, CI10, by decide, g_at 664 (by decide +kernel) (by decide +kernel)⟩
theorem f_Mo_20 : FOK "NearMarksModel" 20 10 4 := ⟨CR10, CT10, 19, rfl, CI10, by decide, g_at 665 (by decide +kernel) (by decide +kernel)⟩
theorem f_Mo_23 : FOK "NearMarksModel" 23 10 5 := ⟨CR10, CT10, 19, rfl, CI10, by decide, g_at 666 (by decide +kernel) (by decide +kernel)⟩
theorem f_Mo_26 : FOK "NearMarksModel" 26 10 6 := ⟨CR10, CT10, 19, rfl, CI10, by decide, g_at 667 (by decide +kernel) (by decide +kernel)⟩
theorem f_Mo_29 : FOK "NearMarksModel" 29 10 7 := ⟨CR10, CT10, 19, rfl, CI10, by decide, g_at 668 (by decide +kernel) (by decide +kernel)⟩
theorem f_Mo_32 : FOK "NearMarksModel" 32 10 8 := ⟨CR10, CT10, 19, rfl, CI10, by decide, g_at 669 (by decide +kernel) (by decide +kernel)⟩
theorem f_Mo_36 : FOK "NearMarksModel" 36 10 11 := ⟨CR10, CT10, 19, rfl, CI10, by decide, g_at 672 (by decide +kernel) (by decide +kernel)⟩
theorem f_Mo_39 : FOK "NearMarksModel" 39 10 12 := ⟨CR10, CT10, 19, rfl, CI10, by decide, g_at 673 (by decide +kernel) (by decide +kernel)⟩
theorem f_Mo_42 : FOK "NearMarksModel" 42 10 14 := ⟨CR10, CT10, 19, rfl, CI10, by decide, g_at 675 (by decide +kernel) (by decide +kernel)⟩
theorem f_Mo_45 : FOK "NearMarksModel" 45 10 15 := ⟨CR10, CT10, 19, rfl, CI10, by decide, g_at 676 (by decide +kernel) (by decide +kernel)⟩
theorem f_Mo_48 : FOK "NearMarksModel" 48 10 16 := ⟨CR10, CT10, 19, rfl, CI10, by decide, g_at 677 (by decide +kernel) (by decide +kernel)⟩
theorem f_Mo_51 : FOK "NearMarksModel" 51 10 17 := ⟨CR10, CT10, 19, rfl, CI10, by decide, g_at 678 (by decide +kernel) (by decide +kernel)⟩
theorem f_Mo_54 : FOK "NearMarksModel" 54 10 18 := ⟨CR10, CT10, 19, rfl, CI10, by decide, g_at 679 (by decide +kernel) (by decide +kernel)⟩
theorem f_Mo_100 : FOK "NearMarksModel" 100 10 10 := ⟨CR10, CT10, 19, rfl, CI10, by decide, g_at 671 (by decide +kernel) (by decide +kernel)⟩
theorem fw_Mo_100 : FOKw "NearMarksModel" 100 10 10 .int := ⟨CR10, CT10, 19, CY10, rfl, CI10, by decide, g_at 671 (by decide +kernel) (by decide +kernel), CYok10, CN10, rfl, by decide +kernel⟩
theorem f_Mo_111 : FOK "NearMarksModel" 111 10 13 := ⟨CR10, CT10, 19, rfl, CI10, by decide, g_at 674 (by decide +kernel) (by decide +kernel)⟩
theorem fw_Mo_111 : FOKw "NearMarksModel" 111 10 13 .int := ⟨CR10, CT10, 19, CY10, rfl, CI10, by decide, g_at 674 (by decide +kernel) (by decide +kernel), CYok10, CN10, rfl, by decide +kernel⟩
theorem f_Mo_141 : FOK "NearMarksModel" 141 10 2 := ⟨CR10, CT10, 19, rfl, CI10, by decide, g_at 663 (by decide +kernel) (by decide +kernel)⟩
theorem fw_Mo_141 : FOKw "NearMarksModel" 141 10 2 .int := ⟨CR10, CT10, 19, CY10, rfl, CI10, by decide, g_at 663 (by decide +kernel) (by decide +kernel), CYok10, CN10, rfl, by decide +kernel⟩
theorem f_Mo_181 : FOK "NearMarksModel" 181 10 9 := ⟨CR10, CT10, 19, rfl, CI10, by decide, g_at 670 (by decide +kernel) (by decide +kernel)⟩
theorem fw_Mo_181 : FOKw "NearMarksModel" 181 10 9 .int := ⟨CR10, CT10, 19, CY10, rfl, CI10, by decide, g_at 670 (by decide +kernel) (by decide +kernel), CYok10, CN10, rfl, by decide +kernel⟩
theorem w_Nm_9 : Cond.methodLink "NearMarks" 9 y_St_init ∈ gtbl := g_at 65 (by decide +kernel) (by decide +kernel)
theorem w_Nm_18 : Cond.methodLink "NearMarks" 18 y_Pa_init ∈ gtbl := g_at 100 (by decide +kernel) (by decide +kernel)
theorem w_Nm_29 : Cond.methodLink "NearMarks" 29 y_Im_init ∈ gtbl := g_at 121 (by decide +kernel) (by decide +kernel)
theorem w_Nm_32 : Cond.methodLink "NearMarks" 32 y_Pt_init ∈ gtbl := g_at 140 (by decide +kernel) (by decide +kernel)
theorem w_Nm_41 : Cond.methodLink "NearMarks" 41 y_Pt_beginAt ∈ gtbl := g_at 157 (by decide +kernel) (by decide +kernel)
theorem w_Nm_50 : Cond.methodLink "NearMarks" 50 y_Gr_init ∈ gtbl := g_at 166 (by decide +kernel) (by decide +kernel)
theorem w_Nm_57 : Cond.methodLink "NearMarks" 57 y_Co_init ∈ gtbl := g_at 184 (by decide +kernel) (by decide +kernel)
theorem w_Nm_64 : Cond.methodLink "NearMarks" 64 y_Si_init ∈ gtbl := g_at 197 (by decide +kernel) (by decide +kernel)
theorem w_Nm_71 : Cond.methodLink "NearMarks" 71 y_Bk_init ∈ gtbl := g_at 217 (by decide +kernel) (by decide +kernel)
theorem w_Nm_91 : Cond.methodLink "NearMarks" 91 y_Lg_bitCount ∈ gtbl := g_at 281 (by decide +kernel) (by decide +kernel)
theorem w_Nm_97 : Cond.methodLink "NearMarks" 97 y_St_numberOf ∈ gtbl := g_at 287 (by decide +kernel) (by decide +kernel)
theorem w_Nm_100 : Cond.methodLink "NearMarks" 100 y_Nm_countLookedAt ∈ gtbl := g_at 291 (by decide +kernel) (by decide +kernel)
theorem w_Nm_104 : Cond.methodLink "NearMarks" 104 y_Pt_reach ∈ gtbl := g_at 306 (by decide +kernel) (by decide +kernel)
theorem w_Nm_108 : Cond.methodLink "NearMarks" 108 y_St_byDistance ∈ gtbl := g_at 310 (by decide +kernel) (by decide +kernel)
theorem w_Nm_111 : Cond.methodLink "NearMarks" 111 y_Nm_leastDistance ∈ gtbl := g_at 319 (by decide +kernel) (by decide +kernel)
theorem w_Nm_114 : Cond.methodLink "NearMarks" 114 y_Co_countDead ∈ gtbl := g_at 327 (by decide +kernel) (by decide +kernel)
theorem w_Nm_118 : Cond.methodLink "NearMarks" 118 y_Co_firstPair ∈ gtbl := g_at 339 (by decide +kernel) (by decide +kernel)
theorem w_Nm_122 : Cond.methodLink "NearMarks" 122 y_Si_fitting ∈ gtbl := g_at 347 (by decide +kernel) (by decide +kernel)
theorem w_Nm_126 : Cond.methodLink "NearMarks" 126 y_Si_leastFitting ∈ gtbl := g_at 356 (by decide +kernel) (by decide +kernel)
theorem w_Nm_129 : Cond.methodLink "NearMarks" 129 y_Si_bestToAsk ∈ gtbl := g_at 365 (by decide +kernel) (by decide +kernel)
theorem w_Nm_133 : Cond.methodLink "NearMarks" 133 y_Bk_firstWrong ∈ gtbl := g_at 382 (by decide +kernel) (by decide +kernel)
theorem w_Nm_138 : Cond.methodLink "NearMarks" 138 y_St_has ∈ gtbl := g_at 323 (by decide +kernel) (by decide +kernel)
theorem w_Nm_151 : Cond.methodLink "NearMarks" 151 y_St_fromHand ∈ gtbl := g_at 295 (by decide +kernel) (by decide +kernel)
theorem w_Nm_154 : Cond.methodLink "NearMarks" 154 y_Nm_countOthersWithin ∈ gtbl := g_at 410 (by decide +kernel) (by decide +kernel)
theorem w_Nm_158 : Cond.methodLink "NearMarks" 158 y_Pt_anyAlike ∈ gtbl := g_at 302 (by decide +kernel) (by decide +kernel)
theorem w_Nm_168 : Cond.methodLink "NearMarks" 168 y_Nm_countWithPart ∈ gtbl := g_at 419 (by decide +kernel) (by decide +kernel)
theorem w_Nm_171 : Cond.methodLink "NearMarks" 171 y_St_between ∈ gtbl := g_at 414 (by decide +kernel) (by decide +kernel)
theorem w_Nm_174 : Cond.methodLink "NearMarks" 174 y_Pa_remember ∈ gtbl := g_at 427 (by decide +kernel) (by decide +kernel)
theorem w_Nm_178 : Cond.methodLink "NearMarks" 178 y_Pi_withRow ∈ gtbl := g_at 438 (by decide +kernel) (by decide +kernel)
theorem w_Nm_184 : Cond.methodLink "NearMarks" 184 y_Pi_turned ∈ gtbl := g_at 451 (by decide +kernel) (by decide +kernel)
theorem w_Nm_188 : Cond.methodLink "NearMarks" 188 y_Pi_firstRow ∈ gtbl := g_at 461 (by decide +kernel) (by decide +kernel)
theorem w_Nm_191 : Cond.methodLink "NearMarks" 191 y_Pi_mirrored ∈ gtbl := g_at 468 (by decide +kernel) (by decide +kernel)
theorem w_Nm_194 : Cond.methodLink "NearMarks" 194 y_Nm_isKind ∈ gtbl := g_at 479 (by decide +kernel) (by decide +kernel)
theorem w_Nm_199 : Cond.methodLink "NearMarks" 199 y_St_addHand ∈ gtbl := g_at 484 (by decide +kernel) (by decide +kernel)
theorem w_Nm_203 : Cond.methodLink "NearMarks" 203 y_St_remove ∈ gtbl := g_at 496 (by decide +kernel) (by decide +kernel)
theorem w_Nm_206 : Cond.methodLink "NearMarks" 206 y_Nm_changeHandByDraws ∈ gtbl := g_at 508 (by decide +kernel) (by decide +kernel)
theorem w_Nm_209 : Cond.methodLink "NearMarks" 209 y_Nm_putIfUnlikeAll ∈ gtbl := g_at 525 (by decide +kernel) (by decide +kernel)
theorem w_Nm_212 : Cond.methodLink "NearMarks" 212 y_Pa_bringBack ∈ gtbl := g_at 533 (by decide +kernel) (by decide +kernel)
theorem w_Nm_216 : Cond.methodLink "NearMarks" 216 y_Dr_next ∈ gtbl := g_at 512 (by decide +kernel) (by decide +kernel)
theorem w_Nm_219 : Cond.methodLink "NearMarks" 219 y_Pi_ofEqualRows ∈ gtbl := g_at 521 (by decide +kernel) (by decide +kernel)
theorem w_Nm_223 : Cond.methodLink "NearMarks" 223 y_Nm_isDistance ∈ gtbl := g_at 541 (by decide +kernel) (by decide +kernel)
theorem w_Nm_226 : Cond.methodLink "NearMarks" 226 y_Nm_isNear ∈ gtbl := g_at 544 (by decide +kernel) (by decide +kernel)
theorem w_Nm_230 : Cond.methodLink "NearMarks" 230 y_St_hasBoth ∈ gtbl := g_at 556 (by decide +kernel) (by decide +kernel)
theorem w_Nm_233 : Cond.methodLink "NearMarks" 233 y_Gr_join ∈ gtbl := g_at 561 (by decide +kernel) (by decide +kernel)
theorem w_Nm_238 : Cond.methodLink "NearMarks" 238 y_Gr_has ∈ gtbl := g_at 579 (by decide +kernel) (by decide +kernel)
theorem w_Nm_242 : Cond.methodLink "NearMarks" 242 y_Nm_leastOf ∈ gtbl := g_at 583 (by decide +kernel) (by decide +kernel)
theorem w_Nm_245 : Cond.methodLink "NearMarks" 245 y_St_widthOf ∈ gtbl := g_at 584 (by decide +kernel) (by decide +kernel)
theorem w_Nm_248 : Cond.methodLink "NearMarks" 248 y_Co_mostOf ∈ gtbl := g_at 595 (by decide +kernel) (by decide +kernel)
theorem w_Nm_252 : Cond.methodLink "NearMarks" 252 y_Pt_beginEvenly ∈ gtbl := g_at 604 (by decide +kernel) (by decide +kernel)
theorem w_Nm_256 : Cond.methodLink "NearMarks" 256 y_Nm_countAllLooks ∈ gtbl := g_at 613 (by decide +kernel) (by decide +kernel)
theorem w_Nm_260 : Cond.methodLink "NearMarks" 260 y_Nm_hasBit ∈ gtbl := g_at 364 (by decide +kernel) (by decide +kernel)
theorem w_Nm_264 : Cond.methodLink "NearMarks" 264 y_Si_add ∈ gtbl := g_at 621 (by decide +kernel) (by decide +kernel)
theorem w_Nm_268 : Cond.methodLink "NearMarks" 268 y_Bk_add ∈ gtbl := g_at 629 (by decide +kernel) (by decide +kernel)
theorem w_Nm_276 : Cond.methodLink "NearMarks" 276 y_St_become ∈ gtbl := g_at 645 (by decide +kernel) (by decide +kernel)
theorem w_Nm_285 : Cond.methodLink "NearMarks" 285 y_Pa_forget ∈ gtbl := g_at 646 (by decide +kernel) (by decide +kernel)
theorem w_Bk_25 : Cond.methodLink "NearMarks$Book" 25 y_Bk_isRight ∈ gtbl := g_at 386 (by decide +kernel) (by decide +kernel)
theorem w_Bk_29 : Cond.methodLink "NearMarks$Book" 29 y_St_hasBoth ∈ gtbl := g_at 390 (by decide +kernel) (by decide +kernel)
theorem w_Bk_35 : Cond.methodLink "NearMarks$Book" 35 y_St_between ∈ gtbl := g_at 395 (by decide +kernel) (by decide +kernel)
theorem w_Co_28 : Cond.methodLink "NearMarks$Columns" 28 y_Co_read ∈ gtbl := g_at 331 (by decide +kernel) (by decide +kernel)
theorem w_Co_32 : Cond.methodLink "NearMarks$Columns" 32 y_Co_isDead ∈ gtbl := g_at 335 (by decide +kernel) (by decide +kernel)
theorem w_Co_36 : Cond.methodLink "NearMarks$Columns" 36 y_Co_goTogether ∈ gtbl := g_at 343 (by decide +kernel) (by decide +kernel)
theorem w_Co_40 : Cond.methodLink "NearMarks$Columns" 40 y_Lg_bitCount ∈ gtbl := g_at 599 (by decide +kernel) (by decide +kernel)
theorem w_Dr_20 : Cond.methodLink "NearMarks$Draws" 20 y_Ma_max ∈ gtbl := g_at 520 (by decide +kernel) (by decide +kernel)
theorem w_Gr_22 : Cond.methodLink "NearMarks$Grouping" 22 y_Gr_findClose ∈ gtbl := g_at 565 (by decide +kernel) (by decide +kernel)
theorem w_Gr_33 : Cond.methodLink "NearMarks$Grouping" 33 y_Gr_spread ∈ gtbl := g_at 571 (by decide +kernel) (by decide +kernel)
theorem w_Gr_37 : Cond.methodLink "NearMarks$Grouping" 37 y_St_between ∈ gtbl := g_at 569 (by decide +kernel) (by decide +kernel)
theorem w_Im_9 : Cond.methodLink "NearMarks$Image" 9 y_St_init ∈ gtbl := g_at 126 (by decide +kernel) (by decide +kernel)
theorem w_Pt_27 : Cond.methodLink "NearMarks$Parts" 27 y_Ma_max ∈ gtbl := g_at 608 (by decide +kernel) (by decide +kernel)
theorem w_Pt_33 : Cond.methodLink "NearMarks$Parts" 33 y_Pt_turnOf ∈ gtbl := g_at 609 (by decide +kernel) (by decide +kernel)
theorem w_Pt_37 : Cond.methodLink "NearMarks$Parts" 37 y_Pt_beginAt ∈ gtbl := g_at 612 (by decide +kernel) (by decide +kernel)
theorem w_Pa_17 : Cond.methodLink "NearMarks$Past" 17 y_St_init ∈ gtbl := g_at 106 (by decide +kernel) (by decide +kernel)
theorem w_Pa_22 : Cond.methodLink "NearMarks$Past" 22 y_St_become ∈ gtbl := g_at 431 (by decide +kernel) (by decide +kernel)
theorem w_Pa_29 : Cond.methodLink "NearMarks$Past" 29 y_Ma_min ∈ gtbl := g_at 435 (by decide +kernel) (by decide +kernel)
theorem w_Pi_13 : Cond.methodLink "NearMarks$Picture" 13 y_Pi_withRow ∈ gtbl := g_at 524 (by decide +kernel) (by decide +kernel)
theorem w_Pi_23 : Cond.methodLink "NearMarks$Picture" 23 y_Pi_hasDot ∈ gtbl := g_at 454 (by decide +kernel) (by decide +kernel)
theorem w_Pi_27 : Cond.methodLink "NearMarks$Picture" 27 y_Pi_dotAt ∈ gtbl := g_at 458 (by decide +kernel) (by decide +kernel)
theorem w_Si_36 : Cond.methodLink "NearMarks$Sightings" 36 y_Si_fits ∈ gtbl := g_at 351 (by decide +kernel) (by decide +kernel)
theorem w_Si_40 : Cond.methodLink "NearMarks$Sightings" 40 y_Si_fitting ∈ gtbl := g_at 360 (by decide +kernel) (by decide +kernel)
theorem w_Si_48 : Cond.methodLink "NearMarks$Sightings" 48 y_Lg_bitCount ∈ gtbl := g_at 369 (by decide +kernel) (by decide +kernel)
theorem w_Si_53 : Cond.methodLink "NearMarks$Sightings" 53 y_Si_greatestLeft ∈ gtbl := g_at 370 (by decide +kernel) (by decide +kernel)
theorem w_Si_61 : Cond.methodLink "NearMarks$Sightings" 61 y_St_between ∈ gtbl := g_at 375 (by decide +kernel) (by decide +kernel)
theorem w_Si_65 : Cond.methodLink "NearMarks$Sightings" 65 y_Ma_max ∈ gtbl := g_at 379 (by decide +kernel) (by decide +kernel)
theorem w_St_32 : Cond.methodLink "NearMarks$State" 32 y_St_has ∈ gtbl := g_at 394 (by decide +kernel) (by decide +kernel)
theorem w_St_40 : Cond.methodLink "NearMarks$State" 40 y_St_countNearerThan ∈ gtbl := g_at 314 (by decide +kernel) (by decide +kernel)
theorem w_St_44 : Cond.methodLink "NearMarks$State" 44 y_St_fromHand ∈ gtbl := g_at 318 (by decide +kernel) (by decide +kernel)
theorem w_St_51 : Cond.methodLink "NearMarks$State" 51 y_St_between ∈ gtbl := g_at 589 (by decide +kernel) (by decide +kernel)
theorem w_St_55 : Cond.methodLink "NearMarks$State" 55 y_Ma_max ∈ gtbl := g_at 590 (by decide +kernel) (by decide +kernel)
theorem w_Lw_9 : Cond.methodLink "NearMarksLaw" 9 y_Nm_init ∈ gtbl := g_at 57 (by decide +kernel) (by decide +kernel)
theorem w_Lw_12 : Cond.methodLink "NearMarksLaw" 12 y_Mo_init ∈ gtbl := g_at 656 (by decide +kernel) (by decide +kernel)
theorem w_Lw_13 : Cond.methodLink "NearMarksLaw" 13 y_Nm_told ∈ gtbl := g_at 277 (by decide +kernel) (by decide +kernel)
theorem w_Lw_17 : Cond.methodLink "NearMarksLaw" 17 y_Mo_told ∈ gtbl := g_at 720 (by decide +kernel) (by decide +kernel)
theorem w_Lw_18 : Cond.methodLink "NearMarksLaw" 18 y_Nm_hand ∈ gtbl := g_at 397 (by decide +kernel) (by decide +kernel)
theorem w_Lw_22 : Cond.methodLink "NearMarksLaw" 22 y_Mo_hand ∈ gtbl := g_at 809 (by decide +kernel) (by decide +kernel)
theorem w_Lw_23 : Cond.methodLink "NearMarksLaw" 23 y_Nm_markAt ∈ gtbl := g_at 401 (by decide +kernel) (by decide +kernel)
theorem w_Lw_27 : Cond.methodLink "NearMarksLaw" 27 y_Mo_markAt ∈ gtbl := g_at 813 (by decide +kernel) (by decide +kernel)
theorem w_Lw_28 : Cond.methodLink "NearMarksLaw" 28 y_Nm_mark ∈ gtbl := g_at 405 (by decide +kernel) (by decide +kernel)
theorem w_Lw_32 : Cond.methodLink "NearMarksLaw" 32 y_Mo_mark ∈ gtbl := g_at 817 (by decide +kernel) (by decide +kernel)
theorem w_Lw_33 : Cond.methodLink "NearMarksLaw" 33 y_Nm_part ∈ gtbl := g_at 415 (by decide +kernel) (by decide +kernel)
theorem w_Lw_36 : Cond.methodLink "NearMarksLaw" 36 y_Mo_part ∈ gtbl := g_at 822 (by decide +kernel) (by decide +kernel)
theorem w_Lw_37 : Cond.methodLink "NearMarksLaw" 37 y_Nm_type ∈ gtbl := g_at 423 (by decide +kernel) (by decide +kernel)
theorem w_Lw_40 : Cond.methodLink "NearMarksLaw" 40 y_Mo_type ∈ gtbl := g_at 838 (by decide +kernel) (by decide +kernel)
theorem w_Lw_41 : Cond.methodLink "NearMarksLaw" 41 y_Nm_flip ∈ gtbl := g_at 443 (by decide +kernel) (by decide +kernel)
theorem w_Lw_44 : Cond.methodLink "NearMarksLaw" 44 y_Mo_flip ∈ gtbl := g_at 853 (by decide +kernel) (by decide +kernel)
theorem w_Lw_45 : Cond.methodLink "NearMarksLaw" 45 y_Nm_turn ∈ gtbl := g_at 447 (by decide +kernel) (by decide +kernel)
theorem w_Lw_49 : Cond.methodLink "NearMarksLaw" 49 y_Mo_turn ∈ gtbl := g_at 858 (by decide +kernel) (by decide +kernel)
theorem w_Lw_50 : Cond.methodLink "NearMarksLaw" 50 y_Nm_mirror ∈ gtbl := g_at 464 (by decide +kernel) (by decide +kernel)
theorem w_Lw_53 : Cond.methodLink "NearMarksLaw" 53 y_Mo_mirror ∈ gtbl := g_at 866 (by decide +kernel) (by decide +kernel)
theorem w_Lw_54 : Cond.methodLink "NearMarksLaw" 54 y_Nm_hold ∈ gtbl := g_at 471 (by decide +kernel) (by decide +kernel)
theorem w_Lw_57 : Cond.methodLink "NearMarksLaw" 57 y_Mo_hold ∈ gtbl := g_at 870 (by decide +kernel) (by decide +kernel)
theorem w_Lw_58 : Cond.methodLink "NearMarksLaw" 58 y_Nm_put ∈ gtbl := g_at 475 (by decide +kernel) (by decide +kernel)
theorem w_Lw_61 : Cond.methodLink "NearMarksLaw" 61 y_Mo_put ∈ gtbl := g_at 874 (by decide +kernel) (by decide +kernel)
theorem w_Lw_64 : Cond.methodLink "NearMarksLaw" 64 y_Nm_cut ∈ gtbl := g_at 488 (by decide +kernel) (by decide +kernel)
theorem w_Lw_68 : Cond.methodLink "NearMarksLaw" 68 y_Mo_cut ∈ gtbl := g_at 885 (by decide +kernel) (by decide +kernel)
theorem w_Lw_69 : Cond.methodLink "NearMarksLaw" 69 y_Nm_take ∈ gtbl := g_at 492 (by decide +kernel) (by decide +kernel)
theorem w_Lw_72 : Cond.methodLink "NearMarksLaw" 72 y_Mo_take ∈ gtbl := g_at 889 (by decide +kernel) (by decide +kernel)
theorem w_Lw_73 : Cond.methodLink "NearMarksLaw" 73 y_Nm_kind ∈ gtbl := g_at 500 (by decide +kernel) (by decide +kernel)
theorem w_Lw_76 : Cond.methodLink "NearMarksLaw" 76 y_Mo_kind ∈ gtbl := g_at 893 (by decide +kernel) (by decide +kernel)
theorem w_Lw_77 : Cond.methodLink "NearMarksLaw" 77 y_Nm_drift ∈ gtbl := g_at 504 (by decide +kernel) (by decide +kernel)
theorem w_Lw_80 : Cond.methodLink "NearMarksLaw" 80 y_Mo_drift ∈ gtbl := g_at 897 (by decide +kernel) (by decide +kernel)
theorem w_Lw_81 : Cond.methodLink "NearMarksLaw" 81 y_Nm_undo ∈ gtbl := g_at 529 (by decide +kernel) (by decide +kernel)
theorem w_Lw_84 : Cond.methodLink "NearMarksLaw" 84 y_Mo_undo ∈ gtbl := g_at 914 (by decide +kernel) (by decide +kernel)
theorem w_Lw_85 : Cond.methodLink "NearMarksLaw" 85 y_Nm_near ∈ gtbl := g_at 537 (by decide +kernel) (by decide +kernel)
theorem w_Lw_88 : Cond.methodLink "NearMarksLaw" 88 y_Mo_near ∈ gtbl := g_at 922 (by decide +kernel) (by decide +kernel)
theorem w_Lw_89 : Cond.methodLink "NearMarksLaw" 89 y_Nm_nearest ∈ gtbl := g_at 548 (by decide +kernel) (by decide +kernel)
theorem w_Lw_92 : Cond.methodLink "NearMarksLaw" 92 y_Mo_nearest ∈ gtbl := g_at 927 (by decide +kernel) (by decide +kernel)
theorem w_Lw_93 : Cond.methodLink "NearMarksLaw" 93 y_Nm_apart ∈ gtbl := g_at 552 (by decide +kernel) (by decide +kernel)
theorem w_Lw_96 : Cond.methodLink "NearMarksLaw" 96 y_Mo_apart ∈ gtbl := g_at 931 (by decide +kernel) (by decide +kernel)
theorem w_Lw_97 : Cond.methodLink "NearMarksLaw" 97 y_Nm_groups ∈ gtbl := g_at 557 (by decide +kernel) (by decide +kernel)
theorem w_Lw_100 : Cond.methodLink "NearMarksLaw" 100 y_Mo_groups ∈ gtbl := g_at 935 (by decide +kernel) (by decide +kernel)
theorem w_Lw_101 : Cond.methodLink "NearMarksLaw" 101 y_Nm_group ∈ gtbl := g_at 575 (by decide +kernel) (by decide +kernel)
theorem w_Lw_105 : Cond.methodLink "NearMarksLaw" 105 y_Mo_group ∈ gtbl := g_at 943 (by decide +kernel) (by decide +kernel)
theorem w_Lw_106 : Cond.methodLink "NearMarksLaw" 106 y_Nm_middle ∈ gtbl := g_at 591 (by decide +kernel) (by decide +kernel)
theorem w_Lw_110 : Cond.methodLink "NearMarksLaw" 110 y_Mo_middle ∈ gtbl := g_at 959 (by decide +kernel) (by decide +kernel)
theorem w_Lw_111 : Cond.methodLink "NearMarksLaw" 111 y_Nm_fewest ∈ gtbl := g_at 600 (by decide +kernel) (by decide +kernel)
theorem w_Lw_114 : Cond.methodLink "NearMarksLaw" 114 y_Mo_fewest ∈ gtbl := g_at 963 (by decide +kernel) (by decide +kernel)
theorem w_Lw_115 : Cond.methodLink "NearMarksLaw" 115 y_Nm_see ∈ gtbl := g_at 617 (by decide +kernel) (by decide +kernel)
theorem w_Lw_118 : Cond.methodLink "NearMarksLaw" 118 y_Mo_see ∈ gtbl := g_at 974 (by decide +kernel) (by decide +kernel)
theorem w_Lw_119 : Cond.methodLink "NearMarksLaw" 119 y_Nm_write ∈ gtbl := g_at 625 (by decide +kernel) (by decide +kernel)
theorem w_Lw_122 : Cond.methodLink "NearMarksLaw" 122 y_Mo_write ∈ gtbl := g_at 978 (by decide +kernel) (by decide +kernel)
theorem w_Lw_123 : Cond.methodLink "NearMarksLaw" 123 y_Nm_tear ∈ gtbl := g_at 633 (by decide +kernel) (by decide +kernel)
theorem w_Lw_126 : Cond.methodLink "NearMarksLaw" 126 y_Mo_tear ∈ gtbl := g_at 982 (by decide +kernel) (by decide +kernel)
theorem w_Lw_127 : Cond.methodLink "NearMarksLaw" 127 y_Nm_seed ∈ gtbl := g_at 637 (by decide +kernel) (by decide +kernel)
theorem w_Lw_130 : Cond.methodLink "NearMarksLaw" 130 y_Mo_seed ∈ gtbl := g_at 986 (by decide +kernel) (by decide +kernel)
theorem w_Lw_131 : Cond.methodLink "NearMarksLaw" 131 y_Nm_keep ∈ gtbl := g_at 641 (by decide +kernel) (by decide +kernel)
theorem w_Lw_134 : Cond.methodLink "NearMarksLaw" 134 y_Mo_keep ∈ gtbl := g_at 990 (by decide +kernel) (by decide +kernel)
theorem w_Lw_135 : Cond.methodLink "NearMarksLaw" 135 y_Nm_goBack ∈ gtbl := g_at 650 (by decide +kernel) (by decide +kernel)
theorem w_Lw_138 : Cond.methodLink "NearMarksLaw" 138 y_Mo_goBack ∈ gtbl := g_at 994 (by decide +kernel) (by decide +kernel)
theorem w_Mo_59 : Cond.methodLink "NearMarksModel" 59 y_Mo_marks ∈ gtbl := g_at 724 (by decide +kernel) (by decide +kernel)
theorem w_Mo_63 : Cond.methodLink "NearMarksModel" 63 y_Mo_in ∈ gtbl := g_at 805 (by decide +kernel) (by decide +kernel)
theorem w_Mo_67 : Cond.methodLink "NearMarksModel" 67 y_Mo_own ∈ gtbl := g_at 739 (by decide +kernel) (by decide +kernel)
theorem w_Mo_71 : Cond.methodLink "NearMarksModel" 71 y_Mo_ones ∈ gtbl := g_at 732 (by decide +kernel) (by decide +kernel)
theorem w_Mo_75 : Cond.methodLink "NearMarksModel" 75 y_Mo_has ∈ gtbl := g_at 750 (by decide +kernel) (by decide +kernel)
theorem w_Mo_79 : Cond.methodLink "NearMarksModel" 79 y_Mo_isLooked ∈ gtbl := g_at 747 (by decide +kernel) (by decide +kernel)
theorem w_Mo_82 : Cond.methodLink "NearMarksModel" 82 y_Mo_off ∈ gtbl := g_at 753 (by decide +kernel) (by decide +kernel)
theorem w_Mo_86 : Cond.methodLink "NearMarksModel" 86 y_Mo_parts ∈ gtbl := g_at 728 (by decide +kernel) (by decide +kernel)
theorem w_Mo_89 : Cond.methodLink "NearMarksModel" 89 y_Mo_ahead ∈ gtbl := g_at 765 (by decide +kernel) (by decide +kernel)
theorem w_Mo_92 : Cond.methodLink "NearMarksModel" 92 y_Mo_isDead ∈ gtbl := g_at 773 (by decide +kernel) (by decide +kernel)
theorem w_Mo_96 : Cond.methodLink "NearMarksModel" 96 y_Mo_areTogether ∈ gtbl := g_at 781 (by decide +kernel) (by decide +kernel)
theorem w_Mo_104 : Cond.methodLink "NearMarksModel" 104 y_Mo_couldBe ∈ gtbl := g_at 789 (by decide +kernel) (by decide +kernel)
theorem w_Mo_107 : Cond.methodLink "NearMarksModel" 107 y_Mo_could ∈ gtbl := g_at 785 (by decide +kernel) (by decide +kernel)
theorem w_Mo_114 : Cond.methodLink "NearMarksModel" 114 y_Mo_isMark ∈ gtbl := g_at 801 (by decide +kernel) (by decide +kernel)
theorem w_Mo_117 : Cond.methodLink "NearMarksModel" 117 y_Mo_nearestOf ∈ gtbl := g_at 761 (by decide +kernel) (by decide +kernel)
theorem w_Mo_120 : Cond.methodLink "NearMarksModel" 120 y_Mo_like ∈ gtbl := g_at 735 (by decide +kernel) (by decide +kernel)
theorem w_Mo_123 : Cond.methodLink "NearMarksModel" 123 y_Mo_looked ∈ gtbl := g_at 743 (by decide +kernel) (by decide +kernel)
theorem w_Mo_126 : Cond.methodLink "NearMarksModel" 126 y_Mo_first ∈ gtbl := g_at 757 (by decide +kernel) (by decide +kernel)
theorem w_Mo_129 : Cond.methodLink "NearMarksModel" 129 y_Mo_dead ∈ gtbl := g_at 769 (by decide +kernel) (by decide +kernel)
theorem w_Mo_132 : Cond.methodLink "NearMarksModel" 132 y_Mo_together ∈ gtbl := g_at 777 (by decide +kernel) (by decide +kernel)
theorem w_Mo_135 : Cond.methodLink "NearMarksModel" 135 y_Mo_asked ∈ gtbl := g_at 793 (by decide +kernel) (by decide +kernel)
theorem w_Mo_138 : Cond.methodLink "NearMarksModel" 138 y_Mo_wrong ∈ gtbl := g_at 797 (by decide +kernel) (by decide +kernel)
theorem w_Mo_146 : Cond.methodLink "NearMarksModel" 146 y_Mo_beginOf ∈ gtbl := g_at 826 (by decide +kernel) (by decide +kernel)
theorem w_Mo_149 : Cond.methodLink "NearMarksModel" 149 y_Mo_endOf ∈ gtbl := g_at 830 (by decide +kernel) (by decide +kernel)
theorem w_Mo_152 : Cond.methodLink "NearMarksModel" 152 y_Mo_have ∈ gtbl := g_at 834 (by decide +kernel) (by decide +kernel)
theorem w_Mo_155 : Cond.methodLink "NearMarksModel" 155 y_Mo_lay ∈ gtbl := g_at 848 (by decide +kernel) (by decide +kernel)
theorem w_Mo_163 : Cond.methodLink "NearMarksModel" 163 y_Mo_note ∈ gtbl := g_at 844 (by decide +kernel) (by decide +kernel)
theorem w_Mo_170 : Cond.methodLink "NearMarksModel" 170 y_Mo_row ∈ gtbl := g_at 862 (by decide +kernel) (by decide +kernel)
theorem w_Mo_177 : Cond.methodLink "NearMarksModel" 177 y_Mo_add ∈ gtbl := g_at 881 (by decide +kernel) (by decide +kernel)
theorem w_Mo_191 : Cond.methodLink "NearMarksModel" 191 y_Mo_draw ∈ gtbl := g_at 906 (by decide +kernel) (by decide +kernel)
theorem w_Mo_196 : Cond.methodLink "NearMarksModel" 196 y_Mo_lot ∈ gtbl := g_at 902 (by decide +kernel) (by decide +kernel)
theorem w_Mo_199 : Cond.methodLink "NearMarksModel" 199 y_Mo_become ∈ gtbl := g_at 918 (by decide +kernel) (by decide +kernel)
theorem w_Mo_204 : Cond.methodLink "NearMarksModel" 204 y_Mo_layGroups ∈ gtbl := g_at 939 (by decide +kernel) (by decide +kernel)
theorem w_Mo_207 : Cond.methodLink "NearMarksModel" 207 y_Mo_leastOf ∈ gtbl := g_at 947 (by decide +kernel) (by decide +kernel)
theorem w_Mo_210 : Cond.methodLink "NearMarksModel" 210 y_Mo_manyOf ∈ gtbl := g_at 951 (by decide +kernel) (by decide +kernel)
theorem w_Mo_213 : Cond.methodLink "NearMarksModel" 213 y_Mo_wide ∈ gtbl := g_at 955 (by decide +kernel) (by decide +kernel)
theorem w_Mo_216 : Cond.methodLink "NearMarksModel" 216 y_Mo_isMore ∈ gtbl := g_at 971 (by decide +kernel) (by decide +kernel)
theorem w_Mo_222 : Cond.methodLink "NearMarksModel" 222 y_Mo_cutBy ∈ gtbl := g_at 968 (by decide +kernel) (by decide +kernel)
theorem k_Nm_137 : Cond.constant "NearMarks" 137 (-1000000002) ∈ gtbl := g_at 396 (by decide +kernel) (by decide +kernel)
theorem k_Nm_146 : Cond.constant "NearMarks" 146 (-1000000001) ∈ gtbl := g_at 409 (by decide +kernel) (by decide +kernel)
theorem k_Nm_197 : Cond.constant "NearMarks" 197 (-1000000003) ∈ gtbl := g_at 482 (by decide +kernel) (by decide +kernel)
theorem k_Nm_198 : Cond.constant "NearMarks" 198 (-1000000004) ∈ gtbl := g_at 483 (by decide +kernel) (by decide +kernel)
theorem k_Dr_19 : Cond.constant "NearMarks$Draws" 19 65536 ∈ gtbl := g_at 519 (by decide +kernel) (by decide +kernel)
theorem k_Mo_144 : Cond.constant "NearMarksModel" 144 (-1000000002) ∈ gtbl := g_at 808 (by decide +kernel) (by decide +kernel)
theorem k_Mo_145 : Cond.constant "NearMarksModel" 145 (-1000000001) ∈ gtbl := g_at 821 (by decide +kernel) (by decide +kernel)
theorem k_Mo_175 : Cond.constant "NearMarksModel" 175 (-1000000003) ∈ gtbl := g_at 879 (by decide +kernel) (by decide +kernel)
theorem k_Mo_176 : Cond.constant "NearMarksModel" 176 (-1000000004) ∈ gtbl := g_at 880 (by decide +kernel) (by decide +kernel)
theorem k_Mo_190 : Cond.constant "NearMarksModel" 190 65536 ∈ gtbl := g_at 913 (by decide +kernel) (by decide +kernel)
theorem k_Dr_13 : Cond.constantLong "NearMarks$Draws" 13 1103515245 ∈ gtbl := g_at 516 (by decide +kernel) (by decide +kernel)
theorem k_Dr_15 : Cond.constantLong "NearMarks$Draws" 15 12345 ∈ gtbl := g_at 517 (by decide +kernel) (by decide +kernel)
theorem k_Dr_17 : Cond.constantLong "NearMarks$Draws" 17 2147483647 ∈ gtbl := g_at 518 (by decide +kernel) (by decide +kernel)
theorem k_Pi_9 : Cond.constantLong "NearMarks$Picture" 9 255 ∈ gtbl := g_at 441 (by decide +kernel) (by decide +kernel)
theorem k_Pi_11 : Cond.constantLong "NearMarks$Picture" 11 (-1) ∈ gtbl := g_at 442 (by decide +kernel) (by decide +kernel)
theorem k_St_9 : Cond.constantLong "NearMarks$State" 9 281479271743489 ∈ gtbl := g_at 69 (by decide +kernel) (by decide +kernel)
theorem k_Lw_62 : Cond.constantLong "NearMarksLaw" 62 4294967295 ∈ gtbl := g_at 998 (by decide +kernel) (by decide +kernel)
theorem k_Mo_57 : Cond.constantLong "NearMarksModel" 57 281479271743489 ∈ gtbl := g_at 660 (by decide +kernel) (by decide +kernel)
theorem k_Mo_159 : Cond.constantLong "NearMarksModel" 159 7 ∈ gtbl := g_at 842 (by decide +kernel) (by decide +kernel)
theorem k_Mo_161 : Cond.constantLong "NearMarksModel" 161 255 ∈ gtbl := g_at 843 (by decide +kernel) (by decide +kernel)
theorem k_Mo_166 : Cond.constantLong "NearMarksModel" 166 (-1) ∈ gtbl := g_at 852 (by decide +kernel) (by decide +kernel)
theorem k_Mo_168 : Cond.constantLong "NearMarksModel" 168 63 ∈ gtbl := g_at 857 (by decide +kernel) (by decide +kernel)
theorem k_Mo_173 : Cond.constantLong "NearMarksModel" 173 2 ∈ gtbl := g_at 878 (by decide +kernel) (by decide +kernel)
theorem k_Mo_184 : Cond.constantLong "NearMarksModel" 184 1103515245 ∈ gtbl := g_at 910 (by decide +kernel) (by decide +kernel)
theorem k_Mo_186 : Cond.constantLong "NearMarksModel" 186 12345 ∈ gtbl := g_at 911 (by decide +kernel) (by decide +kernel)
theorem k_Mo_188 : Cond.constantLong "NearMarksModel" 188 2147483648 ∈ gtbl := g_at 912 (by decide +kernel) (by decide +kernel)
theorem k_Mo_194 : Cond.constantLong "NearMarksModel" 194 20 ∈ gtbl := g_at 901 (by decide +kernel) (by decide +kernel)
theorem k_Mo_202 : Cond.constantLong "NearMarksModel" 202 64 ∈ gtbl := g_at 926 (by decide +kernel) (by decide +kernel)
theorem k_Mo_220 : Cond.constantLong "NearMarksModel" 220 8 ∈ gtbl := g_at 967 (by decide +kernel) (by decide +kernel)
theorem k_Lg_314 : Cond.constantLong "java/lang/Long" 314 6148914691236517205 ∈ gtbl := g_at 284 (by decide +kernel) (by decide +kernel)
theorem k_Lg_316 : Cond.constantLong "java/lang/Long" 316 3689348814741910323 ∈ gtbl := g_at 285 (by decide +kernel) (by decide +kernel)
theorem k_Lg_318 : Cond.constantLong "java/lang/Long" 318 1085102592571150095 ∈ gtbl := g_at 286 (by decide +kernel) (by decide +kernel)
theorem ok_Pt_beginAt : VOK y_Pt_beginAt c_Pt_beginAt 4 none 1 := ⟨g_at 158 (by decide +kernel) (by decide +kernel), g_at 159 (by decide +kernel) (by decide +kernel), g_at 45 (by decide +kernel) (by decide +kernel), wc_Pt_beginAt, ⟨by decide +kernel, by decide +kernel, by decide +kernel⟩⟩
theorem ok_Nm_hasBit : SOK y_Nm_hasBit c_Nm_hasBit 3 (some .boolean) 2 := ⟨g_at 162 (by decide +kernel) (by decide +kernel), g_at 41 (by decide +kernel) (by decide +kernel), wc_Nm_hasBit, ⟨by decide +kernel, by decide +kernel, by decide +kernel⟩⟩
theorem ok_Nm_told : VOK y_Nm_told c_Nm_told 2 (some .int) 1 := ⟨g_at 278 (by decide +kernel) (by decide +kernel), g_at 279 (by decide +kernel) (by decide +kernel), g_at 41 (by decide +kernel) (by decide +kernel), wc_Nm_told, ⟨by decide +kernel, by decide +kernel, by decide +kernel⟩⟩
theorem ok_Lg_bitCount : SOK y_Lg_bitCount c_Lg_bitCount 2 (some .int) 1 := ⟨g_at 282 (by decide +kernel) (by decide +kernel), g_at 52 (by decide +kernel) (by decide +kernel), wc_Lg_bitCount, ⟨by decide +kernel, by decide +kernel, by decide +kernel⟩⟩
theorem ok_St_numberOf : VOK y_St_numberOf c_St_numberOf 4 (some .int) 1 := ⟨g_at 288 (by decide +kernel) (by decide +kernel), g_at 289 (by decide +kernel) (by decide +kernel), g_at 42 (by decide +kernel) (by decide +kernel), wc_St_numberOf, ⟨by decide +kernel, by decide +kernel, by decide +kernel⟩⟩
theorem ok_Nm_countLookedAt : VOK y_Nm_countLookedAt c_Nm_countLookedAt 4 (some .int) 1 := ⟨g_at 293 (by decide +kernel) (by decide +kernel), g_at 0 (by decide +kernel) (by decide +kernel), g_at 41 (by decide +kernel) (by decide +kernel), wc_Nm_countLookedAt, ⟨by decide +kernel, by decide +kernel, by decide +kernel⟩⟩
theorem ok_St_fromHand : VOK y_St_fromHand c_St_fromHand 2 (some .int) 1 := ⟨g_at 296 (by decide +kernel) (by decide +kernel), g_at 297 (by decide +kernel) (by decide +kernel), g_at 42 (by decide +kernel) (by decide +kernel), wc_St_fromHand, ⟨by decide +kernel, by decide +kernel, by decide +kernel⟩⟩
theorem ok_Nm_distanceOf : SOK y_Nm_distanceOf c_Nm_distanceOf 4 (some .int) 2 := ⟨g_at 300 (by decide +kernel) (by decide +kernel), g_at 41 (by decide +kernel) (by decide +kernel), wc_Nm_distanceOf, ⟨by decide +kernel, by decide +kernel, by decide +kernel⟩⟩
theorem ok_Pt_anyAlike : VOK y_Pt_anyAlike c_Pt_anyAlike 4 (some .boolean) 1 := ⟨g_at 303 (by decide +kernel) (by decide +kernel), g_at 304 (by decide +kernel) (by decide +kernel), g_at 45 (by decide +kernel) (by decide +kernel), wc_Pt_anyAlike, ⟨by decide +kernel, by decide +kernel, by decide +kernel⟩⟩
theorem ok_Pt_reach : VOK y_Pt_reach c_Pt_reach 1 (some .int) 0 := ⟨g_at 307 (by decide +kernel) (by decide +kernel), g_at 308 (by decide +kernel) (by decide +kernel), g_at 45 (by decide +kernel) (by decide +kernel), wc_Pt_reach, ⟨by decide +kernel, by decide +kernel, by decide +kernel⟩⟩
theorem ok_St_byDistance : VOK y_St_byDistance c_St_byDistance 3 (some .int) 1 := ⟨g_at 311 (by decide +kernel) (by decide +kernel), g_at 312 (by decide +kernel) (by decide +kernel), g_at 42 (by decide +kernel) (by decide +kernel), wc_St_byDistance, ⟨by decide +kernel, by decide +kernel, by decide +kernel⟩⟩
theorem ok_St_countNearerThan : VOK y_St_countNearerThan c_St_countNearerThan 6 (some .int) 1 := ⟨g_at 315 (by decide +kernel) (by decide +kernel), g_at 316 (by decide +kernel) (by decide +kernel), g_at 42 (by decide +kernel) (by decide +kernel), wc_St_countNearerThan, ⟨by decide +kernel, by decide +kernel, by decide +kernel⟩⟩
theorem ok_Nm_leastDistance : VOK y_Nm_leastDistance c_Nm_leastDistance 2 (some .int) 0 := ⟨g_at 321 (by decide +kernel) (by decide +kernel), g_at 1 (by decide +kernel) (by decide +kernel), g_at 41 (by decide +kernel) (by decide +kernel), wc_Nm_leastDistance, ⟨by decide +kernel, by decide +kernel, by decide +kernel⟩⟩
theorem ok_St_has : VOK y_St_has c_St_has 2 (some .boolean) 1 := ⟨g_at 324 (by decide +kernel) (by decide +kernel), g_at 325 (by decide +kernel) (by decide +kernel), g_at 42 (by decide +kernel) (by decide +kernel), wc_St_has, ⟨by decide +kernel, by decide +kernel, by decide +kernel⟩⟩
theorem ok_Co_countDead : VOK y_Co_countDead c_Co_countDead 4 (some .int) 1 := ⟨g_at 328 (by decide +kernel) (by decide +kernel), g_at 329 (by decide +kernel) (by decide +kernel), g_at 47 (by decide +kernel) (by decide +kernel), wc_Co_countDead, ⟨by decide +kernel, by decide +kernel, by decide +kernel⟩⟩
theorem ok_Co_read : VOK y_Co_read c_Co_read 4 none 1 := ⟨g_at 332 (by decide +kernel) (by decide +kernel), g_at 333 (by decide +kernel) (by decide +kernel), g_at 47 (by decide +kernel) (by decide +kernel), wc_Co_read, ⟨by decide +kernel, by decide +kernel, by decide +kernel⟩⟩
theorem ok_Co_isDead : VOK y_Co_isDead c_Co_isDead 2 (some .boolean) 1 := ⟨g_at 336 (by decide +kernel) (by decide +kernel), g_at 337 (by decide +kernel) (by decide +kernel), g_at 47 (by decide +kernel) (by decide +kernel), wc_Co_isDead, ⟨by decide +kernel, by decide +kernel, by decide +kernel⟩⟩
theorem ok_Co_firstPair : VOK y_Co_firstPair c_Co_firstPair 4 (some .int) 1 := ⟨g_at 340 (by decide +kernel) (by decide +kernel), g_at 341 (by decide +kernel) (by decide +kernel), g_at 47 (by decide +kernel) (by decide +kernel), wc_Co_firstPair, ⟨by decide +kernel, by decide +kernel, by decide +kernel⟩⟩
theorem ok_Co_goTogether : VOK y_Co_goTogether c_Co_goTogether 3 (some .boolean) 2 := ⟨g_at 344 (by decide +kernel) (by decide +kernel), g_at 345 (by decide +kernel) (by decide +kernel), g_at 47 (by decide +kernel) (by decide +kernel), wc_Co_goTogether, ⟨by decide +kernel, by decide +kernel, by decide +kernel⟩⟩
theorem ok_Si_fitting : VOK y_Si_fitting c_Si_fitting 5 (some .long) 1 := ⟨g_at 348 (by decide +kernel) (by decide +kernel), g_at 349 (by decide +kernel) (by decide +kernel), g_at 48 (by decide +kernel) (by decide +kernel), wc_Si_fitting, ⟨by decide +kernel, by decide +kernel, by decide +kernel⟩⟩
theorem ok_Si_fits : VOK y_Si_fits c_Si_fits 4 (some .boolean) 1 := ⟨g_at 352 (by decide +kernel) (by decide +kernel), g_at 353 (by decide +kernel) (by decide +kernel), g_at 48 (by decide +kernel) (by decide +kernel), wc_Si_fits, ⟨by decide +kernel, by decide +kernel, by decide +kernel⟩⟩
theorem ok_Si_leastFitting : VOK y_Si_leastFitting c_Si_leastFitting 2 (some .int) 1 := ⟨g_at 357 (by decide +kernel) (by decide +kernel), g_at 358 (by decide +kernel) (by decide +kernel), g_at 48 (by decide +kernel) (by decide +kernel), wc_Si_leastFitting, ⟨by decide +kernel, by decide +kernel, by decide +kernel⟩⟩
theorem ok_Nm_leastOf : SOK y_Nm_leastOf c_Nm_leastOf 3 (some .int) 1 := ⟨g_at 362 (by decide +kernel) (by decide +kernel), g_at 41 (by decide +kernel) (by decide +kernel), wc_Nm_leastOf, ⟨by decide +kernel, by decide +kernel, by decide +kernel⟩⟩
theorem ok_Si_bestToAsk : VOK y_Si_bestToAsk c_Si_bestToAsk 8 (some .int) 1 := ⟨g_at 366 (by decide +kernel) (by decide +kernel), g_at 367 (by decide +kernel) (by decide +kernel), g_at 48 (by decide +kernel) (by decide +kernel), wc_Si_bestToAsk, ⟨by decide +kernel, by decide +kernel, by decide +kernel⟩⟩
theorem ok_Si_greatestLeft : VOK y_Si_greatestLeft c_Si_greatestLeft 8 (some .int) 3 := ⟨g_at 371 (by decide +kernel) (by decide +kernel), g_at 372 (by decide +kernel) (by decide +kernel), g_at 48 (by decide +kernel) (by decide +kernel), wc_Si_greatestLeft, ⟨by decide +kernel, by decide +kernel, by decide +kernel⟩⟩
theorem ok_St_between : VOK y_St_between c_St_between 3 (some .int) 2 := ⟨g_at 376 (by decide +kernel) (by decide +kernel), g_at 377 (by decide +kernel) (by decide +kernel), g_at 42 (by decide +kernel) (by decide +kernel), wc_St_between, ⟨by decide +kernel, by decide +kernel, by decide +kernel⟩⟩
theorem ok_Ma_max : SOK y_Ma_max c_Ma_max 2 (some .int) 2 := ⟨g_at 380 (by decide +kernel) (by decide +kernel), g_at 53 (by decide +kernel) (by decide +kernel), wc_Ma_max, ⟨by decide +kernel, by decide +kernel, by decide +kernel⟩⟩
theorem ok_Bk_firstWrong : VOK y_Bk_firstWrong c_Bk_firstWrong 3 (some .int) 1 := ⟨g_at 383 (by decide +kernel) (by decide +kernel), g_at 384 (by decide +kernel) (by decide +kernel), g_at 49 (by decide +kernel) (by decide +kernel), wc_Bk_firstWrong, ⟨by decide +kernel, by decide +kernel, by decide +kernel⟩⟩
theorem ok_Bk_isRight : VOK y_Bk_isRight c_Bk_isRight 3 (some .boolean) 2 := ⟨g_at 387 (by decide +kernel) (by decide +kernel), g_at 388 (by decide +kernel) (by decide +kernel), g_at 49 (by decide +kernel) (by decide +kernel), wc_Bk_isRight, ⟨by decide +kernel, by decide +kernel, by decide +kernel⟩⟩
theorem ok_St_hasBoth : VOK y_St_hasBoth c_St_hasBoth 3 (some .boolean) 2 := ⟨g_at 391 (by decide +kernel) (by decide +kernel), g_at 392 (by decide +kernel) (by decide +kernel), g_at 42 (by decide +kernel) (by decide +kernel), wc_St_hasBoth, ⟨by decide +kernel, by decide +kernel, by decide +kernel⟩⟩
theorem ok_Nm_hand : VOK y_Nm_hand c_Nm_hand 1 (some .long) 0 := ⟨g_at 398 (by decide +kernel) (by decide +kernel), g_at 399 (by decide +kernel) (by decide +kernel), g_at 41 (by decide +kernel) (by decide +kernel), wc_Nm_hand, ⟨by decide +kernel, by decide +kernel, by decide +kernel⟩⟩
theorem ok_Nm_markAt : VOK y_Nm_markAt c_Nm_markAt 2 (some .long) 1 := ⟨g_at 402 (by decide +kernel) (by decide +kernel), g_at 403 (by decide +kernel) (by decide +kernel), g_at 41 (by decide +kernel) (by decide +kernel), wc_Nm_markAt, ⟨by decide +kernel, by decide +kernel, by decide +kernel⟩⟩
theorem ok_Nm_mark : VOK y_Nm_mark c_Nm_mark 3 (some .int) 2 := ⟨g_at 406 (by decide +kernel) (by decide +kernel), g_at 407 (by decide +kernel) (by decide +kernel), g_at 41 (by decide +kernel) (by decide +kernel), wc_Nm_mark, ⟨by decide +kernel, by decide +kernel, by decide +kernel⟩⟩
theorem ok_Nm_countOthersWithin : VOK y_Nm_countOthersWithin c_Nm_countOthersWithin 5 (some .int) 2 := ⟨g_at 412 (by decide +kernel) (by decide +kernel), g_at 2 (by decide +kernel) (by decide +kernel), g_at 41 (by decide +kernel) (by decide +kernel), wc_Nm_countOthersWithin, ⟨by decide +kernel, by decide +kernel, by decide +kernel⟩⟩
theorem ok_Nm_part : VOK y_Nm_part c_Nm_part 3 (some .int) 2 := ⟨g_at 416 (by decide +kernel) (by decide +kernel), g_at 417 (by decide +kernel) (by decide +kernel), g_at 41 (by decide +kernel) (by decide +kernel), wc_Nm_part, ⟨by decide +kernel, by decide +kernel, by decide +kernel⟩⟩
theorem ok_Nm_countWithPart : VOK y_Nm_countWithPart c_Nm_countWithPart 5 (some .int) 1 := ⟨g_at 421 (by decide +kernel) (by decide +kernel), g_at 3 (by decide +kernel) (by decide +kernel), g_at 41 (by decide +kernel) (by decide +kernel), wc_Nm_countWithPart, ⟨by decide +kernel, by decide +kernel, by decide +kernel⟩⟩
theorem ok_Nm_type : VOK y_Nm_type c_Nm_type 3 (some .int) 2 := ⟨g_at 424 (by decide +kernel) (by decide +kernel), g_at 425 (by decide +kernel) (by decide +kernel), g_at 41 (by decide +kernel) (by decide +kernel), wc_Nm_type, ⟨by decide +kernel, by decide +kernel, by decide +kernel⟩⟩
theorem ok_Pa_remember : VOK y_Pa_remember c_Pa_remember 2 none 1 := ⟨g_at 428 (by decide +kernel) (by decide +kernel), g_at 429 (by decide +kernel) (by decide +kernel), g_at 43 (by decide +kernel) (by decide +kernel), wc_Pa_remember, ⟨by decide +kernel, by decide +kernel, by decide +kernel⟩⟩
theorem ok_St_become : VOK y_St_become c_St_become 3 none 1 := ⟨g_at 432 (by decide +kernel) (by decide +kernel), g_at 433 (by decide +kernel) (by decide +kernel), g_at 42 (by decide +kernel) (by decide +kernel), wc_St_become, ⟨by decide +kernel, by decide +kernel, by decide +kernel⟩⟩
theorem ok_Ma_min : SOK y_Ma_min c_Ma_min 2 (some .int) 2 := ⟨g_at 436 (by decide +kernel) (by decide +kernel), g_at 53 (by decide +kernel) (by decide +kernel), wc_Ma_min, ⟨by decide +kernel, by decide +kernel, by decide +kernel⟩⟩
theorem ok_Pi_withRow : SOK y_Pi_withRow c_Pi_withRow 5 (some .long) 3 := ⟨g_at 439 (by decide +kernel) (by decide +kernel), g_at 54 (by decide +kernel) (by decide +kernel), wc_Pi_withRow, ⟨by decide +kernel, by decide +kernel, by decide +kernel⟩⟩
theorem ok_Nm_flip : VOK y_Nm_flip c_Nm_flip 2 (some .int) 1 := ⟨g_at 444 (by decide +kernel) (by decide +kernel), g_at 445 (by decide +kernel) (by decide +kernel), g_at 41 (by decide +kernel) (by decide +kernel), wc_Nm_flip, ⟨by decide +kernel, by decide +kernel, by decide +kernel⟩⟩
theorem ok_Nm_turn : VOK y_Nm_turn c_Nm_turn 1 (some .int) 0 := ⟨g_at 448 (by decide +kernel) (by decide +kernel), g_at 449 (by decide +kernel) (by decide +kernel), g_at 41 (by decide +kernel) (by decide +kernel), wc_Nm_turn, ⟨by decide +kernel, by decide +kernel, by decide +kernel⟩⟩
theorem ok_Pi_turned : SOK y_Pi_turned c_Pi_turned 6 (some .long) 1 := ⟨g_at 452 (by decide +kernel) (by decide +kernel), g_at 54 (by decide +kernel) (by decide +kernel), wc_Pi_turned, ⟨by decide +kernel, by decide +kernel, by decide +kernel⟩⟩
theorem ok_Pi_hasDot : SOK y_Pi_hasDot c_Pi_hasDot 4 (some .boolean) 3 := ⟨g_at 455 (by decide +kernel) (by decide +kernel), g_at 54 (by decide +kernel) (by decide +kernel), wc_Pi_hasDot, ⟨by decide +kernel, by decide +kernel, by decide +kernel⟩⟩
theorem ok_Pi_dotAt : SOK y_Pi_dotAt c_Pi_dotAt 2 (some .long) 2 := ⟨g_at 459 (by decide +kernel) (by decide +kernel), g_at 54 (by decide +kernel) (by decide +kernel), wc_Pi_dotAt, ⟨by decide +kernel, by decide +kernel, by decide +kernel⟩⟩
theorem ok_Pi_firstRow : SOK y_Pi_firstRow c_Pi_firstRow 2 (some .int) 1 := ⟨g_at 462 (by decide +kernel) (by decide +kernel), g_at 54 (by decide +kernel) (by decide +kernel), wc_Pi_firstRow, ⟨by decide +kernel, by decide +kernel, by decide +kernel⟩⟩
theorem ok_Nm_mirror : VOK y_Nm_mirror c_Nm_mirror 1 (some .int) 0 := ⟨g_at 465 (by decide +kernel) (by decide +kernel), g_at 466 (by decide +kernel) (by decide +kernel), g_at 41 (by decide +kernel) (by decide +kernel), wc_Nm_mirror, ⟨by decide +kernel, by decide +kernel, by decide +kernel⟩⟩
theorem ok_Pi_mirrored : SOK y_Pi_mirrored c_Pi_mirrored 6 (some .long) 1 := ⟨g_at 469 (by decide +kernel) (by decide +kernel), g_at 54 (by decide +kernel) (by decide +kernel), wc_Pi_mirrored, ⟨by decide +kernel, by decide +kernel, by decide +kernel⟩⟩
theorem ok_Nm_hold : VOK y_Nm_hold c_Nm_hold 3 (some .int) 1 := ⟨g_at 472 (by decide +kernel) (by decide +kernel), g_at 473 (by decide +kernel) (by decide +kernel), g_at 41 (by decide +kernel) (by decide +kernel), wc_Nm_hold, ⟨by decide +kernel, by decide +kernel, by decide +kernel⟩⟩
theorem ok_Nm_put : VOK y_Nm_put c_Nm_put 2 (some .int) 1 := ⟨g_at 476 (by decide +kernel) (by decide +kernel), g_at 477 (by decide +kernel) (by decide +kernel), g_at 41 (by decide +kernel) (by decide +kernel), wc_Nm_put, ⟨by decide +kernel, by decide +kernel, by decide +kernel⟩⟩
theorem ok_Nm_isKind : SOK y_Nm_isKind c_Nm_isKind 1 (some .boolean) 1 := ⟨g_at 480 (by decide +kernel) (by decide +kernel), g_at 41 (by decide +kernel) (by decide +kernel), wc_Nm_isKind, ⟨by decide +kernel, by decide +kernel, by decide +kernel⟩⟩
theorem ok_St_addHand : VOK y_St_addHand c_St_addHand 2 none 1 := ⟨g_at 485 (by decide +kernel) (by decide +kernel), g_at 486 (by decide +kernel) (by decide +kernel), g_at 42 (by decide +kernel) (by decide +kernel), wc_St_addHand, ⟨by decide +kernel, by decide +kernel, by decide +kernel⟩⟩
theorem ok_Nm_cut : VOK y_Nm_cut c_Nm_cut 3 (some .int) 1 := ⟨g_at 489 (by decide +kernel) (by decide +kernel), g_at 490 (by decide +kernel) (by decide +kernel), g_at 41 (by decide +kernel) (by decide +kernel), wc_Nm_cut, ⟨by decide +kernel, by decide +kernel, by decide +kernel⟩⟩
theorem ok_Nm_take : VOK y_Nm_take c_Nm_take 2 (some .int) 1 := ⟨g_at 493 (by decide +kernel) (by decide +kernel), g_at 494 (by decide +kernel) (by decide +kernel), g_at 41 (by decide +kernel) (by decide +kernel), wc_Nm_take, ⟨by decide +kernel, by decide +kernel, by decide +kernel⟩⟩
theorem ok_St_remove : VOK y_St_remove c_St_remove 3 none 1 := ⟨g_at 497 (by decide +kernel) (by decide +kernel), g_at 498 (by decide +kernel) (by decide +kernel), g_at 42 (by decide +kernel) (by decide +kernel), wc_St_remove, ⟨by decide +kernel, by decide +kernel, by decide +kernel⟩⟩
theorem ok_Nm_kind : VOK y_Nm_kind c_Nm_kind 4 (some .int) 2 := ⟨g_at 501 (by decide +kernel) (by decide +kernel), g_at 502 (by decide +kernel) (by decide +kernel), g_at 41 (by decide +kernel) (by decide +kernel), wc_Nm_kind, ⟨by decide +kernel, by decide +kernel, by decide +kernel⟩⟩
theorem ok_Nm_drift : VOK y_Nm_drift c_Nm_drift 3 (some .int) 1 := ⟨g_at 505 (by decide +kernel) (by decide +kernel), g_at 506 (by decide +kernel) (by decide +kernel), g_at 41 (by decide +kernel) (by decide +kernel), wc_Nm_drift, ⟨by decide +kernel, by decide +kernel, by decide +kernel⟩⟩
theorem ok_Nm_changeHandByDraws : VOK y_Nm_changeHandByDraws c_Nm_changeHandByDraws 2 none 0 := ⟨g_at 510 (by decide +kernel) (by decide +kernel), g_at 4 (by decide +kernel) (by decide +kernel), g_at 41 (by decide +kernel) (by decide +kernel), wc_Nm_changeHandByDraws, ⟨by decide +kernel, by decide +kernel, by decide +kernel⟩⟩
theorem ok_Dr_next : VOK y_Dr_next c_Dr_next 2 (some .int) 1 := ⟨g_at 513 (by decide +kernel) (by decide +kernel), g_at 514 (by decide +kernel) (by decide +kernel), g_at 50 (by decide +kernel) (by decide +kernel), wc_Dr_next, ⟨by decide +kernel, by decide +kernel, by decide +kernel⟩⟩
theorem ok_Pi_ofEqualRows : SOK y_Pi_ofEqualRows c_Pi_ofEqualRows 4 (some .long) 1 := ⟨g_at 522 (by decide +kernel) (by decide +kernel), g_at 54 (by decide +kernel) (by decide +kernel), wc_Pi_ofEqualRows, ⟨by decide +kernel, by decide +kernel, by decide +kernel⟩⟩
theorem ok_Nm_putIfUnlikeAll : VOK y_Nm_putIfUnlikeAll c_Nm_putIfUnlikeAll 1 none 0 := ⟨g_at 527 (by decide +kernel) (by decide +kernel), g_at 5 (by decide +kernel) (by decide +kernel), g_at 41 (by decide +kernel) (by decide +kernel), wc_Nm_putIfUnlikeAll, ⟨by decide +kernel, by decide +kernel, by decide +kernel⟩⟩
theorem ok_Nm_undo : VOK y_Nm_undo c_Nm_undo 2 (some .int) 1 := ⟨g_at 530 (by decide +kernel) (by decide +kernel), g_at 531 (by decide +kernel) (by decide +kernel), g_at 41 (by decide +kernel) (by decide +kernel), wc_Nm_undo, ⟨by decide +kernel, by decide +kernel, by decide +kernel⟩⟩
theorem ok_Pa_bringBack : VOK y_Pa_bringBack c_Pa_bringBack 3 none 2 := ⟨g_at 534 (by decide +kernel) (by decide +kernel), g_at 535 (by decide +kernel) (by decide +kernel), g_at 43 (by decide +kernel) (by decide +kernel), wc_Pa_bringBack, ⟨by decide +kernel, by decide +kernel, by decide +kernel⟩⟩
theorem ok_Nm_near : VOK y_Nm_near c_Nm_near 5 (some .long) 1 := ⟨g_at 538 (by decide +kernel) (by decide +kernel), g_at 539 (by decide +kernel) (by decide +kernel), g_at 41 (by decide +kernel) (by decide +kernel), wc_Nm_near, ⟨by decide +kernel, by decide +kernel, by decide +kernel⟩⟩
theorem ok_Nm_isDistance : SOK y_Nm_isDistance c_Nm_isDistance 1 (some .boolean) 1 := ⟨g_at 542 (by decide +kernel) (by decide +kernel), g_at 41 (by decide +kernel) (by decide +kernel), wc_Nm_isDistance, ⟨by decide +kernel, by decide +kernel, by decide +kernel⟩⟩
theorem ok_Nm_isNear : VOK y_Nm_isNear c_Nm_isNear 4 (some .boolean) 2 := ⟨g_at 546 (by decide +kernel) (by decide +kernel), g_at 6 (by decide +kernel) (by decide +kernel), g_at 41 (by decide +kernel) (by decide +kernel), wc_Nm_isNear, ⟨by decide +kernel, by decide +kernel, by decide +kernel⟩⟩
theorem ok_Nm_nearest : VOK y_Nm_nearest c_Nm_nearest 2 (some .int) 1 := ⟨g_at 549 (by decide +kernel) (by decide +kernel), g_at 550 (by decide +kernel) (by decide +kernel), g_at 41 (by decide +kernel) (by decide +kernel), wc_Nm_nearest, ⟨by decide +kernel, by decide +kernel, by decide +kernel⟩⟩
theorem ok_Nm_apart : VOK y_Nm_apart c_Nm_apart 3 (some .int) 2 := ⟨g_at 553 (by decide +kernel) (by decide +kernel), g_at 554 (by decide +kernel) (by decide +kernel), g_at 41 (by decide +kernel) (by decide +kernel), wc_Nm_apart, ⟨by decide +kernel, by decide +kernel, by decide +kernel⟩⟩
theorem ok_Nm_groups : VOK y_Nm_groups c_Nm_groups 2 (some .int) 1 := ⟨g_at 558 (by decide +kernel) (by decide +kernel), g_at 559 (by decide +kernel) (by decide +kernel), g_at 41 (by decide +kernel) (by decide +kernel), wc_Nm_groups, ⟨by decide +kernel, by decide +kernel, by decide +kernel⟩⟩
theorem ok_Gr_join : VOK y_Gr_join c_Gr_join 6 none 2 := ⟨g_at 562 (by decide +kernel) (by decide +kernel), g_at 563 (by decide +kernel) (by decide +kernel), g_at 46 (by decide +kernel) (by decide +kernel), wc_Gr_join, ⟨by decide +kernel, by decide +kernel, by decide +kernel⟩⟩
theorem ok_Gr_findClose : VOK y_Gr_findClose c_Gr_findClose 5 none 2 := ⟨g_at 566 (by decide +kernel) (by decide +kernel), g_at 567 (by decide +kernel) (by decide +kernel), g_at 46 (by decide +kernel) (by decide +kernel), wc_Gr_findClose, ⟨by decide +kernel, by decide +kernel, by decide +kernel⟩⟩
theorem ok_Gr_spread : VOK y_Gr_spread c_Gr_spread 9 (some .long) 2 := ⟨g_at 572 (by decide +kernel) (by decide +kernel), g_at 573 (by decide +kernel) (by decide +kernel), g_at 46 (by decide +kernel) (by decide +kernel), wc_Gr_spread, ⟨by decide +kernel, by decide +kernel, by decide +kernel⟩⟩
theorem ok_Nm_group : VOK y_Nm_group c_Nm_group 4 (some .int) 3 := ⟨g_at 576 (by decide +kernel) (by decide +kernel), g_at 577 (by decide +kernel) (by decide +kernel), g_at 41 (by decide +kernel) (by decide +kernel), wc_Nm_group, ⟨by decide +kernel, by decide +kernel, by decide +kernel⟩⟩
theorem ok_Gr_has : VOK y_Gr_has c_Gr_has 2 (some .boolean) 1 := ⟨g_at 580 (by decide +kernel) (by decide +kernel), g_at 581 (by decide +kernel) (by decide +kernel), g_at 46 (by decide +kernel) (by decide +kernel), wc_Gr_has, ⟨by decide +kernel, by decide +kernel, by decide +kernel⟩⟩
theorem ok_St_widthOf : VOK y_St_widthOf c_St_widthOf 6 (some .int) 1 := ⟨g_at 585 (by decide +kernel) (by decide +kernel), g_at 586 (by decide +kernel) (by decide +kernel), g_at 42 (by decide +kernel) (by decide +kernel), wc_St_widthOf, ⟨by decide +kernel, by decide +kernel, by decide +kernel⟩⟩
theorem ok_Nm_middle : VOK y_Nm_middle c_Nm_middle 3 (some .long) 2 := ⟨g_at 592 (by decide +kernel) (by decide +kernel), g_at 593 (by decide +kernel) (by decide +kernel), g_at 41 (by decide +kernel) (by decide +kernel), wc_Nm_middle, ⟨by decide +kernel, by decide +kernel, by decide +kernel⟩⟩
theorem ok_Co_mostOf : VOK y_Co_mostOf c_Co_mostOf 8 (some .long) 2 := ⟨g_at 596 (by decide +kernel) (by decide +kernel), g_at 597 (by decide +kernel) (by decide +kernel), g_at 47 (by decide +kernel) (by decide +kernel), wc_Co_mostOf, ⟨by decide +kernel, by decide +kernel, by decide +kernel⟩⟩
theorem ok_Nm_fewest : VOK y_Nm_fewest c_Nm_fewest 7 (some .int) 2 := ⟨g_at 601 (by decide +kernel) (by decide +kernel), g_at 602 (by decide +kernel) (by decide +kernel), g_at 41 (by decide +kernel) (by decide +kernel), wc_Nm_fewest, ⟨by decide +kernel, by decide +kernel, by decide +kernel⟩⟩
theorem ok_Pt_beginEvenly : VOK y_Pt_beginEvenly c_Pt_beginEvenly 9 none 2 := ⟨g_at 605 (by decide +kernel) (by decide +kernel), g_at 606 (by decide +kernel) (by decide +kernel), g_at 45 (by decide +kernel) (by decide +kernel), wc_Pt_beginEvenly, ⟨by decide +kernel, by decide +kernel, by decide +kernel⟩⟩
theorem ok_Pt_turnOf : SOK y_Pt_turnOf c_Pt_turnOf 3 (some .int) 3 := ⟨g_at 610 (by decide +kernel) (by decide +kernel), g_at 45 (by decide +kernel) (by decide +kernel), wc_Pt_turnOf, ⟨by decide +kernel, by decide +kernel, by decide +kernel⟩⟩
theorem ok_Nm_countAllLooks : VOK y_Nm_countAllLooks c_Nm_countAllLooks 5 (some .int) 1 := ⟨g_at 615 (by decide +kernel) (by decide +kernel), g_at 7 (by decide +kernel) (by decide +kernel), g_at 41 (by decide +kernel) (by decide +kernel), wc_Nm_countAllLooks, ⟨by decide +kernel, by decide +kernel, by decide +kernel⟩⟩
theorem ok_Nm_see : VOK y_Nm_see c_Nm_see 2 (some .int) 1 := ⟨g_at 618 (by decide +kernel) (by decide +kernel), g_at 619 (by decide +kernel) (by decide +kernel), g_at 41 (by decide +kernel) (by decide +kernel), wc_Nm_see, ⟨by decide +kernel, by decide +kernel, by decide +kernel⟩⟩
theorem ok_Si_add : VOK y_Si_add c_Si_add 4 none 2 := ⟨g_at 622 (by decide +kernel) (by decide +kernel), g_at 623 (by decide +kernel) (by decide +kernel), g_at 48 (by decide +kernel) (by decide +kernel), wc_Si_add, ⟨by decide +kernel, by decide +kernel, by decide +kernel⟩⟩
theorem ok_Nm_write : VOK y_Nm_write c_Nm_write 4 (some .int) 3 := ⟨g_at 626 (by decide +kernel) (by decide +kernel), g_at 627 (by decide +kernel) (by decide +kernel), g_at 41 (by decide +kernel) (by decide +kernel), wc_Nm_write, ⟨by decide +kernel, by decide +kernel, by decide +kernel⟩⟩
theorem ok_Bk_add : VOK y_Bk_add c_Bk_add 4 none 3 := ⟨g_at 630 (by decide +kernel) (by decide +kernel), g_at 631 (by decide +kernel) (by decide +kernel), g_at 49 (by decide +kernel) (by decide +kernel), wc_Bk_add, ⟨by decide +kernel, by decide +kernel, by decide +kernel⟩⟩
theorem ok_Nm_tear : VOK y_Nm_tear c_Nm_tear 2 (some .int) 0 := ⟨g_at 634 (by decide +kernel) (by decide +kernel), g_at 635 (by decide +kernel) (by decide +kernel), g_at 41 (by decide +kernel) (by decide +kernel), wc_Nm_tear, ⟨by decide +kernel, by decide +kernel, by decide +kernel⟩⟩
theorem ok_Nm_seed : VOK y_Nm_seed c_Nm_seed 3 (some .int) 1 := ⟨g_at 638 (by decide +kernel) (by decide +kernel), g_at 639 (by decide +kernel) (by decide +kernel), g_at 41 (by decide +kernel) (by decide +kernel), wc_Nm_seed, ⟨by decide +kernel, by decide +kernel, by decide +kernel⟩⟩
theorem ok_Nm_keep : VOK y_Nm_keep c_Nm_keep 2 (some .int) 1 := ⟨g_at 642 (by decide +kernel) (by decide +kernel), g_at 643 (by decide +kernel) (by decide +kernel), g_at 41 (by decide +kernel) (by decide +kernel), wc_Nm_keep, ⟨by decide +kernel, by decide +kernel, by decide +kernel⟩⟩
theorem ok_Pa_forget : VOK y_Pa_forget c_Pa_forget 1 none 0 := ⟨g_at 647 (by decide +kernel) (by decide +kernel), g_at 648 (by decide +kernel) (by decide +kernel), g_at 43 (by decide +kernel) (by decide +kernel), wc_Pa_forget, ⟨by decide +kernel, by decide +kernel, by decide +kernel⟩⟩
theorem ok_Nm_goBack : VOK y_Nm_goBack c_Nm_goBack 2 (some .int) 1 := ⟨g_at 651 (by decide +kernel) (by decide +kernel), g_at 652 (by decide +kernel) (by decide +kernel), g_at 41 (by decide +kernel) (by decide +kernel), wc_Nm_goBack, ⟨by decide +kernel, by decide +kernel, by decide +kernel⟩⟩
theorem ok_Mo_told : VOK y_Mo_told c_Mo_told 2 (some .int) 1 := ⟨g_at 721 (by decide +kernel) (by decide +kernel), g_at 722 (by decide +kernel) (by decide +kernel), g_at 51 (by decide +kernel) (by decide +kernel), wc_Mo_told, ⟨by decide +kernel, by decide +kernel, by decide +kernel⟩⟩
theorem ok_Mo_marks : VOK y_Mo_marks c_Mo_marks 1 (some .int) 0 := ⟨g_at 726 (by decide +kernel) (by decide +kernel), g_at 8 (by decide +kernel) (by decide +kernel), g_at 51 (by decide +kernel) (by decide +kernel), wc_Mo_marks, ⟨by decide +kernel, by decide +kernel, by decide +kernel⟩⟩
theorem ok_Mo_parts : VOK y_Mo_parts c_Mo_parts 1 (some .int) 0 := ⟨g_at 730 (by decide +kernel) (by decide +kernel), g_at 9 (by decide +kernel) (by decide +kernel), g_at 51 (by decide +kernel) (by decide +kernel), wc_Mo_parts, ⟨by decide +kernel, by decide +kernel, by decide +kernel⟩⟩
theorem ok_Mo_ones : SOK y_Mo_ones c_Mo_ones 4 (some .int) 1 := ⟨g_at 733 (by decide +kernel) (by decide +kernel), g_at 51 (by decide +kernel) (by decide +kernel), wc_Mo_ones, ⟨by decide +kernel, by decide +kernel, by decide +kernel⟩⟩
theorem ok_Mo_like : VOK y_Mo_like c_Mo_like 5 (some .int) 1 := ⟨g_at 737 (by decide +kernel) (by decide +kernel), g_at 10 (by decide +kernel) (by decide +kernel), g_at 51 (by decide +kernel) (by decide +kernel), wc_Mo_like, ⟨by decide +kernel, by decide +kernel, by decide +kernel⟩⟩
theorem ok_Mo_own : VOK y_Mo_own c_Mo_own 2 (some .long) 1 := ⟨g_at 741 (by decide +kernel) (by decide +kernel), g_at 11 (by decide +kernel) (by decide +kernel), g_at 51 (by decide +kernel) (by decide +kernel), wc_Mo_own, ⟨by decide +kernel, by decide +kernel, by decide +kernel⟩⟩
theorem ok_Mo_looked : VOK y_Mo_looked c_Mo_looked 5 (some .int) 1 := ⟨g_at 745 (by decide +kernel) (by decide +kernel), g_at 12 (by decide +kernel) (by decide +kernel), g_at 51 (by decide +kernel) (by decide +kernel), wc_Mo_looked, ⟨by decide +kernel, by decide +kernel, by decide +kernel⟩⟩
theorem ok_Mo_isLooked : SOK y_Mo_isLooked c_Mo_isLooked 11 (some .boolean) 3 := ⟨g_at 748 (by decide +kernel) (by decide +kernel), g_at 51 (by decide +kernel) (by decide +kernel), wc_Mo_isLooked, ⟨by decide +kernel, by decide +kernel, by decide +kernel⟩⟩
theorem ok_Mo_has : SOK y_Mo_has c_Mo_has 3 (some .boolean) 2 := ⟨g_at 751 (by decide +kernel) (by decide +kernel), g_at 51 (by decide +kernel) (by decide +kernel), wc_Mo_has, ⟨by decide +kernel, by decide +kernel, by decide +kernel⟩⟩
theorem ok_Mo_off : VOK y_Mo_off c_Mo_off 2 (some .int) 1 := ⟨g_at 755 (by decide +kernel) (by decide +kernel), g_at 13 (by decide +kernel) (by decide +kernel), g_at 51 (by decide +kernel) (by decide +kernel), wc_Mo_off, ⟨by decide +kernel, by decide +kernel, by decide +kernel⟩⟩
theorem ok_Mo_first : VOK y_Mo_first c_Mo_first 3 (some .int) 1 := ⟨g_at 759 (by decide +kernel) (by decide +kernel), g_at 14 (by decide +kernel) (by decide +kernel), g_at 51 (by decide +kernel) (by decide +kernel), wc_Mo_first, ⟨by decide +kernel, by decide +kernel, by decide +kernel⟩⟩
theorem ok_Mo_nearestOf : VOK y_Mo_nearestOf c_Mo_nearestOf 4 (some .int) 1 := ⟨g_at 763 (by decide +kernel) (by decide +kernel), g_at 15 (by decide +kernel) (by decide +kernel), g_at 51 (by decide +kernel) (by decide +kernel), wc_Mo_nearestOf, ⟨by decide +kernel, by decide +kernel, by decide +kernel⟩⟩
theorem ok_Mo_ahead : VOK y_Mo_ahead c_Mo_ahead 4 (some .int) 1 := ⟨g_at 767 (by decide +kernel) (by decide +kernel), g_at 16 (by decide +kernel) (by decide +kernel), g_at 51 (by decide +kernel) (by decide +kernel), wc_Mo_ahead, ⟨by decide +kernel, by decide +kernel, by decide +kernel⟩⟩
theorem ok_Mo_dead : VOK y_Mo_dead c_Mo_dead 3 (some .int) 0 := ⟨g_at 771 (by decide +kernel) (by decide +kernel), g_at 17 (by decide +kernel) (by decide +kernel), g_at 51 (by decide +kernel) (by decide +kernel), wc_Mo_dead, ⟨by decide +kernel, by decide +kernel, by decide +kernel⟩⟩
theorem ok_Mo_isDead : VOK y_Mo_isDead c_Mo_isDead 4 (some .boolean) 1 := ⟨g_at 775 (by decide +kernel) (by decide +kernel), g_at 18 (by decide +kernel) (by decide +kernel), g_at 51 (by decide +kernel) (by decide +kernel), wc_Mo_isDead, ⟨by decide +kernel, by decide +kernel, by decide +kernel⟩⟩
theorem ok_Mo_together : VOK y_Mo_together c_Mo_together 3 (some .int) 0 := ⟨g_at 779 (by decide +kernel) (by decide +kernel), g_at 19 (by decide +kernel) (by decide +kernel), g_at 51 (by decide +kernel) (by decide +kernel), wc_Mo_together, ⟨by decide +kernel, by decide +kernel, by decide +kernel⟩⟩
theorem ok_Mo_areTogether : VOK y_Mo_areTogether c_Mo_areTogether 7 (some .boolean) 2 := ⟨g_at 783 (by decide +kernel) (by decide +kernel), g_at 20 (by decide +kernel) (by decide +kernel), g_at 51 (by decide +kernel) (by decide +kernel), wc_Mo_areTogether, ⟨by decide +kernel, by decide +kernel, by decide +kernel⟩⟩
theorem ok_Mo_could : VOK y_Mo_could c_Mo_could 5 (some .int) 1 := ⟨g_at 787 (by decide +kernel) (by decide +kernel), g_at 21 (by decide +kernel) (by decide +kernel), g_at 51 (by decide +kernel) (by decide +kernel), wc_Mo_could, ⟨by decide +kernel, by decide +kernel, by decide +kernel⟩⟩
theorem ok_Mo_couldBe : VOK y_Mo_couldBe c_Mo_couldBe 4 (some .boolean) 1 := ⟨g_at 791 (by decide +kernel) (by decide +kernel), g_at 22 (by decide +kernel) (by decide +kernel), g_at 51 (by decide +kernel) (by decide +kernel), wc_Mo_couldBe, ⟨by decide +kernel, by decide +kernel, by decide +kernel⟩⟩
theorem ok_Mo_asked : VOK y_Mo_asked c_Mo_asked 7 (some .int) 0 := ⟨g_at 795 (by decide +kernel) (by decide +kernel), g_at 23 (by decide +kernel) (by decide +kernel), g_at 51 (by decide +kernel) (by decide +kernel), wc_Mo_asked, ⟨by decide +kernel, by decide +kernel, by decide +kernel⟩⟩
theorem ok_Mo_wrong : VOK y_Mo_wrong c_Mo_wrong 3 (some .int) 0 := ⟨g_at 799 (by decide +kernel) (by decide +kernel), g_at 24 (by decide +kernel) (by decide +kernel), g_at 51 (by decide +kernel) (by decide +kernel), wc_Mo_wrong, ⟨by decide +kernel, by decide +kernel, by decide +kernel⟩⟩
theorem ok_Mo_isMark : VOK y_Mo_isMark c_Mo_isMark 2 (some .boolean) 1 := ⟨g_at 803 (by decide +kernel) (by decide +kernel), g_at 25 (by decide +kernel) (by decide +kernel), g_at 51 (by decide +kernel) (by decide +kernel), wc_Mo_isMark, ⟨by decide +kernel, by decide +kernel, by decide +kernel⟩⟩
theorem ok_Mo_in : SOK y_Mo_in c_Mo_in 6 (some .boolean) 3 := ⟨g_at 806 (by decide +kernel) (by decide +kernel), g_at 51 (by decide +kernel) (by decide +kernel), wc_Mo_in, ⟨by decide +kernel, by decide +kernel, by decide +kernel⟩⟩
theorem ok_Mo_hand : VOK y_Mo_hand c_Mo_hand 1 (some .long) 0 := ⟨g_at 810 (by decide +kernel) (by decide +kernel), g_at 811 (by decide +kernel) (by decide +kernel), g_at 51 (by decide +kernel) (by decide +kernel), wc_Mo_hand, ⟨by decide +kernel, by decide +kernel, by decide +kernel⟩⟩
theorem ok_Mo_markAt : VOK y_Mo_markAt c_Mo_markAt 2 (some .long) 1 := ⟨g_at 814 (by decide +kernel) (by decide +kernel), g_at 815 (by decide +kernel) (by decide +kernel), g_at 51 (by decide +kernel) (by decide +kernel), wc_Mo_markAt, ⟨by decide +kernel, by decide +kernel, by decide +kernel⟩⟩
theorem ok_Mo_mark : VOK y_Mo_mark c_Mo_mark 5 (some .int) 2 := ⟨g_at 818 (by decide +kernel) (by decide +kernel), g_at 819 (by decide +kernel) (by decide +kernel), g_at 51 (by decide +kernel) (by decide +kernel), wc_Mo_mark, ⟨by decide +kernel, by decide +kernel, by decide +kernel⟩⟩
theorem ok_Mo_part : VOK y_Mo_part c_Mo_part 3 (some .int) 2 := ⟨g_at 823 (by decide +kernel) (by decide +kernel), g_at 824 (by decide +kernel) (by decide +kernel), g_at 51 (by decide +kernel) (by decide +kernel), wc_Mo_part, ⟨by decide +kernel, by decide +kernel, by decide +kernel⟩⟩
theorem ok_Mo_beginOf : VOK y_Mo_beginOf c_Mo_beginOf 4 (some .int) 1 := ⟨g_at 828 (by decide +kernel) (by decide +kernel), g_at 26 (by decide +kernel) (by decide +kernel), g_at 51 (by decide +kernel) (by decide +kernel), wc_Mo_beginOf, ⟨by decide +kernel, by decide +kernel, by decide +kernel⟩⟩
theorem ok_Mo_endOf : VOK y_Mo_endOf c_Mo_endOf 2 (some .int) 1 := ⟨g_at 832 (by decide +kernel) (by decide +kernel), g_at 27 (by decide +kernel) (by decide +kernel), g_at 51 (by decide +kernel) (by decide +kernel), wc_Mo_endOf, ⟨by decide +kernel, by decide +kernel, by decide +kernel⟩⟩
theorem ok_Mo_have : VOK y_Mo_have c_Mo_have 6 (some .int) 1 := ⟨g_at 836 (by decide +kernel) (by decide +kernel), g_at 28 (by decide +kernel) (by decide +kernel), g_at 51 (by decide +kernel) (by decide +kernel), wc_Mo_have, ⟨by decide +kernel, by decide +kernel, by decide +kernel⟩⟩
theorem ok_Mo_type : VOK y_Mo_type c_Mo_type 3 (some .int) 2 := ⟨g_at 839 (by decide +kernel) (by decide +kernel), g_at 840 (by decide +kernel) (by decide +kernel), g_at 51 (by decide +kernel) (by decide +kernel), wc_Mo_type, ⟨by decide +kernel, by decide +kernel, by decide +kernel⟩⟩
theorem ok_Mo_note : VOK y_Mo_note c_Mo_note 2 none 0 := ⟨g_at 846 (by decide +kernel) (by decide +kernel), g_at 29 (by decide +kernel) (by decide +kernel), g_at 51 (by decide +kernel) (by decide +kernel), wc_Mo_note, ⟨by decide +kernel, by decide +kernel, by decide +kernel⟩⟩
theorem ok_Mo_lay : VOK y_Mo_lay c_Mo_lay 5 none 3 := ⟨g_at 850 (by decide +kernel) (by decide +kernel), g_at 30 (by decide +kernel) (by decide +kernel), g_at 51 (by decide +kernel) (by decide +kernel), wc_Mo_lay, ⟨by decide +kernel, by decide +kernel, by decide +kernel⟩⟩
theorem ok_Mo_flip : VOK y_Mo_flip c_Mo_flip 2 (some .int) 1 := ⟨g_at 854 (by decide +kernel) (by decide +kernel), g_at 855 (by decide +kernel) (by decide +kernel), g_at 51 (by decide +kernel) (by decide +kernel), wc_Mo_flip, ⟨by decide +kernel, by decide +kernel, by decide +kernel⟩⟩
theorem ok_Mo_turn : VOK y_Mo_turn c_Mo_turn 4 (some .int) 0 := ⟨g_at 859 (by decide +kernel) (by decide +kernel), g_at 860 (by decide +kernel) (by decide +kernel), g_at 51 (by decide +kernel) (by decide +kernel), wc_Mo_turn, ⟨by decide +kernel, by decide +kernel, by decide +kernel⟩⟩
theorem ok_Mo_row : VOK y_Mo_row c_Mo_row 1 (some .int) 0 := ⟨g_at 864 (by decide +kernel) (by decide +kernel), g_at 31 (by decide +kernel) (by decide +kernel), g_at 51 (by decide +kernel) (by decide +kernel), wc_Mo_row, ⟨by decide +kernel, by decide +kernel, by decide +kernel⟩⟩
theorem ok_Mo_mirror : VOK y_Mo_mirror c_Mo_mirror 4 (some .int) 0 := ⟨g_at 867 (by decide +kernel) (by decide +kernel), g_at 868 (by decide +kernel) (by decide +kernel), g_at 51 (by decide +kernel) (by decide +kernel), wc_Mo_mirror, ⟨by decide +kernel, by decide +kernel, by decide +kernel⟩⟩
theorem ok_Mo_hold : VOK y_Mo_hold c_Mo_hold 3 (some .int) 1 := ⟨g_at 871 (by decide +kernel) (by decide +kernel), g_at 872 (by decide +kernel) (by decide +kernel), g_at 51 (by decide +kernel) (by decide +kernel), wc_Mo_hold, ⟨by decide +kernel, by decide +kernel, by decide +kernel⟩⟩
theorem ok_Mo_put : VOK y_Mo_put c_Mo_put 2 (some .int) 1 := ⟨g_at 875 (by decide +kernel) (by decide +kernel), g_at 876 (by decide +kernel) (by decide +kernel), g_at 51 (by decide +kernel) (by decide +kernel), wc_Mo_put, ⟨by decide +kernel, by decide +kernel, by decide +kernel⟩⟩
theorem ok_Mo_add : VOK y_Mo_add c_Mo_add 2 none 1 := ⟨g_at 883 (by decide +kernel) (by decide +kernel), g_at 32 (by decide +kernel) (by decide +kernel), g_at 51 (by decide +kernel) (by decide +kernel), wc_Mo_add, ⟨by decide +kernel, by decide +kernel, by decide +kernel⟩⟩
theorem ok_Mo_cut : VOK y_Mo_cut c_Mo_cut 3 (some .int) 1 := ⟨g_at 886 (by decide +kernel) (by decide +kernel), g_at 887 (by decide +kernel) (by decide +kernel), g_at 51 (by decide +kernel) (by decide +kernel), wc_Mo_cut, ⟨by decide +kernel, by decide +kernel, by decide +kernel⟩⟩
theorem ok_Mo_take : VOK y_Mo_take c_Mo_take 4 (some .int) 1 := ⟨g_at 890 (by decide +kernel) (by decide +kernel), g_at 891 (by decide +kernel) (by decide +kernel), g_at 51 (by decide +kernel) (by decide +kernel), wc_Mo_take, ⟨by decide +kernel, by decide +kernel, by decide +kernel⟩⟩
theorem ok_Mo_kind : VOK y_Mo_kind c_Mo_kind 4 (some .int) 2 := ⟨g_at 894 (by decide +kernel) (by decide +kernel), g_at 895 (by decide +kernel) (by decide +kernel), g_at 51 (by decide +kernel) (by decide +kernel), wc_Mo_kind, ⟨by decide +kernel, by decide +kernel, by decide +kernel⟩⟩
theorem ok_Mo_drift : VOK y_Mo_drift c_Mo_drift 3 (some .int) 1 := ⟨g_at 898 (by decide +kernel) (by decide +kernel), g_at 899 (by decide +kernel) (by decide +kernel), g_at 51 (by decide +kernel) (by decide +kernel), wc_Mo_drift, ⟨by decide +kernel, by decide +kernel, by decide +kernel⟩⟩
theorem ok_Mo_lot : VOK y_Mo_lot c_Mo_lot 8 none 0 := ⟨g_at 904 (by decide +kernel) (by decide +kernel), g_at 33 (by decide +kernel) (by decide +kernel), g_at 51 (by decide +kernel) (by decide +kernel), wc_Mo_lot, ⟨by decide +kernel, by decide +kernel, by decide +kernel⟩⟩
theorem ok_Mo_draw : VOK y_Mo_draw c_Mo_draw 2 (some .int) 1 := ⟨g_at 908 (by decide +kernel) (by decide +kernel), g_at 34 (by decide +kernel) (by decide +kernel), g_at 51 (by decide +kernel) (by decide +kernel), wc_Mo_draw, ⟨by decide +kernel, by decide +kernel, by decide +kernel⟩⟩
theorem ok_Mo_undo : VOK y_Mo_undo c_Mo_undo 2 (some .int) 1 := ⟨g_at 915 (by decide +kernel) (by decide +kernel), g_at 916 (by decide +kernel) (by decide +kernel), g_at 51 (by decide +kernel) (by decide +kernel), wc_Mo_undo, ⟨by decide +kernel, by decide +kernel, by decide +kernel⟩⟩
theorem ok_Mo_become : VOK y_Mo_become c_Mo_become 5 none 3 := ⟨g_at 920 (by decide +kernel) (by decide +kernel), g_at 35 (by decide +kernel) (by decide +kernel), g_at 51 (by decide +kernel) (by decide +kernel), wc_Mo_become, ⟨by decide +kernel, by decide +kernel, by decide +kernel⟩⟩
theorem ok_Mo_near : VOK y_Mo_near c_Mo_near 7 (some .long) 1 := ⟨g_at 923 (by decide +kernel) (by decide +kernel), g_at 924 (by decide +kernel) (by decide +kernel), g_at 51 (by decide +kernel) (by decide +kernel), wc_Mo_near, ⟨by decide +kernel, by decide +kernel, by decide +kernel⟩⟩
theorem ok_Mo_nearest : VOK y_Mo_nearest c_Mo_nearest 2 (some .int) 1 := ⟨g_at 928 (by decide +kernel) (by decide +kernel), g_at 929 (by decide +kernel) (by decide +kernel), g_at 51 (by decide +kernel) (by decide +kernel), wc_Mo_nearest, ⟨by decide +kernel, by decide +kernel, by decide +kernel⟩⟩
theorem ok_Mo_apart : VOK y_Mo_apart c_Mo_apart 3 (some .int) 2 := ⟨g_at 932 (by decide +kernel) (by decide +kernel), g_at 933 (by decide +kernel) (by decide +kernel), g_at 51 (by decide +kernel) (by decide +kernel), wc_Mo_apart, ⟨by decide +kernel, by decide +kernel, by decide +kernel⟩⟩
theorem ok_Mo_groups : VOK y_Mo_groups c_Mo_groups 2 (some .int) 1 := ⟨g_at 936 (by decide +kernel) (by decide +kernel), g_at 937 (by decide +kernel) (by decide +kernel), g_at 51 (by decide +kernel) (by decide +kernel), wc_Mo_groups, ⟨by decide +kernel, by decide +kernel, by decide +kernel⟩⟩
theorem ok_Mo_layGroups : VOK y_Mo_layGroups c_Mo_layGroups 5 (some .int) 1 := ⟨g_at 941 (by decide +kernel) (by decide +kernel), g_at 36 (by decide +kernel) (by decide +kernel), g_at 51 (by decide +kernel) (by decide +kernel), wc_Mo_layGroups, ⟨by decide +kernel, by decide +kernel, by decide +kernel⟩⟩
theorem ok_Mo_group : VOK y_Mo_group c_Mo_group 5 (some .int) 3 := ⟨g_at 944 (by decide +kernel) (by decide +kernel), g_at 945 (by decide +kernel) (by decide +kernel), g_at 51 (by decide +kernel) (by decide +kernel), wc_Mo_group, ⟨by decide +kernel, by decide +kernel, by decide +kernel⟩⟩
theorem ok_Mo_leastOf : VOK y_Mo_leastOf c_Mo_leastOf 4 (some .int) 1 := ⟨g_at 949 (by decide +kernel) (by decide +kernel), g_at 37 (by decide +kernel) (by decide +kernel), g_at 51 (by decide +kernel) (by decide +kernel), wc_Mo_leastOf, ⟨by decide +kernel, by decide +kernel, by decide +kernel⟩⟩
theorem ok_Mo_manyOf : VOK y_Mo_manyOf c_Mo_manyOf 4 (some .int) 1 := ⟨g_at 953 (by decide +kernel) (by decide +kernel), g_at 38 (by decide +kernel) (by decide +kernel), g_at 51 (by decide +kernel) (by decide +kernel), wc_Mo_manyOf, ⟨by decide +kernel, by decide +kernel, by decide +kernel⟩⟩
theorem ok_Mo_wide : VOK y_Mo_wide c_Mo_wide 6 (some .int) 1 := ⟨g_at 957 (by decide +kernel) (by decide +kernel), g_at 39 (by decide +kernel) (by decide +kernel), g_at 51 (by decide +kernel) (by decide +kernel), wc_Mo_wide, ⟨by decide +kernel, by decide +kernel, by decide +kernel⟩⟩
theorem ok_Mo_middle : VOK y_Mo_middle c_Mo_middle 9 (some .long) 2 := ⟨g_at 960 (by decide +kernel) (by decide +kernel), g_at 961 (by decide +kernel) (by decide +kernel), g_at 51 (by decide +kernel) (by decide +kernel), wc_Mo_middle, ⟨by decide +kernel, by decide +kernel, by decide +kernel⟩⟩
theorem ok_Mo_fewest : VOK y_Mo_fewest c_Mo_fewest 9 (some .int) 2 := ⟨g_at 964 (by decide +kernel) (by decide +kernel), g_at 965 (by decide +kernel) (by decide +kernel), g_at 51 (by decide +kernel) (by decide +kernel), wc_Mo_fewest, ⟨by decide +kernel, by decide +kernel, by decide +kernel⟩⟩
theorem ok_Mo_cutBy : SOK y_Mo_cutBy c_Mo_cutBy 6 (some .long) 2 := ⟨g_at 969 (by decide +kernel) (by decide +kernel), g_at 51 (by decide +kernel) (by decide +kernel), wc_Mo_cutBy, ⟨by decide +kernel, by decide +kernel, by decide +kernel⟩⟩
theorem ok_Mo_isMore : SOK y_Mo_isMore c_Mo_isMore 5 (some .boolean) 3 := ⟨g_at 972 (by decide +kernel) (by decide +kernel), g_at 51 (by decide +kernel) (by decide +kernel), wc_Mo_isMore, ⟨by decide +kernel, by decide +kernel, by decide +kernel⟩⟩
theorem ok_Mo_see : VOK y_Mo_see c_Mo_see 2 (some .int) 1 := ⟨g_at 975 (by decide +kernel) (by decide +kernel), g_at 976 (by decide +kernel) (by decide +kernel), g_at 51 (by decide +kernel) (by decide +kernel), wc_Mo_see, ⟨by decide +kernel, by decide +kernel, by decide +kernel⟩⟩
theorem ok_Mo_write : VOK y_Mo_write c_Mo_write 4 (some .int) 3 := ⟨g_at 979 (by decide +kernel) (by decide +kernel), g_at 980 (by decide +kernel) (by decide +kernel), g_at 51 (by decide +kernel) (by decide +kernel), wc_Mo_write, ⟨by decide +kernel, by decide +kernel, by decide +kernel⟩⟩
theorem ok_Mo_tear : VOK y_Mo_tear c_Mo_tear 2 (some .int) 0 := ⟨g_at 983 (by decide +kernel) (by decide +kernel), g_at 984 (by decide +kernel) (by decide +kernel), g_at 51 (by decide +kernel) (by decide +kernel), wc_Mo_tear, ⟨by decide +kernel, by decide +kernel, by decide +kernel⟩⟩
theorem ok_Mo_seed : VOK y_Mo_seed c_Mo_seed 3 (some .int) 1 := ⟨g_at 987 (by decide +kernel) (by decide +kernel), g_at 988 (by decide +kernel) (by decide +kernel), g_at 51 (by decide +kernel) (by decide +kernel), wc_Mo_seed, ⟨by decide +kernel, by decide +kernel, by decide +kernel⟩⟩
theorem ok_Mo_keep : VOK y_Mo_keep c_Mo_keep 2 (some .int) 1 := ⟨g_at 991 (by decide +kernel) (by decide +kernel), g_at 992 (by decide +kernel) (by decide +kernel), g_at 51 (by decide +kernel) (by decide +kernel), wc_Mo_keep, ⟨by decide +kernel, by decide +kernel, by decide +kernel⟩⟩
theorem ok_Mo_goBack : VOK y_Mo_goBack c_Mo_goBack 2 (some .int) 1 := ⟨g_at 995 (by decide +kernel) (by decide +kernel), g_at 996 (by decide +kernel) (by decide +kernel), g_at 51 (by decide +kernel) (by decide +kernel), wc_Mo_goBack, ⟨by decide +kernel, by decide +kernel, by decide +kernel⟩⟩
theorem e_0 {o : OM} (f : Nat → Int32) (g : Nat → Int64) : cE o f g 0 = .inr (9, fNm o 0 f g) := rfl
theorem b_0 : 0 < 111 := by decide
theorem e_1 {o : OM} (f : Nat → Int32) (g : Nat → Int64) : cE o f g 1 = .inr (8, fSt o 1 f g) := rfl
theorem b_1 : 1 < 111 := by decide
theorem e_2 {o : OM} (f : Nat → Int32) (g : Nat → Int64) : cE o f g 2 = aJ o 40 g := rfl
theorem b_2 : 2 < 111 := by decide
theorem e_3 {o : OM} (f : Nat → Int32) (g : Nat → Int64) : cE o f g 3 = aI o 40 f := rfl
theorem b_3 : 3 < 111 := by decide
theorem e_4 {o : OM} (f : Nat → Int32) (g : Nat → Int64) : cE o f g 4 = .inr (6, fPa o 4 f g) := rfl
theorem b_4 : 4 < 111 := by decide
theorem e_5 {o : OM} (f : Nat → Int32) (g : Nat → Int64) : cE o f g 5 = aSt o 20 (fun k => some (ads o (6 + 3 * k))) := rfl
theorem b_5 : 5 < 111 := by decide
theorem e_66 {o : OM} (f : Nat → Int32) (g : Nat → Int64) : cE o f g 66 = aIm o 2 (fun k => some (ads o (67 + 4 * k))) := rfl
theorem b_66 : 66 < 111 := by decide
theorem e_67 {o : OM} (f : Nat → Int32) (g : Nat → Int64) : cE o f g 67 = .inr (4, fIm o 67 f g) := rfl
theorem b_67 : 67 < 111 := by decide
theorem e_68 {o : OM} (f : Nat → Int32) (g : Nat → Int64) : cE o f g 68 = .inr (8, fSt o 68 f g) := rfl
theorem b_68 : 68 < 111 := by decide
theorem e_69 {o : OM} (f : Nat → Int32) (g : Nat → Int64) : cE o f g 69 = aJ o 40 g := rfl
theorem b_69 : 69 < 111 := by decide
theorem e_70 {o : OM} (f : Nat → Int32) (g : Nat → Int64) : cE o f g 70 = aI o 40 f := rfl
theorem b_70 : 70 < 111 := by decide
theorem e_71 {o : OM} (f : Nat → Int32) (g : Nat → Int64) : cE o f g 71 = .inr (4, fIm o 71 f g) := rfl
theorem b_71 : 71 < 111 := by decide
theorem e_72 {o : OM} (f : Nat → Int32) (g : Nat → Int64) : cE o f g 72 = .inr (8, fSt o 72 f g) := rfl
theorem b_72 : 72 < 111 := by decide
theorem e_73 {o : OM} (f : Nat → Int32) (g : Nat → Int64) : cE o f g 73 = aJ o 40 g := rfl
theorem b_73 : 73 < 111 := by decide
theorem e_74 {o : OM} (f : Nat → Int32) (g : Nat → Int64) : cE o f g 74 = aI o 40 f := rfl
theorem b_74 : 74 < 111 := by decide
theorem e_75 {o : OM} (f : Nat → Int32) (g : Nat → Int64) : cE o f g 75 = .inr (5, fPt o 75 f g) := rfl
theorem b_75 : 75 < 111 := by decide
theorem e_76 {o : OM} (f : Nat → Int32) (g : Nat → Int64) : cE o f g 76 = aI o 8 f := rfl
theorem b_76 : 76 < 111 := by decide
theorem e_77 {o : OM} (f : Nat → Int32) (g : Nat → Int64) : cE o f g 77 = aJ o 8 g := rfl
theorem b_77 : 77 < 111 := by decide
theorem e_78 {o : OM} (f : Nat → Int32) (g : Nat → Int64) : cE o f g 78 = .inr (5, fPt o 78 f g) := rfl
theorem b_78 : 78 < 111 := by decide
theorem e_79 {o : OM} (f : Nat → Int32) (g : Nat → Int64) : cE o f g 79 = aI o 8 f := rfl
theorem b_79 : 79 < 111 := by decide
theorem e_80 {o : OM} (f : Nat → Int32) (g : Nat → Int64) : cE o f g 80 = aJ o 8 g := rfl
theorem b_80 : 80 < 111 := by decide
theorem e_81 {o : OM} (f : Nat → Int32) (g : Nat → Int64) : cE o f g 81 = .inr (3, fGr o 81 f g) := rfl
theorem b_81 : 81 < 111 := by decide
theorem e_82 {o : OM} (f : Nat → Int32) (g : Nat → Int64) : cE o f g 82 = aJ o 40 g := rfl
theorem b_82 : 82 < 111 := by decide
theorem e_83 {o : OM} (f : Nat → Int32) (g : Nat → Int64) : cE o f g 83 = aJ o 40 g := rfl
theorem b_83 : 83 < 111 := by decide
theorem e_84 {o : OM} (f : Nat → Int32) (g : Nat → Int64) : cE o f g 84 = .inr (1, fCo o 84 f g) := rfl
theorem b_84 : 84 < 111 := by decide
theorem e_85 {o : OM} (f : Nat → Int32) (g : Nat → Int64) : cE o f g 85 = aJ o 64 g := rfl
theorem b_85 : 85 < 111 := by decide
theorem e_86 {o : OM} (f : Nat → Int32) (g : Nat → Int64) : cE o f g 86 = .inr (7, fSi o 86 f g) := rfl
theorem b_86 : 86 < 111 := by decide
theorem e_87 {o : OM} (f : Nat → Int32) (g : Nat → Int64) : cE o f g 87 = aJ o 6 g := rfl
theorem b_87 : 87 < 111 := by decide
theorem e_88 {o : OM} (f : Nat → Int32) (g : Nat → Int64) : cE o f g 88 = aI o 6 f := rfl
theorem b_88 : 88 < 111 := by decide
theorem e_89 {o : OM} (f : Nat → Int32) (g : Nat → Int64) : cE o f g 89 = aI o 65 f := rfl
theorem b_89 : 89 < 111 := by decide
theorem e_90 {o : OM} (f : Nat → Int32) (g : Nat → Int64) : cE o f g 90 = .inr (0, fBk o 90 f g) := rfl
theorem b_90 : 90 < 111 := by decide
theorem e_91 {o : OM} (f : Nat → Int32) (g : Nat → Int64) : cE o f g 91 = aI o 20 f := rfl
theorem b_91 : 91 < 111 := by decide
theorem e_92 {o : OM} (f : Nat → Int32) (g : Nat → Int64) : cE o f g 92 = aI o 20 f := rfl
theorem b_92 : 92 < 111 := by decide
theorem e_93 {o : OM} (f : Nat → Int32) (g : Nat → Int64) : cE o f g 93 = aI o 20 f := rfl
theorem b_93 : 93 < 111 := by decide
theorem e_94 {o : OM} (f : Nat → Int32) (g : Nat → Int64) : cE o f g 94 = .inr (2, fDr o 94 f g) := rfl
theorem b_94 : 94 < 111 := by decide
theorem e_95 {o : OM} (f : Nat → Int32) (g : Nat → Int64) : cE o f g 95 = .inr (10, fMo o 95 f g) := rfl
theorem b_95 : 95 < 111 := by decide
theorem e_96 {o : OM} (f : Nat → Int32) (g : Nat → Int64) : cE o f g 96 = aJ o 43 g := rfl
theorem b_96 : 96 < 111 := by decide
theorem e_97 {o : OM} (f : Nat → Int32) (g : Nat → Int64) : cE o f g 97 = aI o 40 f := rfl
theorem b_97 : 97 < 111 := by decide
theorem e_98 {o : OM} (f : Nat → Int32) (g : Nat → Int64) : cE o f g 98 = aJ o 860 g := rfl
theorem b_98 : 98 < 111 := by decide
theorem e_99 {o : OM} (f : Nat → Int32) (g : Nat → Int64) : cE o f g 99 = aI o 800 f := rfl
theorem b_99 : 99 < 111 := by decide
theorem e_100 {o : OM} (f : Nat → Int32) (g : Nat → Int64) : cE o f g 100 = aJ o 86 g := rfl
theorem b_100 : 100 < 111 := by decide
theorem e_101 {o : OM} (f : Nat → Int32) (g : Nat → Int64) : cE o f g 101 = aI o 80 f := rfl
theorem b_101 : 101 < 111 := by decide
theorem e_102 {o : OM} (f : Nat → Int32) (g : Nat → Int64) : cE o f g 102 = aI o 2 f := rfl
theorem b_102 : 102 < 111 := by decide
theorem e_103 {o : OM} (f : Nat → Int32) (g : Nat → Int64) : cE o f g 103 = aZ o 2 f := rfl
theorem b_103 : 103 < 111 := by decide
theorem e_104 {o : OM} (f : Nat → Int32) (g : Nat → Int64) : cE o f g 104 = aJ o 6 g := rfl
theorem b_104 : 104 < 111 := by decide
theorem e_105 {o : OM} (f : Nat → Int32) (g : Nat → Int64) : cE o f g 105 = aI o 6 f := rfl
theorem b_105 : 105 < 111 := by decide
theorem e_106 {o : OM} (f : Nat → Int32) (g : Nat → Int64) : cE o f g 106 = aI o 20 f := rfl
theorem b_106 : 106 < 111 := by decide
theorem e_107 {o : OM} (f : Nat → Int32) (g : Nat → Int64) : cE o f g 107 = aI o 20 f := rfl
theorem b_107 : 107 < 111 := by decide
theorem e_108 {o : OM} (f : Nat → Int32) (g : Nat → Int64) : cE o f g 108 = aI o 20 f := rfl
theorem b_108 : 108 < 111 := by decide
theorem e_109 {o : OM} (f : Nat → Int32) (g : Nat → Int64) : cE o f g 109 = aI o 40 f := rfl
theorem b_109 : 109 < 111 := by decide
theorem e_110 {o : OM} (f : Nat → Int32) (g : Nat → Int64) : cE o f g 110 = aI o 65 f := rfl
theorem b_110 : 110 < 111 := by decide
/-- the stores: now, the twenty of the past, the two images -/
def isSt (a : Nat) : Prop := a = 1 ∨ a = 68 ∨ a = 72 ∨ ∃ k, k < 20 ∧ a = 6 + 3 * k
theorem isSt.b0 {a : Nat} (h : isSt a) : a < 111 := by rcases h with h | h | h | ⟨k, h, h2⟩ <;> omega
theorem isSt.b1 {a : Nat} (h : isSt a) : a + 1 < 111 := by rcases h with h | h | h | ⟨k, h, h2⟩ <;> omega
theorem isSt.b2 {a : Nat} (h : isSt a) : a + 2 < 111 := by rcases h with h | h | h | ⟨k, h, h2⟩ <;> omega
theorem isSt.e0 {o : OM} {a : Nat} (h : isSt a) (f : Nat → Int32) (g : Nat → Int64) : cE o f g a = .inr (8, fSt o a f g) := by
  rcases h with rfl | rfl | rfl | ⟨k, h, rfl⟩
  · rfl
  · rfl
  · rfl
  · unfold cE; rw [if_pos (by omega), if_pos (by omega)]
theorem isSt.e1 {o : OM} {a : Nat} (h : isSt a) (f : Nat → Int32) (g : Nat → Int64) : cE o f g (a + 1) = aJ o 40 g := by
  rcases h with rfl | rfl | rfl | ⟨k, h, rfl⟩
  · rfl
  · rfl
  · rfl
  · unfold cE; rw [if_pos (by omega), if_neg (by omega), if_pos (by omega)]
theorem isSt.e2 {o : OM} {a : Nat} (h : isSt a) (f : Nat → Int32) (g : Nat → Int64) : cE o f g (a + 2) = aI o 40 f := by
  rcases h with rfl | rfl | rfl | ⟨k, h, rfl⟩
  · rfl
  · rfl
  · rfl
  · unfold cE; rw [if_pos (by omega), if_neg (by omega), if_neg (by omega)]
def isPt (a : Nat) : Prop := a = 75 ∨ a = 78
theorem isPt.b0 {a : Nat} (h : isPt a) : a < 111 := by rcases h with h | h <;> omega
theorem isPt.b1 {a : Nat} (h : isPt a) : a + 1 < 111 := by rcases h with h | h <;> omega
theorem isPt.b2 {a : Nat} (h : isPt a) : a + 2 < 111 := by rcases h with h | h <;> omega
theorem isPt.e0 {o : OM} {a : Nat} (h : isPt a) (f : Nat → Int32) (g : Nat → Int64) : cE o f g a = .inr (5, fPt o a f g) := by
  rcases h with rfl | rfl <;> rfl
theorem isPt.e1 {o : OM} {a : Nat} (h : isPt a) (f : Nat → Int32) (g : Nat → Int64) : cE o f g (a + 1) = aI o 8 f := by
  rcases h with rfl | rfl <;> rfl
theorem isPt.e2 {o : OM} {a : Nat} (h : isPt a) (f : Nat → Int32) (g : Nat → Int64) : cE o f g (a + 2) = aJ o 8 g := by
  rcases h with rfl | rfl <;> rfl
theorem isSt.now : isSt 1 := Or.inl rfl
theorem isSt.im0 : isSt 68 := Or.inr (Or.inl rfl)
theorem isSt.im1 : isSt 72 := Or.inr (Or.inr (Or.inl rfl))
theorem isSt.ring {k : Nat} (h : k < 20) : isSt (6 + 3 * k) := Or.inr (Or.inr (Or.inr ⟨k, h, rfl⟩))
end
section
theorem d_Nm_init_0 : decode c_Nm_init 0 = .ok (.aload_n 0, 1) := by decide +kernel
theorem d_Nm_init_1 : decode c_Nm_init 1 = .ok (.invokespecial 1, 3) := by decide +kernel
theorem d_Nm_init_4 : decode c_Nm_init 4 = .ok (.aload_n 0, 1) := by decide +kernel
theorem d_Nm_init_5 : decode c_Nm_init 5 = .ok (.new 7, 3) := by decide +kernel
theorem d_Nm_init_8 : decode c_Nm_init 8 = .ok (.dup, 1) := by decide +kernel
theorem d_Nm_init_9 : decode c_Nm_init 9 = .ok (.invokespecial 9, 3) := by decide +kernel
theorem d_Nm_init_12 : decode c_Nm_init 12 = .ok (.putfield 10, 3) := by decide +kernel
theorem d_Nm_init_15 : decode c_Nm_init 15 = .ok (.aload_n 0, 1) := by decide +kernel
theorem d_Nm_init_16 : decode c_Nm_init 16 = .ok (.new 16, 3) := by decide +kernel
theorem d_Nm_init_19 : decode c_Nm_init 19 = .ok (.dup, 1) := by decide +kernel
theorem d_Nm_init_20 : decode c_Nm_init 20 = .ok (.invokespecial 18, 3) := by decide +kernel
theorem d_Nm_init_23 : decode c_Nm_init 23 = .ok (.putfield 19, 3) := by decide +kernel
theorem d_Nm_init_26 : decode c_Nm_init 26 = .ok (.aload_n 0, 1) := by decide +kernel
theorem d_Nm_init_27 : decode c_Nm_init 27 = .ok (.iconst 2, 1) := by decide +kernel
theorem d_Nm_init_28 : decode c_Nm_init 28 = .ok (.anewarray 23, 3) := by decide +kernel
theorem d_Nm_init_31 : decode c_Nm_init 31 = .ok (.putfield 25, 3) := by decide +kernel
theorem d_Nm_init_34 : decode c_Nm_init 34 = .ok (.iconst 0, 1) := by decide +kernel
theorem d_Nm_init_35 : decode c_Nm_init 35 = .ok (.istore_n 1, 1) := by decide +kernel
theorem d_Nm_init_36 : decode c_Nm_init 36 = .ok (.iload_n 1, 1) := by decide +kernel
theorem d_Nm_init_37 : decode c_Nm_init 37 = .ok (.iconst 2, 1) := by decide +kernel
theorem d_Nm_init_38 : decode c_Nm_init 38 = .ok (.if_icmp .ge 22, 3) := by decide +kernel
theorem d_Nm_init_41 : decode c_Nm_init 41 = .ok (.aload_n 0, 1) := by decide +kernel
theorem d_Nm_init_42 : decode c_Nm_init 42 = .ok (.getfield 25, 3) := by decide +kernel
theorem d_Nm_init_45 : decode c_Nm_init 45 = .ok (.iload_n 1, 1) := by decide +kernel
theorem d_Nm_init_46 : decode c_Nm_init 46 = .ok (.new 23, 3) := by decide +kernel
theorem d_Nm_init_49 : decode c_Nm_init 49 = .ok (.dup, 1) := by decide +kernel
theorem d_Nm_init_50 : decode c_Nm_init 50 = .ok (.invokespecial 29, 3) := by decide +kernel
theorem d_Nm_init_53 : decode c_Nm_init 53 = .ok (.aastore, 1) := by decide +kernel
theorem d_Nm_init_54 : decode c_Nm_init 54 = .ok (.iinc 1 1, 3) := by decide +kernel
theorem d_Nm_init_57 : decode c_Nm_init 57 = .ok (.goto (-21), 3) := by decide +kernel
theorem d_Nm_init_60 : decode c_Nm_init 60 = .ok (.aload_n 0, 1) := by decide +kernel
theorem d_Nm_init_61 : decode c_Nm_init 61 = .ok (.new 30, 3) := by decide +kernel
theorem d_Nm_init_64 : decode c_Nm_init 64 = .ok (.dup, 1) := by decide +kernel
theorem d_Nm_init_65 : decode c_Nm_init 65 = .ok (.invokespecial 32, 3) := by decide +kernel
theorem d_Nm_init_68 : decode c_Nm_init 68 = .ok (.putfield 33, 3) := by decide +kernel
theorem d_Nm_init_71 : decode c_Nm_init 71 = .ok (.aload_n 0, 1) := by decide +kernel
theorem d_Nm_init_72 : decode c_Nm_init 72 = .ok (.getfield 33, 3) := by decide +kernel
theorem d_Nm_init_75 : decode c_Nm_init 75 = .ok (.aload_n 0, 1) := by decide +kernel
theorem d_Nm_init_76 : decode c_Nm_init 76 = .ok (.getfield 10, 3) := by decide +kernel
theorem d_Nm_init_79 : decode c_Nm_init 79 = .ok (.getfield 37, 3) := by decide +kernel
theorem d_Nm_init_82 : decode c_Nm_init 82 = .ok (.invokevirtual 41, 3) := by decide +kernel
theorem d_Nm_init_85 : decode c_Nm_init 85 = .ok (.aload_n 0, 1) := by decide +kernel
theorem d_Nm_init_86 : decode c_Nm_init 86 = .ok (.new 30, 3) := by decide +kernel
theorem d_Nm_init_89 : decode c_Nm_init 89 = .ok (.dup, 1) := by decide +kernel
theorem d_Nm_init_90 : decode c_Nm_init 90 = .ok (.invokespecial 32, 3) := by decide +kernel
theorem d_Nm_init_93 : decode c_Nm_init 93 = .ok (.putfield 45, 3) := by decide +kernel
theorem d_Nm_init_96 : decode c_Nm_init 96 = .ok (.aload_n 0, 1) := by decide +kernel
theorem d_Nm_init_97 : decode c_Nm_init 97 = .ok (.new 48, 3) := by decide +kernel
theorem d_Nm_init_100 : decode c_Nm_init 100 = .ok (.dup, 1) := by decide +kernel
theorem d_Nm_init_101 : decode c_Nm_init 101 = .ok (.invokespecial 50, 3) := by decide +kernel
theorem d_Nm_init_104 : decode c_Nm_init 104 = .ok (.putfield 51, 3) := by decide +kernel
theorem d_Nm_init_107 : decode c_Nm_init 107 = .ok (.aload_n 0, 1) := by decide +kernel
theorem d_Nm_init_108 : decode c_Nm_init 108 = .ok (.new 55, 3) := by decide +kernel
theorem d_Nm_init_111 : decode c_Nm_init 111 = .ok (.dup, 1) := by decide +kernel
theorem d_Nm_init_112 : decode c_Nm_init 112 = .ok (.invokespecial 57, 3) := by decide +kernel
theorem d_Nm_init_115 : decode c_Nm_init 115 = .ok (.putfield 58, 3) := by decide +kernel
theorem d_Nm_init_118 : decode c_Nm_init 118 = .ok (.aload_n 0, 1) := by decide +kernel
theorem d_Nm_init_119 : decode c_Nm_init 119 = .ok (.new 62, 3) := by decide +kernel
theorem d_Nm_init_122 : decode c_Nm_init 122 = .ok (.dup, 1) := by decide +kernel
theorem d_Nm_init_123 : decode c_Nm_init 123 = .ok (.invokespecial 64, 3) := by decide +kernel
theorem d_Nm_init_126 : decode c_Nm_init 126 = .ok (.putfield 65, 3) := by decide +kernel
theorem d_Nm_init_129 : decode c_Nm_init 129 = .ok (.aload_n 0, 1) := by decide +kernel
theorem d_Nm_init_130 : decode c_Nm_init 130 = .ok (.new 69, 3) := by decide +kernel
theorem d_Nm_init_133 : decode c_Nm_init 133 = .ok (.dup, 1) := by decide +kernel
theorem d_Nm_init_134 : decode c_Nm_init 134 = .ok (.invokespecial 71, 3) := by decide +kernel
theorem d_Nm_init_137 : decode c_Nm_init 137 = .ok (.putfield 72, 3) := by decide +kernel
theorem d_Nm_init_140 : decode c_Nm_init 140 = .ok (.aload_n 0, 1) := by decide +kernel
theorem d_Nm_init_141 : decode c_Nm_init 141 = .ok (.new 76, 3) := by decide +kernel
theorem d_Nm_init_144 : decode c_Nm_init 144 = .ok (.dup, 1) := by decide +kernel
theorem d_Nm_init_145 : decode c_Nm_init 145 = .ok (.invokespecial 78, 3) := by decide +kernel
theorem d_Nm_init_148 : decode c_Nm_init 148 = .ok (.putfield 79, 3) := by decide +kernel
theorem d_Nm_init_151 : decode c_Nm_init 151 = .ok (.return_, 1) := by decide +kernel
theorem d_Nm_told_0 : decode c_Nm_told 0 = .ok (.iload_n 1, 1) := by decide +kernel
theorem d_Nm_told_1 : decode c_Nm_told 1 = .ok (.tableswitch 256 0 16 #[83, 91, 99, 110, 125, 131, 143, 152, 157, 169, 181, 189, 204, 216, 228, 236, 248], 83) := by decide +kernel
theorem d_Nm_told_84 : decode c_Nm_told 84 = .ok (.aload_n 0, 1) := by decide +kernel
theorem d_Nm_told_85 : decode c_Nm_told 85 = .ok (.getfield 10, 3) := by decide +kernel
theorem d_Nm_told_88 : decode c_Nm_told 88 = .ok (.getfield 83, 3) := by decide +kernel
theorem d_Nm_told_91 : decode c_Nm_told 91 = .ok (.ireturn, 1) := by decide +kernel
theorem d_Nm_told_92 : decode c_Nm_told 92 = .ok (.aload_n 0, 1) := by decide +kernel
theorem d_Nm_told_93 : decode c_Nm_told 93 = .ok (.getfield 33, 3) := by decide +kernel
theorem d_Nm_told_96 : decode c_Nm_told 96 = .ok (.getfield 87, 3) := by decide +kernel
theorem d_Nm_told_99 : decode c_Nm_told 99 = .ok (.ireturn, 1) := by decide +kernel
theorem d_Nm_told_100 : decode c_Nm_told 100 = .ok (.aload_n 0, 1) := by decide +kernel
theorem d_Nm_told_101 : decode c_Nm_told 101 = .ok (.getfield 10, 3) := by decide +kernel
theorem d_Nm_told_104 : decode c_Nm_told 104 = .ok (.getfield 88, 3) := by decide +kernel
theorem d_Nm_told_107 : decode c_Nm_told 107 = .ok (.invokestatic 91, 3) := by decide +kernel
theorem d_Nm_told_110 : decode c_Nm_told 110 = .ok (.ireturn, 1) := by decide +kernel
theorem d_Nm_told_111 : decode c_Nm_told 111 = .ok (.aload_n 0, 1) := by decide +kernel
theorem d_Nm_told_112 : decode c_Nm_told 112 = .ok (.getfield 10, 3) := by decide +kernel
theorem d_Nm_told_115 : decode c_Nm_told 115 = .ok (.aload_n 0, 1) := by decide +kernel
theorem d_Nm_told_116 : decode c_Nm_told 116 = .ok (.getfield 10, 3) := by decide +kernel
theorem d_Nm_told_119 : decode c_Nm_told 119 = .ok (.getfield 88, 3) := by decide +kernel
theorem d_Nm_told_122 : decode c_Nm_told 122 = .ok (.invokevirtual 97, 3) := by decide +kernel
theorem d_Nm_told_125 : decode c_Nm_told 125 = .ok (.ireturn, 1) := by decide +kernel
theorem d_Nm_told_126 : decode c_Nm_told 126 = .ok (.aload_n 0, 1) := by decide +kernel
theorem d_Nm_told_127 : decode c_Nm_told 127 = .ok (.iconst (-1), 1) := by decide +kernel
theorem d_Nm_told_128 : decode c_Nm_told 128 = .ok (.invokevirtual 100, 3) := by decide +kernel
theorem d_Nm_told_131 : decode c_Nm_told 131 = .ok (.ireturn, 1) := by decide +kernel
theorem d_Nm_told_132 : decode c_Nm_told 132 = .ok (.aload_n 0, 1) := by decide +kernel
theorem d_Nm_told_133 : decode c_Nm_told 133 = .ok (.aload_n 0, 1) := by decide +kernel
theorem d_Nm_told_134 : decode c_Nm_told 134 = .ok (.getfield 33, 3) := by decide +kernel
theorem d_Nm_told_137 : decode c_Nm_told 137 = .ok (.invokevirtual 104, 3) := by decide +kernel
theorem d_Nm_told_140 : decode c_Nm_told 140 = .ok (.invokevirtual 100, 3) := by decide +kernel
theorem d_Nm_told_143 : decode c_Nm_told 143 = .ok (.ireturn, 1) := by decide +kernel
theorem d_Nm_told_144 : decode c_Nm_told 144 = .ok (.aload_n 0, 1) := by decide +kernel
theorem d_Nm_told_145 : decode c_Nm_told 145 = .ok (.getfield 10, 3) := by decide +kernel
theorem d_Nm_told_148 : decode c_Nm_told 148 = .ok (.iconst 0, 1) := by decide +kernel
theorem d_Nm_told_149 : decode c_Nm_told 149 = .ok (.invokevirtual 108, 3) := by decide +kernel
theorem d_Nm_told_152 : decode c_Nm_told 152 = .ok (.ireturn, 1) := by decide +kernel
theorem d_Nm_told_153 : decode c_Nm_told 153 = .ok (.aload_n 0, 1) := by decide +kernel
theorem d_Nm_told_154 : decode c_Nm_told 154 = .ok (.invokevirtual 111, 3) := by decide +kernel
theorem d_Nm_told_157 : decode c_Nm_told 157 = .ok (.ireturn, 1) := by decide +kernel
theorem d_Nm_told_158 : decode c_Nm_told 158 = .ok (.aload_n 0, 1) := by decide +kernel
theorem d_Nm_told_159 : decode c_Nm_told 159 = .ok (.getfield 58, 3) := by decide +kernel
theorem d_Nm_told_162 : decode c_Nm_told 162 = .ok (.aload_n 0, 1) := by decide +kernel
theorem d_Nm_told_163 : decode c_Nm_told 163 = .ok (.getfield 10, 3) := by decide +kernel
theorem d_Nm_told_166 : decode c_Nm_told 166 = .ok (.invokevirtual 114, 3) := by decide +kernel
theorem d_Nm_told_169 : decode c_Nm_told 169 = .ok (.ireturn, 1) := by decide +kernel
theorem d_Nm_told_170 : decode c_Nm_told 170 = .ok (.aload_n 0, 1) := by decide +kernel
theorem d_Nm_told_171 : decode c_Nm_told 171 = .ok (.getfield 58, 3) := by decide +kernel
theorem d_Nm_told_174 : decode c_Nm_told 174 = .ok (.aload_n 0, 1) := by decide +kernel
theorem d_Nm_told_175 : decode c_Nm_told 175 = .ok (.getfield 10, 3) := by decide +kernel
theorem d_Nm_told_178 : decode c_Nm_told 178 = .ok (.invokevirtual 118, 3) := by decide +kernel
theorem d_Nm_told_181 : decode c_Nm_told 181 = .ok (.ireturn, 1) := by decide +kernel
theorem d_Nm_told_182 : decode c_Nm_told 182 = .ok (.aload_n 0, 1) := by decide +kernel
theorem d_Nm_told_183 : decode c_Nm_told 183 = .ok (.getfield 65, 3) := by decide +kernel
theorem d_Nm_told_186 : decode c_Nm_told 186 = .ok (.getfield 121, 3) := by decide +kernel
theorem d_Nm_told_189 : decode c_Nm_told 189 = .ok (.ireturn, 1) := by decide +kernel
theorem d_Nm_told_190 : decode c_Nm_told 190 = .ok (.aload_n 0, 1) := by decide +kernel
theorem d_Nm_told_191 : decode c_Nm_told 191 = .ok (.getfield 65, 3) := by decide +kernel
theorem d_Nm_told_194 : decode c_Nm_told 194 = .ok (.aload_n 0, 1) := by decide +kernel
theorem d_Nm_told_195 : decode c_Nm_told 195 = .ok (.getfield 10, 3) := by decide +kernel
theorem d_Nm_told_198 : decode c_Nm_told 198 = .ok (.invokevirtual 122, 3) := by decide +kernel
theorem d_Nm_told_201 : decode c_Nm_told 201 = .ok (.invokestatic 91, 3) := by decide +kernel
theorem d_Nm_told_204 : decode c_Nm_told 204 = .ok (.ireturn, 1) := by decide +kernel
theorem d_Nm_told_205 : decode c_Nm_told 205 = .ok (.aload_n 0, 1) := by decide +kernel
theorem d_Nm_told_206 : decode c_Nm_told 206 = .ok (.getfield 65, 3) := by decide +kernel
theorem d_Nm_told_209 : decode c_Nm_told 209 = .ok (.aload_n 0, 1) := by decide +kernel
theorem d_Nm_told_210 : decode c_Nm_told 210 = .ok (.getfield 10, 3) := by decide +kernel
theorem d_Nm_told_213 : decode c_Nm_told 213 = .ok (.invokevirtual 126, 3) := by decide +kernel
theorem d_Nm_told_216 : decode c_Nm_told 216 = .ok (.ireturn, 1) := by decide +kernel
theorem d_Nm_told_217 : decode c_Nm_told 217 = .ok (.aload_n 0, 1) := by decide +kernel
theorem d_Nm_told_218 : decode c_Nm_told 218 = .ok (.getfield 65, 3) := by decide +kernel
theorem d_Nm_told_221 : decode c_Nm_told 221 = .ok (.aload_n 0, 1) := by decide +kernel
theorem d_Nm_told_222 : decode c_Nm_told 222 = .ok (.getfield 10, 3) := by decide +kernel
theorem d_Nm_told_225 : decode c_Nm_told 225 = .ok (.invokevirtual 129, 3) := by decide +kernel
theorem d_Nm_told_228 : decode c_Nm_told 228 = .ok (.ireturn, 1) := by decide +kernel
theorem d_Nm_told_229 : decode c_Nm_told 229 = .ok (.aload_n 0, 1) := by decide +kernel
theorem d_Nm_told_230 : decode c_Nm_told 230 = .ok (.getfield 72, 3) := by decide +kernel
theorem d_Nm_told_233 : decode c_Nm_told 233 = .ok (.getfield 132, 3) := by decide +kernel
theorem d_Nm_told_236 : decode c_Nm_told 236 = .ok (.ireturn, 1) := by decide +kernel
theorem d_Nm_told_237 : decode c_Nm_told 237 = .ok (.aload_n 0, 1) := by decide +kernel
theorem d_Nm_told_238 : decode c_Nm_told 238 = .ok (.getfield 72, 3) := by decide +kernel
theorem d_Nm_told_241 : decode c_Nm_told 241 = .ok (.aload_n 0, 1) := by decide +kernel
theorem d_Nm_told_242 : decode c_Nm_told 242 = .ok (.getfield 10, 3) := by decide +kernel
theorem d_Nm_told_245 : decode c_Nm_told 245 = .ok (.invokevirtual 133, 3) := by decide +kernel
theorem d_Nm_told_248 : decode c_Nm_told 248 = .ok (.ireturn, 1) := by decide +kernel
theorem d_Nm_told_249 : decode c_Nm_told 249 = .ok (.aload_n 0, 1) := by decide +kernel
theorem d_Nm_told_250 : decode c_Nm_told 250 = .ok (.getfield 19, 3) := by decide +kernel
theorem d_Nm_told_253 : decode c_Nm_told 253 = .ok (.getfield 136, 3) := by decide +kernel
theorem d_Nm_told_256 : decode c_Nm_told 256 = .ok (.ireturn, 1) := by decide +kernel
theorem d_Nm_told_257 : decode c_Nm_told 257 = .ok (.ldc 137, 2) := by decide +kernel
theorem d_Nm_told_259 : decode c_Nm_told 259 = .ok (.ireturn, 1) := by decide +kernel
theorem d_Nm_hand_0 : decode c_Nm_hand 0 = .ok (.aload_n 0, 1) := by decide +kernel
theorem d_Nm_hand_1 : decode c_Nm_hand 1 = .ok (.getfield 10, 3) := by decide +kernel
theorem d_Nm_hand_4 : decode c_Nm_hand 4 = .ok (.getfield 88, 3) := by decide +kernel
theorem d_Nm_hand_7 : decode c_Nm_hand 7 = .ok (.lreturn, 1) := by decide +kernel
theorem d_Nm_markAt_0 : decode c_Nm_markAt 0 = .ok (.aload_n 0, 1) := by decide +kernel
theorem d_Nm_markAt_1 : decode c_Nm_markAt 1 = .ok (.getfield 10, 3) := by decide +kernel
theorem d_Nm_markAt_4 : decode c_Nm_markAt 4 = .ok (.iload_n 1, 1) := by decide +kernel
theorem d_Nm_markAt_5 : decode c_Nm_markAt 5 = .ok (.invokevirtual 138, 3) := by decide +kernel
theorem d_Nm_markAt_8 : decode c_Nm_markAt 8 = .ok (.ifCond .eq 15, 3) := by decide +kernel
theorem d_Nm_markAt_11 : decode c_Nm_markAt 11 = .ok (.aload_n 0, 1) := by decide +kernel
theorem d_Nm_markAt_12 : decode c_Nm_markAt 12 = .ok (.getfield 10, 3) := by decide +kernel
theorem d_Nm_markAt_15 : decode c_Nm_markAt 15 = .ok (.getfield 142, 3) := by decide +kernel
theorem d_Nm_markAt_18 : decode c_Nm_markAt 18 = .ok (.iload_n 1, 1) := by decide +kernel
theorem d_Nm_markAt_19 : decode c_Nm_markAt 19 = .ok (.laload, 1) := by decide +kernel
theorem d_Nm_markAt_20 : decode c_Nm_markAt 20 = .ok (.goto 4, 3) := by decide +kernel
theorem d_Nm_markAt_23 : decode c_Nm_markAt 23 = .ok (.lconst 0, 1) := by decide +kernel
theorem d_Nm_markAt_24 : decode c_Nm_markAt 24 = .ok (.lreturn, 1) := by decide +kernel
theorem d_Nm_mark_0 : decode c_Nm_mark 0 = .ok (.aload_n 0, 1) := by decide +kernel
theorem d_Nm_mark_1 : decode c_Nm_mark 1 = .ok (.getfield 10, 3) := by decide +kernel
theorem d_Nm_mark_4 : decode c_Nm_mark 4 = .ok (.iload_n 1, 1) := by decide +kernel
theorem d_Nm_mark_5 : decode c_Nm_mark 5 = .ok (.invokevirtual 138, 3) := by decide +kernel
theorem d_Nm_mark_8 : decode c_Nm_mark 8 = .ok (.ifCond .ne 6, 3) := by decide +kernel
theorem d_Nm_mark_11 : decode c_Nm_mark 11 = .ok (.ldc 146, 2) := by decide +kernel
theorem d_Nm_mark_13 : decode c_Nm_mark 13 = .ok (.ireturn, 1) := by decide +kernel
theorem d_Nm_mark_14 : decode c_Nm_mark 14 = .ok (.iload_n 2, 1) := by decide +kernel
theorem d_Nm_mark_15 : decode c_Nm_mark 15 = .ok (.tableswitch 111 0 4 #[33, 43, 56, 65, 78], 33) := by decide +kernel
theorem d_Nm_mark_48 : decode c_Nm_mark 48 = .ok (.aload_n 0, 1) := by decide +kernel
theorem d_Nm_mark_49 : decode c_Nm_mark 49 = .ok (.getfield 10, 3) := by decide +kernel
theorem d_Nm_mark_52 : decode c_Nm_mark 52 = .ok (.getfield 147, 3) := by decide +kernel
theorem d_Nm_mark_55 : decode c_Nm_mark 55 = .ok (.iload_n 1, 1) := by decide +kernel
theorem d_Nm_mark_56 : decode c_Nm_mark 56 = .ok (.iaload, 1) := by decide +kernel
theorem d_Nm_mark_57 : decode c_Nm_mark 57 = .ok (.ireturn, 1) := by decide +kernel
theorem d_Nm_mark_58 : decode c_Nm_mark 58 = .ok (.aload_n 0, 1) := by decide +kernel
theorem d_Nm_mark_59 : decode c_Nm_mark 59 = .ok (.getfield 10, 3) := by decide +kernel
theorem d_Nm_mark_62 : decode c_Nm_mark 62 = .ok (.getfield 142, 3) := by decide +kernel
theorem d_Nm_mark_65 : decode c_Nm_mark 65 = .ok (.iload_n 1, 1) := by decide +kernel
theorem d_Nm_mark_66 : decode c_Nm_mark 66 = .ok (.laload, 1) := by decide +kernel
theorem d_Nm_mark_67 : decode c_Nm_mark 67 = .ok (.invokestatic 91, 3) := by decide +kernel
theorem d_Nm_mark_70 : decode c_Nm_mark 70 = .ok (.ireturn, 1) := by decide +kernel
theorem d_Nm_mark_71 : decode c_Nm_mark 71 = .ok (.aload_n 0, 1) := by decide +kernel
theorem d_Nm_mark_72 : decode c_Nm_mark 72 = .ok (.getfield 10, 3) := by decide +kernel
theorem d_Nm_mark_75 : decode c_Nm_mark 75 = .ok (.iload_n 1, 1) := by decide +kernel
theorem d_Nm_mark_76 : decode c_Nm_mark 76 = .ok (.invokevirtual 151, 3) := by decide +kernel
theorem d_Nm_mark_79 : decode c_Nm_mark 79 = .ok (.ireturn, 1) := by decide +kernel
theorem d_Nm_mark_80 : decode c_Nm_mark 80 = .ok (.aload_n 0, 1) := by decide +kernel
theorem d_Nm_mark_81 : decode c_Nm_mark 81 = .ok (.iload_n 1, 1) := by decide +kernel
theorem d_Nm_mark_82 : decode c_Nm_mark 82 = .ok (.aload_n 0, 1) := by decide +kernel
theorem d_Nm_mark_83 : decode c_Nm_mark 83 = .ok (.getfield 33, 3) := by decide +kernel
theorem d_Nm_mark_86 : decode c_Nm_mark 86 = .ok (.invokevirtual 104, 3) := by decide +kernel
theorem d_Nm_mark_89 : decode c_Nm_mark 89 = .ok (.invokevirtual 154, 3) := by decide +kernel
theorem d_Nm_mark_92 : decode c_Nm_mark 92 = .ok (.ireturn, 1) := by decide +kernel
theorem d_Nm_mark_93 : decode c_Nm_mark 93 = .ok (.aload_n 0, 1) := by decide +kernel
theorem d_Nm_mark_94 : decode c_Nm_mark 94 = .ok (.getfield 33, 3) := by decide +kernel
theorem d_Nm_mark_97 : decode c_Nm_mark 97 = .ok (.aload_n 0, 1) := by decide +kernel
theorem d_Nm_mark_98 : decode c_Nm_mark 98 = .ok (.getfield 10, 3) := by decide +kernel
theorem d_Nm_mark_101 : decode c_Nm_mark 101 = .ok (.getfield 142, 3) := by decide +kernel
theorem d_Nm_mark_104 : decode c_Nm_mark 104 = .ok (.iload_n 1, 1) := by decide +kernel
theorem d_Nm_mark_105 : decode c_Nm_mark 105 = .ok (.laload, 1) := by decide +kernel
theorem d_Nm_mark_106 : decode c_Nm_mark 106 = .ok (.aload_n 0, 1) := by decide +kernel
theorem d_Nm_mark_107 : decode c_Nm_mark 107 = .ok (.getfield 10, 3) := by decide +kernel
theorem d_Nm_mark_110 : decode c_Nm_mark 110 = .ok (.getfield 88, 3) := by decide +kernel
theorem d_Nm_mark_113 : decode c_Nm_mark 113 = .ok (.lxor, 1) := by decide +kernel
theorem d_Nm_mark_114 : decode c_Nm_mark 114 = .ok (.invokevirtual 158, 3) := by decide +kernel
theorem d_Nm_mark_117 : decode c_Nm_mark 117 = .ok (.ifCond .eq 7, 3) := by decide +kernel
theorem d_Nm_mark_120 : decode c_Nm_mark 120 = .ok (.iconst 1, 1) := by decide +kernel
theorem d_Nm_mark_121 : decode c_Nm_mark 121 = .ok (.goto 4, 3) := by decide +kernel
theorem d_Nm_mark_124 : decode c_Nm_mark 124 = .ok (.iconst 0, 1) := by decide +kernel
theorem d_Nm_mark_125 : decode c_Nm_mark 125 = .ok (.ireturn, 1) := by decide +kernel
theorem d_Nm_mark_126 : decode c_Nm_mark 126 = .ok (.ldc 137, 2) := by decide +kernel
theorem d_Nm_mark_128 : decode c_Nm_mark 128 = .ok (.ireturn, 1) := by decide +kernel
theorem d_Nm_part_0 : decode c_Nm_part 0 = .ok (.iload_n 1, 1) := by decide +kernel
theorem d_Nm_part_1 : decode c_Nm_part 1 = .ok (.ifCond .lt 14, 3) := by decide +kernel
theorem d_Nm_part_4 : decode c_Nm_part 4 = .ok (.iload_n 1, 1) := by decide +kernel
theorem d_Nm_part_5 : decode c_Nm_part 5 = .ok (.aload_n 0, 1) := by decide +kernel
theorem d_Nm_part_6 : decode c_Nm_part 6 = .ok (.getfield 33, 3) := by decide +kernel
theorem d_Nm_part_9 : decode c_Nm_part 9 = .ok (.getfield 87, 3) := by decide +kernel
theorem d_Nm_part_12 : decode c_Nm_part 12 = .ok (.if_icmp .lt 6, 3) := by decide +kernel
theorem d_Nm_part_15 : decode c_Nm_part 15 = .ok (.ldc 146, 2) := by decide +kernel
theorem d_Nm_part_17 : decode c_Nm_part 17 = .ok (.ireturn, 1) := by decide +kernel
theorem d_Nm_part_18 : decode c_Nm_part 18 = .ok (.iload_n 2, 1) := by decide +kernel
theorem d_Nm_part_19 : decode c_Nm_part 19 = .ok (.tableswitch 62 0 2 #[25, 35, 48], 25) := by decide +kernel
theorem d_Nm_part_44 : decode c_Nm_part 44 = .ok (.aload_n 0, 1) := by decide +kernel
theorem d_Nm_part_45 : decode c_Nm_part 45 = .ok (.getfield 33, 3) := by decide +kernel
theorem d_Nm_part_48 : decode c_Nm_part 48 = .ok (.getfield 162, 3) := by decide +kernel
theorem d_Nm_part_51 : decode c_Nm_part 51 = .ok (.iload_n 1, 1) := by decide +kernel
theorem d_Nm_part_52 : decode c_Nm_part 52 = .ok (.iaload, 1) := by decide +kernel
theorem d_Nm_part_53 : decode c_Nm_part 53 = .ok (.ireturn, 1) := by decide +kernel
theorem d_Nm_part_54 : decode c_Nm_part 54 = .ok (.aload_n 0, 1) := by decide +kernel
theorem d_Nm_part_55 : decode c_Nm_part 55 = .ok (.getfield 33, 3) := by decide +kernel
theorem d_Nm_part_58 : decode c_Nm_part 58 = .ok (.getfield 165, 3) := by decide +kernel
theorem d_Nm_part_61 : decode c_Nm_part 61 = .ok (.iload_n 1, 1) := by decide +kernel
theorem d_Nm_part_62 : decode c_Nm_part 62 = .ok (.laload, 1) := by decide +kernel
theorem d_Nm_part_63 : decode c_Nm_part 63 = .ok (.invokestatic 91, 3) := by decide +kernel
theorem d_Nm_part_66 : decode c_Nm_part 66 = .ok (.ireturn, 1) := by decide +kernel
theorem d_Nm_part_67 : decode c_Nm_part 67 = .ok (.aload_n 0, 1) := by decide +kernel
theorem d_Nm_part_68 : decode c_Nm_part 68 = .ok (.aload_n 0, 1) := by decide +kernel
theorem d_Nm_part_69 : decode c_Nm_part 69 = .ok (.getfield 33, 3) := by decide +kernel
theorem d_Nm_part_72 : decode c_Nm_part 72 = .ok (.getfield 165, 3) := by decide +kernel
theorem d_Nm_part_75 : decode c_Nm_part 75 = .ok (.iload_n 1, 1) := by decide +kernel
theorem d_Nm_part_76 : decode c_Nm_part 76 = .ok (.laload, 1) := by decide +kernel
theorem d_Nm_part_77 : decode c_Nm_part 77 = .ok (.invokevirtual 168, 3) := by decide +kernel
theorem d_Nm_part_80 : decode c_Nm_part 80 = .ok (.ireturn, 1) := by decide +kernel
theorem d_Nm_part_81 : decode c_Nm_part 81 = .ok (.ldc 137, 2) := by decide +kernel
theorem d_Nm_part_83 : decode c_Nm_part 83 = .ok (.ireturn, 1) := by decide +kernel
theorem d_Nm_countLookedAt_0 : decode c_Nm_countLookedAt 0 = .ok (.iconst 0, 1) := by decide +kernel
theorem d_Nm_countLookedAt_1 : decode c_Nm_countLookedAt 1 = .ok (.istore_n 2, 1) := by decide +kernel
theorem d_Nm_countLookedAt_2 : decode c_Nm_countLookedAt 2 = .ok (.iconst 0, 1) := by decide +kernel
theorem d_Nm_countLookedAt_3 : decode c_Nm_countLookedAt 3 = .ok (.istore_n 3, 1) := by decide +kernel
theorem d_Nm_countLookedAt_4 : decode c_Nm_countLookedAt 4 = .ok (.iload_n 3, 1) := by decide +kernel
theorem d_Nm_countLookedAt_5 : decode c_Nm_countLookedAt 5 = .ok (.aload_n 0, 1) := by decide +kernel
theorem d_Nm_countLookedAt_6 : decode c_Nm_countLookedAt 6 = .ok (.getfield 10, 3) := by decide +kernel
theorem d_Nm_countLookedAt_9 : decode c_Nm_countLookedAt 9 = .ok (.getfield 83, 3) := by decide +kernel
theorem d_Nm_countLookedAt_12 : decode c_Nm_countLookedAt 12 = .ok (.if_icmp .ge 51, 3) := by decide +kernel
theorem d_Nm_countLookedAt_15 : decode c_Nm_countLookedAt 15 = .ok (.aload_n 0, 1) := by decide +kernel
theorem d_Nm_countLookedAt_16 : decode c_Nm_countLookedAt 16 = .ok (.getfield 10, 3) := by decide +kernel
theorem d_Nm_countLookedAt_19 : decode c_Nm_countLookedAt 19 = .ok (.iload_n 3, 1) := by decide +kernel
theorem d_Nm_countLookedAt_20 : decode c_Nm_countLookedAt 20 = .ok (.invokevirtual 151, 3) := by decide +kernel
theorem d_Nm_countLookedAt_23 : decode c_Nm_countLookedAt 23 = .ok (.iload_n 1, 1) := by decide +kernel
theorem d_Nm_countLookedAt_24 : decode c_Nm_countLookedAt 24 = .ok (.if_icmp .le 33, 3) := by decide +kernel
theorem d_Nm_countLookedAt_27 : decode c_Nm_countLookedAt 27 = .ok (.aload_n 0, 1) := by decide +kernel
theorem d_Nm_countLookedAt_28 : decode c_Nm_countLookedAt 28 = .ok (.getfield 33, 3) := by decide +kernel
theorem d_Nm_countLookedAt_31 : decode c_Nm_countLookedAt 31 = .ok (.aload_n 0, 1) := by decide +kernel
theorem d_Nm_countLookedAt_32 : decode c_Nm_countLookedAt 32 = .ok (.getfield 10, 3) := by decide +kernel
theorem d_Nm_countLookedAt_35 : decode c_Nm_countLookedAt 35 = .ok (.getfield 142, 3) := by decide +kernel
theorem d_Nm_countLookedAt_38 : decode c_Nm_countLookedAt 38 = .ok (.iload_n 3, 1) := by decide +kernel
theorem d_Nm_countLookedAt_39 : decode c_Nm_countLookedAt 39 = .ok (.laload, 1) := by decide +kernel
theorem d_Nm_countLookedAt_40 : decode c_Nm_countLookedAt 40 = .ok (.aload_n 0, 1) := by decide +kernel
theorem d_Nm_countLookedAt_41 : decode c_Nm_countLookedAt 41 = .ok (.getfield 10, 3) := by decide +kernel
theorem d_Nm_countLookedAt_44 : decode c_Nm_countLookedAt 44 = .ok (.getfield 88, 3) := by decide +kernel
theorem d_Nm_countLookedAt_47 : decode c_Nm_countLookedAt 47 = .ok (.lxor, 1) := by decide +kernel
theorem d_Nm_countLookedAt_48 : decode c_Nm_countLookedAt 48 = .ok (.invokevirtual 158, 3) := by decide +kernel
theorem d_Nm_countLookedAt_51 : decode c_Nm_countLookedAt 51 = .ok (.ifCond .eq 6, 3) := by decide +kernel
theorem d_Nm_countLookedAt_54 : decode c_Nm_countLookedAt 54 = .ok (.iinc 2 1, 3) := by decide +kernel
theorem d_Nm_countLookedAt_57 : decode c_Nm_countLookedAt 57 = .ok (.iinc 3 1, 3) := by decide +kernel
theorem d_Nm_countLookedAt_60 : decode c_Nm_countLookedAt 60 = .ok (.goto (-56), 3) := by decide +kernel
theorem d_Nm_countLookedAt_63 : decode c_Nm_countLookedAt 63 = .ok (.iload_n 2, 1) := by decide +kernel
theorem d_Nm_countLookedAt_64 : decode c_Nm_countLookedAt 64 = .ok (.ireturn, 1) := by decide +kernel
theorem d_Nm_leastDistance_0 : decode c_Nm_leastDistance 0 = .ok (.aload_n 0, 1) := by decide +kernel
theorem d_Nm_leastDistance_1 : decode c_Nm_leastDistance 1 = .ok (.getfield 10, 3) := by decide +kernel
theorem d_Nm_leastDistance_4 : decode c_Nm_leastDistance 4 = .ok (.iconst 0, 1) := by decide +kernel
theorem d_Nm_leastDistance_5 : decode c_Nm_leastDistance 5 = .ok (.invokevirtual 108, 3) := by decide +kernel
theorem d_Nm_leastDistance_8 : decode c_Nm_leastDistance 8 = .ok (.istore_n 1, 1) := by decide +kernel
theorem d_Nm_leastDistance_9 : decode c_Nm_leastDistance 9 = .ok (.aload_n 0, 1) := by decide +kernel
theorem d_Nm_leastDistance_10 : decode c_Nm_leastDistance 10 = .ok (.getfield 10, 3) := by decide +kernel
theorem d_Nm_leastDistance_13 : decode c_Nm_leastDistance 13 = .ok (.iload_n 1, 1) := by decide +kernel
theorem d_Nm_leastDistance_14 : decode c_Nm_leastDistance 14 = .ok (.invokevirtual 138, 3) := by decide +kernel
theorem d_Nm_leastDistance_17 : decode c_Nm_leastDistance 17 = .ok (.ifCond .eq 14, 3) := by decide +kernel
theorem d_Nm_leastDistance_20 : decode c_Nm_leastDistance 20 = .ok (.aload_n 0, 1) := by decide +kernel
theorem d_Nm_leastDistance_21 : decode c_Nm_leastDistance 21 = .ok (.getfield 10, 3) := by decide +kernel
theorem d_Nm_leastDistance_24 : decode c_Nm_leastDistance 24 = .ok (.iload_n 1, 1) := by decide +kernel
theorem d_Nm_leastDistance_25 : decode c_Nm_leastDistance 25 = .ok (.invokevirtual 151, 3) := by decide +kernel
theorem d_Nm_leastDistance_28 : decode c_Nm_leastDistance 28 = .ok (.goto 4, 3) := by decide +kernel
theorem d_Nm_leastDistance_31 : decode c_Nm_leastDistance 31 = .ok (.iconst (-1), 1) := by decide +kernel
theorem d_Nm_leastDistance_32 : decode c_Nm_leastDistance 32 = .ok (.ireturn, 1) := by decide +kernel
theorem d_Nm_countOthersWithin_0 : decode c_Nm_countOthersWithin 0 = .ok (.iconst 0, 1) := by decide +kernel
theorem d_Nm_countOthersWithin_1 : decode c_Nm_countOthersWithin 1 = .ok (.istore_n 3, 1) := by decide +kernel
theorem d_Nm_countOthersWithin_2 : decode c_Nm_countOthersWithin 2 = .ok (.iconst 0, 1) := by decide +kernel
theorem d_Nm_countOthersWithin_3 : decode c_Nm_countOthersWithin 3 = .ok (.istore 4, 2) := by decide +kernel
theorem d_Nm_countOthersWithin_5 : decode c_Nm_countOthersWithin 5 = .ok (.iload 4, 2) := by decide +kernel
theorem d_Nm_countOthersWithin_7 : decode c_Nm_countOthersWithin 7 = .ok (.aload_n 0, 1) := by decide +kernel
theorem d_Nm_countOthersWithin_8 : decode c_Nm_countOthersWithin 8 = .ok (.getfield 10, 3) := by decide +kernel
theorem d_Nm_countOthersWithin_11 : decode c_Nm_countOthersWithin 11 = .ok (.getfield 83, 3) := by decide +kernel
theorem d_Nm_countOthersWithin_14 : decode c_Nm_countOthersWithin 14 = .ok (.if_icmp .ge 32, 3) := by decide +kernel
theorem d_Nm_countOthersWithin_17 : decode c_Nm_countOthersWithin 17 = .ok (.iload 4, 2) := by decide +kernel
theorem d_Nm_countOthersWithin_19 : decode c_Nm_countOthersWithin 19 = .ok (.iload_n 1, 1) := by decide +kernel
theorem d_Nm_countOthersWithin_20 : decode c_Nm_countOthersWithin 20 = .ok (.if_icmp .eq 20, 3) := by decide +kernel
theorem d_Nm_countOthersWithin_23 : decode c_Nm_countOthersWithin 23 = .ok (.aload_n 0, 1) := by decide +kernel
theorem d_Nm_countOthersWithin_24 : decode c_Nm_countOthersWithin 24 = .ok (.getfield 10, 3) := by decide +kernel
theorem d_Nm_countOthersWithin_27 : decode c_Nm_countOthersWithin 27 = .ok (.iload 4, 2) := by decide +kernel
theorem d_Nm_countOthersWithin_29 : decode c_Nm_countOthersWithin 29 = .ok (.iload_n 1, 1) := by decide +kernel
theorem d_Nm_countOthersWithin_30 : decode c_Nm_countOthersWithin 30 = .ok (.invokevirtual 171, 3) := by decide +kernel
theorem d_Nm_countOthersWithin_33 : decode c_Nm_countOthersWithin 33 = .ok (.iload_n 2, 1) := by decide +kernel
theorem d_Nm_countOthersWithin_34 : decode c_Nm_countOthersWithin 34 = .ok (.if_icmp .gt 6, 3) := by decide +kernel
theorem d_Nm_countOthersWithin_37 : decode c_Nm_countOthersWithin 37 = .ok (.iinc 3 1, 3) := by decide +kernel
theorem d_Nm_countOthersWithin_40 : decode c_Nm_countOthersWithin 40 = .ok (.iinc 4 1, 3) := by decide +kernel
theorem d_Nm_countOthersWithin_43 : decode c_Nm_countOthersWithin 43 = .ok (.goto (-38), 3) := by decide +kernel
theorem d_Nm_countOthersWithin_46 : decode c_Nm_countOthersWithin 46 = .ok (.iload_n 3, 1) := by decide +kernel
theorem d_Nm_countOthersWithin_47 : decode c_Nm_countOthersWithin 47 = .ok (.ireturn, 1) := by decide +kernel
theorem d_Nm_countWithPart_0 : decode c_Nm_countWithPart 0 = .ok (.iconst 0, 1) := by decide +kernel
theorem d_Nm_countWithPart_1 : decode c_Nm_countWithPart 1 = .ok (.istore_n 3, 1) := by decide +kernel
theorem d_Nm_countWithPart_2 : decode c_Nm_countWithPart 2 = .ok (.iconst 0, 1) := by decide +kernel
theorem d_Nm_countWithPart_3 : decode c_Nm_countWithPart 3 = .ok (.istore 4, 2) := by decide +kernel
theorem d_Nm_countWithPart_5 : decode c_Nm_countWithPart 5 = .ok (.iload 4, 2) := by decide +kernel
theorem d_Nm_countWithPart_7 : decode c_Nm_countWithPart 7 = .ok (.aload_n 0, 1) := by decide +kernel
theorem d_Nm_countWithPart_8 : decode c_Nm_countWithPart 8 = .ok (.getfield 10, 3) := by decide +kernel
theorem d_Nm_countWithPart_11 : decode c_Nm_countWithPart 11 = .ok (.getfield 83, 3) := by decide +kernel
theorem d_Nm_countWithPart_14 : decode c_Nm_countWithPart 14 = .ok (.if_icmp .ge 37, 3) := by decide +kernel
theorem d_Nm_countWithPart_17 : decode c_Nm_countWithPart 17 = .ok (.aload_n 0, 1) := by decide +kernel
theorem d_Nm_countWithPart_18 : decode c_Nm_countWithPart 18 = .ok (.getfield 10, 3) := by decide +kernel
theorem d_Nm_countWithPart_21 : decode c_Nm_countWithPart 21 = .ok (.getfield 142, 3) := by decide +kernel
theorem d_Nm_countWithPart_24 : decode c_Nm_countWithPart 24 = .ok (.iload 4, 2) := by decide +kernel
theorem d_Nm_countWithPart_26 : decode c_Nm_countWithPart 26 = .ok (.laload, 1) := by decide +kernel
theorem d_Nm_countWithPart_27 : decode c_Nm_countWithPart 27 = .ok (.aload_n 0, 1) := by decide +kernel
theorem d_Nm_countWithPart_28 : decode c_Nm_countWithPart 28 = .ok (.getfield 10, 3) := by decide +kernel
theorem d_Nm_countWithPart_31 : decode c_Nm_countWithPart 31 = .ok (.getfield 88, 3) := by decide +kernel
theorem d_Nm_countWithPart_34 : decode c_Nm_countWithPart 34 = .ok (.lxor, 1) := by decide +kernel
theorem d_Nm_countWithPart_35 : decode c_Nm_countWithPart 35 = .ok (.lload_n 1, 1) := by decide +kernel
theorem d_Nm_countWithPart_36 : decode c_Nm_countWithPart 36 = .ok (.land, 1) := by decide +kernel
theorem d_Nm_countWithPart_37 : decode c_Nm_countWithPart 37 = .ok (.lconst 0, 1) := by decide +kernel
theorem d_Nm_countWithPart_38 : decode c_Nm_countWithPart 38 = .ok (.lcmp, 1) := by decide +kernel
theorem d_Nm_countWithPart_39 : decode c_Nm_countWithPart 39 = .ok (.ifCond .ne 6, 3) := by decide +kernel
theorem d_Nm_countWithPart_42 : decode c_Nm_countWithPart 42 = .ok (.iinc 3 1, 3) := by decide +kernel
theorem d_Nm_countWithPart_45 : decode c_Nm_countWithPart 45 = .ok (.iinc 4 1, 3) := by decide +kernel
theorem d_Nm_countWithPart_48 : decode c_Nm_countWithPart 48 = .ok (.goto (-43), 3) := by decide +kernel
theorem d_Nm_countWithPart_51 : decode c_Nm_countWithPart 51 = .ok (.iload_n 3, 1) := by decide +kernel
theorem d_Nm_countWithPart_52 : decode c_Nm_countWithPart 52 = .ok (.ireturn, 1) := by decide +kernel
theorem d_Nm_type_0 : decode c_Nm_type 0 = .ok (.iload_n 1, 1) := by decide +kernel
theorem d_Nm_type_1 : decode c_Nm_type 1 = .ok (.ifCond .lt 20, 3) := by decide +kernel
theorem d_Nm_type_4 : decode c_Nm_type 4 = .ok (.iload_n 1, 1) := by decide +kernel
theorem d_Nm_type_5 : decode c_Nm_type 5 = .ok (.bipush 8, 2) := by decide +kernel
theorem d_Nm_type_7 : decode c_Nm_type 7 = .ok (.if_icmp .ge 14, 3) := by decide +kernel
theorem d_Nm_type_10 : decode c_Nm_type 10 = .ok (.iload_n 2, 1) := by decide +kernel
theorem d_Nm_type_11 : decode c_Nm_type 11 = .ok (.ifCond .lt 10, 3) := by decide +kernel
theorem d_Nm_type_14 : decode c_Nm_type 14 = .ok (.iload_n 2, 1) := by decide +kernel
theorem d_Nm_type_15 : decode c_Nm_type 15 = .ok (.sipush 255, 3) := by decide +kernel
theorem d_Nm_type_18 : decode c_Nm_type 18 = .ok (.if_icmp .le 6, 3) := by decide +kernel
theorem d_Nm_type_21 : decode c_Nm_type 21 = .ok (.ldc 137, 2) := by decide +kernel
theorem d_Nm_type_23 : decode c_Nm_type 23 = .ok (.ireturn, 1) := by decide +kernel
theorem d_Nm_type_24 : decode c_Nm_type 24 = .ok (.aload_n 0, 1) := by decide +kernel
theorem d_Nm_type_25 : decode c_Nm_type 25 = .ok (.getfield 19, 3) := by decide +kernel
theorem d_Nm_type_28 : decode c_Nm_type 28 = .ok (.aload_n 0, 1) := by decide +kernel
theorem d_Nm_type_29 : decode c_Nm_type 29 = .ok (.getfield 10, 3) := by decide +kernel
theorem d_Nm_type_32 : decode c_Nm_type 32 = .ok (.invokevirtual 174, 3) := by decide +kernel
theorem d_Nm_type_35 : decode c_Nm_type 35 = .ok (.aload_n 0, 1) := by decide +kernel
theorem d_Nm_type_36 : decode c_Nm_type 36 = .ok (.getfield 10, 3) := by decide +kernel
theorem d_Nm_type_39 : decode c_Nm_type 39 = .ok (.aload_n 0, 1) := by decide +kernel
theorem d_Nm_type_40 : decode c_Nm_type 40 = .ok (.getfield 10, 3) := by decide +kernel
theorem d_Nm_type_43 : decode c_Nm_type 43 = .ok (.getfield 88, 3) := by decide +kernel
theorem d_Nm_type_46 : decode c_Nm_type 46 = .ok (.iload_n 1, 1) := by decide +kernel
theorem d_Nm_type_47 : decode c_Nm_type 47 = .ok (.iload_n 2, 1) := by decide +kernel
theorem d_Nm_type_48 : decode c_Nm_type 48 = .ok (.invokestatic 178, 3) := by decide +kernel
theorem d_Nm_type_51 : decode c_Nm_type 51 = .ok (.putfield 88, 3) := by decide +kernel
theorem d_Nm_type_54 : decode c_Nm_type 54 = .ok (.aload_n 0, 1) := by decide +kernel
theorem d_Nm_type_55 : decode c_Nm_type 55 = .ok (.getfield 10, 3) := by decide +kernel
theorem d_Nm_type_58 : decode c_Nm_type 58 = .ok (.getfield 88, 3) := by decide +kernel
theorem d_Nm_type_61 : decode c_Nm_type 61 = .ok (.invokestatic 91, 3) := by decide +kernel
theorem d_Nm_type_64 : decode c_Nm_type 64 = .ok (.ireturn, 1) := by decide +kernel
theorem d_Nm_flip_0 : decode c_Nm_flip 0 = .ok (.iload_n 1, 1) := by decide +kernel
theorem d_Nm_flip_1 : decode c_Nm_flip 1 = .ok (.ifCond .lt 9, 3) := by decide +kernel
theorem d_Nm_flip_4 : decode c_Nm_flip 4 = .ok (.iload_n 1, 1) := by decide +kernel
theorem d_Nm_flip_5 : decode c_Nm_flip 5 = .ok (.bipush 64, 2) := by decide +kernel
theorem d_Nm_flip_7 : decode c_Nm_flip 7 = .ok (.if_icmp .lt 6, 3) := by decide +kernel
theorem d_Nm_flip_10 : decode c_Nm_flip 10 = .ok (.ldc 137, 2) := by decide +kernel
theorem d_Nm_flip_12 : decode c_Nm_flip 12 = .ok (.ireturn, 1) := by decide +kernel
theorem d_Nm_flip_13 : decode c_Nm_flip 13 = .ok (.aload_n 0, 1) := by decide +kernel
theorem d_Nm_flip_14 : decode c_Nm_flip 14 = .ok (.getfield 19, 3) := by decide +kernel
theorem d_Nm_flip_17 : decode c_Nm_flip 17 = .ok (.aload_n 0, 1) := by decide +kernel
theorem d_Nm_flip_18 : decode c_Nm_flip 18 = .ok (.getfield 10, 3) := by decide +kernel
theorem d_Nm_flip_21 : decode c_Nm_flip 21 = .ok (.invokevirtual 174, 3) := by decide +kernel
theorem d_Nm_flip_24 : decode c_Nm_flip 24 = .ok (.aload_n 0, 1) := by decide +kernel
theorem d_Nm_flip_25 : decode c_Nm_flip 25 = .ok (.getfield 10, 3) := by decide +kernel
theorem d_Nm_flip_28 : decode c_Nm_flip 28 = .ok (.dup, 1) := by decide +kernel
theorem d_Nm_flip_29 : decode c_Nm_flip 29 = .ok (.getfield 88, 3) := by decide +kernel
theorem d_Nm_flip_32 : decode c_Nm_flip 32 = .ok (.lconst 1, 1) := by decide +kernel
theorem d_Nm_flip_33 : decode c_Nm_flip 33 = .ok (.iload_n 1, 1) := by decide +kernel
theorem d_Nm_flip_34 : decode c_Nm_flip 34 = .ok (.lshl, 1) := by decide +kernel
theorem d_Nm_flip_35 : decode c_Nm_flip 35 = .ok (.lxor, 1) := by decide +kernel
theorem d_Nm_flip_36 : decode c_Nm_flip 36 = .ok (.putfield 88, 3) := by decide +kernel
theorem d_Nm_flip_39 : decode c_Nm_flip 39 = .ok (.aload_n 0, 1) := by decide +kernel
theorem d_Nm_flip_40 : decode c_Nm_flip 40 = .ok (.getfield 10, 3) := by decide +kernel
theorem d_Nm_flip_43 : decode c_Nm_flip 43 = .ok (.getfield 88, 3) := by decide +kernel
theorem d_Nm_flip_46 : decode c_Nm_flip 46 = .ok (.invokestatic 91, 3) := by decide +kernel
theorem d_Nm_flip_49 : decode c_Nm_flip 49 = .ok (.ireturn, 1) := by decide +kernel
theorem d_Nm_turn_0 : decode c_Nm_turn 0 = .ok (.aload_n 0, 1) := by decide +kernel
theorem d_Nm_turn_1 : decode c_Nm_turn 1 = .ok (.getfield 19, 3) := by decide +kernel
theorem d_Nm_turn_4 : decode c_Nm_turn 4 = .ok (.aload_n 0, 1) := by decide +kernel
theorem d_Nm_turn_5 : decode c_Nm_turn 5 = .ok (.getfield 10, 3) := by decide +kernel
theorem d_Nm_turn_8 : decode c_Nm_turn 8 = .ok (.invokevirtual 174, 3) := by decide +kernel
theorem d_Nm_turn_11 : decode c_Nm_turn 11 = .ok (.aload_n 0, 1) := by decide +kernel
theorem d_Nm_turn_12 : decode c_Nm_turn 12 = .ok (.getfield 10, 3) := by decide +kernel
theorem d_Nm_turn_15 : decode c_Nm_turn 15 = .ok (.aload_n 0, 1) := by decide +kernel
theorem d_Nm_turn_16 : decode c_Nm_turn 16 = .ok (.getfield 10, 3) := by decide +kernel
theorem d_Nm_turn_19 : decode c_Nm_turn 19 = .ok (.getfield 88, 3) := by decide +kernel
theorem d_Nm_turn_22 : decode c_Nm_turn 22 = .ok (.invokestatic 184, 3) := by decide +kernel
theorem d_Nm_turn_25 : decode c_Nm_turn 25 = .ok (.putfield 88, 3) := by decide +kernel
theorem d_Nm_turn_28 : decode c_Nm_turn 28 = .ok (.aload_n 0, 1) := by decide +kernel
theorem d_Nm_turn_29 : decode c_Nm_turn 29 = .ok (.getfield 10, 3) := by decide +kernel
theorem d_Nm_turn_32 : decode c_Nm_turn 32 = .ok (.getfield 88, 3) := by decide +kernel
theorem d_Nm_turn_35 : decode c_Nm_turn 35 = .ok (.invokestatic 188, 3) := by decide +kernel
theorem d_Nm_turn_38 : decode c_Nm_turn 38 = .ok (.ireturn, 1) := by decide +kernel
theorem d_Nm_mirror_0 : decode c_Nm_mirror 0 = .ok (.aload_n 0, 1) := by decide +kernel
theorem d_Nm_mirror_1 : decode c_Nm_mirror 1 = .ok (.getfield 19, 3) := by decide +kernel
theorem d_Nm_mirror_4 : decode c_Nm_mirror 4 = .ok (.aload_n 0, 1) := by decide +kernel
theorem d_Nm_mirror_5 : decode c_Nm_mirror 5 = .ok (.getfield 10, 3) := by decide +kernel
theorem d_Nm_mirror_8 : decode c_Nm_mirror 8 = .ok (.invokevirtual 174, 3) := by decide +kernel
theorem d_Nm_mirror_11 : decode c_Nm_mirror 11 = .ok (.aload_n 0, 1) := by decide +kernel
theorem d_Nm_mirror_12 : decode c_Nm_mirror 12 = .ok (.getfield 10, 3) := by decide +kernel
theorem d_Nm_mirror_15 : decode c_Nm_mirror 15 = .ok (.aload_n 0, 1) := by decide +kernel
theorem d_Nm_mirror_16 : decode c_Nm_mirror 16 = .ok (.getfield 10, 3) := by decide +kernel
theorem d_Nm_mirror_19 : decode c_Nm_mirror 19 = .ok (.getfield 88, 3) := by decide +kernel
theorem d_Nm_mirror_22 : decode c_Nm_mirror 22 = .ok (.invokestatic 191, 3) := by decide +kernel
theorem d_Nm_mirror_25 : decode c_Nm_mirror 25 = .ok (.putfield 88, 3) := by decide +kernel
theorem d_Nm_mirror_28 : decode c_Nm_mirror 28 = .ok (.aload_n 0, 1) := by decide +kernel
theorem d_Nm_mirror_29 : decode c_Nm_mirror 29 = .ok (.getfield 10, 3) := by decide +kernel
theorem d_Nm_mirror_32 : decode c_Nm_mirror 32 = .ok (.getfield 88, 3) := by decide +kernel
theorem d_Nm_mirror_35 : decode c_Nm_mirror 35 = .ok (.invokestatic 188, 3) := by decide +kernel
theorem d_Nm_mirror_38 : decode c_Nm_mirror 38 = .ok (.ireturn, 1) := by decide +kernel
theorem d_Nm_hold_0 : decode c_Nm_hold 0 = .ok (.aload_n 0, 1) := by decide +kernel
theorem d_Nm_hold_1 : decode c_Nm_hold 1 = .ok (.getfield 10, 3) := by decide +kernel
theorem d_Nm_hold_4 : decode c_Nm_hold 4 = .ok (.iload_n 1, 1) := by decide +kernel
theorem d_Nm_hold_5 : decode c_Nm_hold 5 = .ok (.invokevirtual 138, 3) := by decide +kernel
theorem d_Nm_hold_8 : decode c_Nm_hold 8 = .ok (.ifCond .ne 6, 3) := by decide +kernel
theorem d_Nm_hold_11 : decode c_Nm_hold 11 = .ok (.ldc 146, 2) := by decide +kernel
theorem d_Nm_hold_13 : decode c_Nm_hold 13 = .ok (.ireturn, 1) := by decide +kernel
theorem d_Nm_hold_14 : decode c_Nm_hold 14 = .ok (.aload_n 0, 1) := by decide +kernel
theorem d_Nm_hold_15 : decode c_Nm_hold 15 = .ok (.getfield 10, 3) := by decide +kernel
theorem d_Nm_hold_18 : decode c_Nm_hold 18 = .ok (.iload_n 1, 1) := by decide +kernel
theorem d_Nm_hold_19 : decode c_Nm_hold 19 = .ok (.invokevirtual 151, 3) := by decide +kernel
theorem d_Nm_hold_22 : decode c_Nm_hold 22 = .ok (.istore_n 2, 1) := by decide +kernel
theorem d_Nm_hold_23 : decode c_Nm_hold 23 = .ok (.aload_n 0, 1) := by decide +kernel
theorem d_Nm_hold_24 : decode c_Nm_hold 24 = .ok (.getfield 19, 3) := by decide +kernel
theorem d_Nm_hold_27 : decode c_Nm_hold 27 = .ok (.aload_n 0, 1) := by decide +kernel
theorem d_Nm_hold_28 : decode c_Nm_hold 28 = .ok (.getfield 10, 3) := by decide +kernel
theorem d_Nm_hold_31 : decode c_Nm_hold 31 = .ok (.invokevirtual 174, 3) := by decide +kernel
theorem d_Nm_hold_34 : decode c_Nm_hold 34 = .ok (.aload_n 0, 1) := by decide +kernel
theorem d_Nm_hold_35 : decode c_Nm_hold 35 = .ok (.getfield 10, 3) := by decide +kernel
theorem d_Nm_hold_38 : decode c_Nm_hold 38 = .ok (.aload_n 0, 1) := by decide +kernel
theorem d_Nm_hold_39 : decode c_Nm_hold 39 = .ok (.getfield 10, 3) := by decide +kernel
theorem d_Nm_hold_42 : decode c_Nm_hold 42 = .ok (.getfield 142, 3) := by decide +kernel
theorem d_Nm_hold_45 : decode c_Nm_hold 45 = .ok (.iload_n 1, 1) := by decide +kernel
theorem d_Nm_hold_46 : decode c_Nm_hold 46 = .ok (.laload, 1) := by decide +kernel
theorem d_Nm_hold_47 : decode c_Nm_hold 47 = .ok (.putfield 88, 3) := by decide +kernel
theorem d_Nm_hold_50 : decode c_Nm_hold 50 = .ok (.iload_n 2, 1) := by decide +kernel
theorem d_Nm_hold_51 : decode c_Nm_hold 51 = .ok (.ireturn, 1) := by decide +kernel
theorem d_Nm_put_0 : decode c_Nm_put 0 = .ok (.iload_n 1, 1) := by decide +kernel
theorem d_Nm_put_1 : decode c_Nm_put 1 = .ok (.invokestatic 194, 3) := by decide +kernel
theorem d_Nm_put_4 : decode c_Nm_put 4 = .ok (.ifCond .ne 6, 3) := by decide +kernel
theorem d_Nm_put_7 : decode c_Nm_put 7 = .ok (.ldc 137, 2) := by decide +kernel
theorem d_Nm_put_9 : decode c_Nm_put 9 = .ok (.ireturn, 1) := by decide +kernel
theorem d_Nm_put_10 : decode c_Nm_put 10 = .ok (.aload_n 0, 1) := by decide +kernel
theorem d_Nm_put_11 : decode c_Nm_put 11 = .ok (.getfield 10, 3) := by decide +kernel
theorem d_Nm_put_14 : decode c_Nm_put 14 = .ok (.aload_n 0, 1) := by decide +kernel
theorem d_Nm_put_15 : decode c_Nm_put 15 = .ok (.getfield 10, 3) := by decide +kernel
theorem d_Nm_put_18 : decode c_Nm_put 18 = .ok (.getfield 88, 3) := by decide +kernel
theorem d_Nm_put_21 : decode c_Nm_put 21 = .ok (.invokevirtual 97, 3) := by decide +kernel
theorem d_Nm_put_24 : decode c_Nm_put 24 = .ok (.iconst (-1), 1) := by decide +kernel
theorem d_Nm_put_25 : decode c_Nm_put 25 = .ok (.if_icmp .eq 6, 3) := by decide +kernel
theorem d_Nm_put_28 : decode c_Nm_put 28 = .ok (.ldc 197, 2) := by decide +kernel
theorem d_Nm_put_30 : decode c_Nm_put 30 = .ok (.ireturn, 1) := by decide +kernel
theorem d_Nm_put_31 : decode c_Nm_put 31 = .ok (.aload_n 0, 1) := by decide +kernel
theorem d_Nm_put_32 : decode c_Nm_put 32 = .ok (.getfield 10, 3) := by decide +kernel
theorem d_Nm_put_35 : decode c_Nm_put 35 = .ok (.getfield 83, 3) := by decide +kernel
theorem d_Nm_put_38 : decode c_Nm_put 38 = .ok (.bipush 40, 2) := by decide +kernel
theorem d_Nm_put_40 : decode c_Nm_put 40 = .ok (.if_icmp .lt 6, 3) := by decide +kernel
theorem d_Nm_put_43 : decode c_Nm_put 43 = .ok (.ldc 198, 2) := by decide +kernel
theorem d_Nm_put_45 : decode c_Nm_put 45 = .ok (.ireturn, 1) := by decide +kernel
theorem d_Nm_put_46 : decode c_Nm_put 46 = .ok (.aload_n 0, 1) := by decide +kernel
theorem d_Nm_put_47 : decode c_Nm_put 47 = .ok (.getfield 19, 3) := by decide +kernel
theorem d_Nm_put_50 : decode c_Nm_put 50 = .ok (.aload_n 0, 1) := by decide +kernel
theorem d_Nm_put_51 : decode c_Nm_put 51 = .ok (.getfield 10, 3) := by decide +kernel
theorem d_Nm_put_54 : decode c_Nm_put 54 = .ok (.invokevirtual 174, 3) := by decide +kernel
theorem d_Nm_put_57 : decode c_Nm_put 57 = .ok (.aload_n 0, 1) := by decide +kernel
theorem d_Nm_put_58 : decode c_Nm_put 58 = .ok (.getfield 10, 3) := by decide +kernel
theorem d_Nm_put_61 : decode c_Nm_put 61 = .ok (.iload_n 1, 1) := by decide +kernel
theorem d_Nm_put_62 : decode c_Nm_put 62 = .ok (.invokevirtual 199, 3) := by decide +kernel
theorem d_Nm_put_65 : decode c_Nm_put 65 = .ok (.aload_n 0, 1) := by decide +kernel
theorem d_Nm_put_66 : decode c_Nm_put 66 = .ok (.getfield 10, 3) := by decide +kernel
theorem d_Nm_put_69 : decode c_Nm_put 69 = .ok (.getfield 83, 3) := by decide +kernel
theorem d_Nm_put_72 : decode c_Nm_put 72 = .ok (.iconst 1, 1) := by decide +kernel
theorem d_Nm_put_73 : decode c_Nm_put 73 = .ok (.isub, 1) := by decide +kernel
theorem d_Nm_put_74 : decode c_Nm_put 74 = .ok (.ireturn, 1) := by decide +kernel
theorem d_Nm_cut_0 : decode c_Nm_cut 0 = .ok (.lload_n 1, 1) := by decide +kernel
theorem d_Nm_cut_1 : decode c_Nm_cut 1 = .ok (.lconst 1, 1) := by decide +kernel
theorem d_Nm_cut_2 : decode c_Nm_cut 2 = .ok (.land, 1) := by decide +kernel
theorem d_Nm_cut_3 : decode c_Nm_cut 3 = .ok (.lconst 0, 1) := by decide +kernel
theorem d_Nm_cut_4 : decode c_Nm_cut 4 = .ok (.lcmp, 1) := by decide +kernel
theorem d_Nm_cut_5 : decode c_Nm_cut 5 = .ok (.ifCond .eq 12, 3) := by decide +kernel
theorem d_Nm_cut_8 : decode c_Nm_cut 8 = .ok (.lload_n 1, 1) := by decide +kernel
theorem d_Nm_cut_9 : decode c_Nm_cut 9 = .ok (.invokestatic 91, 3) := by decide +kernel
theorem d_Nm_cut_12 : decode c_Nm_cut 12 = .ok (.bipush 8, 2) := by decide +kernel
theorem d_Nm_cut_14 : decode c_Nm_cut 14 = .ok (.if_icmp .le 6, 3) := by decide +kernel
theorem d_Nm_cut_17 : decode c_Nm_cut 17 = .ok (.ldc 137, 2) := by decide +kernel
theorem d_Nm_cut_19 : decode c_Nm_cut 19 = .ok (.ireturn, 1) := by decide +kernel
theorem d_Nm_cut_20 : decode c_Nm_cut 20 = .ok (.aload_n 0, 1) := by decide +kernel
theorem d_Nm_cut_21 : decode c_Nm_cut 21 = .ok (.getfield 19, 3) := by decide +kernel
theorem d_Nm_cut_24 : decode c_Nm_cut 24 = .ok (.aload_n 0, 1) := by decide +kernel
theorem d_Nm_cut_25 : decode c_Nm_cut 25 = .ok (.getfield 10, 3) := by decide +kernel
theorem d_Nm_cut_28 : decode c_Nm_cut 28 = .ok (.invokevirtual 174, 3) := by decide +kernel
theorem d_Nm_cut_31 : decode c_Nm_cut 31 = .ok (.aload_n 0, 1) := by decide +kernel
theorem d_Nm_cut_32 : decode c_Nm_cut 32 = .ok (.getfield 10, 3) := by decide +kernel
theorem d_Nm_cut_35 : decode c_Nm_cut 35 = .ok (.lload_n 1, 1) := by decide +kernel
theorem d_Nm_cut_36 : decode c_Nm_cut 36 = .ok (.putfield 37, 3) := by decide +kernel
theorem d_Nm_cut_39 : decode c_Nm_cut 39 = .ok (.aload_n 0, 1) := by decide +kernel
theorem d_Nm_cut_40 : decode c_Nm_cut 40 = .ok (.getfield 33, 3) := by decide +kernel
theorem d_Nm_cut_43 : decode c_Nm_cut 43 = .ok (.lload_n 1, 1) := by decide +kernel
theorem d_Nm_cut_44 : decode c_Nm_cut 44 = .ok (.invokevirtual 41, 3) := by decide +kernel
theorem d_Nm_cut_47 : decode c_Nm_cut 47 = .ok (.aload_n 0, 1) := by decide +kernel
theorem d_Nm_cut_48 : decode c_Nm_cut 48 = .ok (.getfield 33, 3) := by decide +kernel
theorem d_Nm_cut_51 : decode c_Nm_cut 51 = .ok (.invokevirtual 104, 3) := by decide +kernel
theorem d_Nm_cut_54 : decode c_Nm_cut 54 = .ok (.ireturn, 1) := by decide +kernel
theorem d_Nm_take_0 : decode c_Nm_take 0 = .ok (.aload_n 0, 1) := by decide +kernel
theorem d_Nm_take_1 : decode c_Nm_take 1 = .ok (.getfield 10, 3) := by decide +kernel
theorem d_Nm_take_4 : decode c_Nm_take 4 = .ok (.iload_n 1, 1) := by decide +kernel
theorem d_Nm_take_5 : decode c_Nm_take 5 = .ok (.invokevirtual 138, 3) := by decide +kernel
theorem d_Nm_take_8 : decode c_Nm_take 8 = .ok (.ifCond .ne 6, 3) := by decide +kernel
theorem d_Nm_take_11 : decode c_Nm_take 11 = .ok (.ldc 146, 2) := by decide +kernel
theorem d_Nm_take_13 : decode c_Nm_take 13 = .ok (.ireturn, 1) := by decide +kernel
theorem d_Nm_take_14 : decode c_Nm_take 14 = .ok (.aload_n 0, 1) := by decide +kernel
theorem d_Nm_take_15 : decode c_Nm_take 15 = .ok (.getfield 19, 3) := by decide +kernel
theorem d_Nm_take_18 : decode c_Nm_take 18 = .ok (.aload_n 0, 1) := by decide +kernel
theorem d_Nm_take_19 : decode c_Nm_take 19 = .ok (.getfield 10, 3) := by decide +kernel
theorem d_Nm_take_22 : decode c_Nm_take 22 = .ok (.invokevirtual 174, 3) := by decide +kernel
theorem d_Nm_take_25 : decode c_Nm_take 25 = .ok (.aload_n 0, 1) := by decide +kernel
theorem d_Nm_take_26 : decode c_Nm_take 26 = .ok (.getfield 10, 3) := by decide +kernel
theorem d_Nm_take_29 : decode c_Nm_take 29 = .ok (.iload_n 1, 1) := by decide +kernel
theorem d_Nm_take_30 : decode c_Nm_take 30 = .ok (.invokevirtual 203, 3) := by decide +kernel
theorem d_Nm_take_33 : decode c_Nm_take 33 = .ok (.aload_n 0, 1) := by decide +kernel
theorem d_Nm_take_34 : decode c_Nm_take 34 = .ok (.getfield 10, 3) := by decide +kernel
theorem d_Nm_take_37 : decode c_Nm_take 37 = .ok (.getfield 83, 3) := by decide +kernel
theorem d_Nm_take_40 : decode c_Nm_take 40 = .ok (.ireturn, 1) := by decide +kernel
theorem d_Nm_kind_0 : decode c_Nm_kind 0 = .ok (.aload_n 0, 1) := by decide +kernel
theorem d_Nm_kind_1 : decode c_Nm_kind 1 = .ok (.getfield 10, 3) := by decide +kernel
theorem d_Nm_kind_4 : decode c_Nm_kind 4 = .ok (.iload_n 1, 1) := by decide +kernel
theorem d_Nm_kind_5 : decode c_Nm_kind 5 = .ok (.invokevirtual 138, 3) := by decide +kernel
theorem d_Nm_kind_8 : decode c_Nm_kind 8 = .ok (.ifCond .ne 6, 3) := by decide +kernel
theorem d_Nm_kind_11 : decode c_Nm_kind 11 = .ok (.ldc 146, 2) := by decide +kernel
theorem d_Nm_kind_13 : decode c_Nm_kind 13 = .ok (.ireturn, 1) := by decide +kernel
theorem d_Nm_kind_14 : decode c_Nm_kind 14 = .ok (.iload_n 2, 1) := by decide +kernel
theorem d_Nm_kind_15 : decode c_Nm_kind 15 = .ok (.invokestatic 194, 3) := by decide +kernel
theorem d_Nm_kind_18 : decode c_Nm_kind 18 = .ok (.ifCond .ne 6, 3) := by decide +kernel
theorem d_Nm_kind_21 : decode c_Nm_kind 21 = .ok (.ldc 137, 2) := by decide +kernel
theorem d_Nm_kind_23 : decode c_Nm_kind 23 = .ok (.ireturn, 1) := by decide +kernel
theorem d_Nm_kind_24 : decode c_Nm_kind 24 = .ok (.aload_n 0, 1) := by decide +kernel
theorem d_Nm_kind_25 : decode c_Nm_kind 25 = .ok (.getfield 10, 3) := by decide +kernel
theorem d_Nm_kind_28 : decode c_Nm_kind 28 = .ok (.getfield 147, 3) := by decide +kernel
theorem d_Nm_kind_31 : decode c_Nm_kind 31 = .ok (.iload_n 1, 1) := by decide +kernel
theorem d_Nm_kind_32 : decode c_Nm_kind 32 = .ok (.iaload, 1) := by decide +kernel
theorem d_Nm_kind_33 : decode c_Nm_kind 33 = .ok (.istore_n 3, 1) := by decide +kernel
theorem d_Nm_kind_34 : decode c_Nm_kind 34 = .ok (.aload_n 0, 1) := by decide +kernel
theorem d_Nm_kind_35 : decode c_Nm_kind 35 = .ok (.getfield 19, 3) := by decide +kernel
theorem d_Nm_kind_38 : decode c_Nm_kind 38 = .ok (.aload_n 0, 1) := by decide +kernel
theorem d_Nm_kind_39 : decode c_Nm_kind 39 = .ok (.getfield 10, 3) := by decide +kernel
theorem d_Nm_kind_42 : decode c_Nm_kind 42 = .ok (.invokevirtual 174, 3) := by decide +kernel
theorem d_Nm_kind_45 : decode c_Nm_kind 45 = .ok (.aload_n 0, 1) := by decide +kernel
theorem d_Nm_kind_46 : decode c_Nm_kind 46 = .ok (.getfield 10, 3) := by decide +kernel
theorem d_Nm_kind_49 : decode c_Nm_kind 49 = .ok (.getfield 147, 3) := by decide +kernel
theorem d_Nm_kind_52 : decode c_Nm_kind 52 = .ok (.iload_n 1, 1) := by decide +kernel
theorem d_Nm_kind_53 : decode c_Nm_kind 53 = .ok (.iload_n 2, 1) := by decide +kernel
theorem d_Nm_kind_54 : decode c_Nm_kind 54 = .ok (.iastore, 1) := by decide +kernel
theorem d_Nm_kind_55 : decode c_Nm_kind 55 = .ok (.iload_n 3, 1) := by decide +kernel
theorem d_Nm_kind_56 : decode c_Nm_kind 56 = .ok (.ireturn, 1) := by decide +kernel
theorem d_Nm_drift_0 : decode c_Nm_drift 0 = .ok (.iload_n 1, 1) := by decide +kernel
theorem d_Nm_drift_1 : decode c_Nm_drift 1 = .ok (.iconst 1, 1) := by decide +kernel
theorem d_Nm_drift_2 : decode c_Nm_drift 2 = .ok (.if_icmp .lt 9, 3) := by decide +kernel
theorem d_Nm_drift_5 : decode c_Nm_drift 5 = .ok (.iload_n 1, 1) := by decide +kernel
theorem d_Nm_drift_6 : decode c_Nm_drift 6 = .ok (.bipush 20, 2) := by decide +kernel
theorem d_Nm_drift_8 : decode c_Nm_drift 8 = .ok (.if_icmp .le 6, 3) := by decide +kernel
theorem d_Nm_drift_11 : decode c_Nm_drift 11 = .ok (.ldc 137, 2) := by decide +kernel
theorem d_Nm_drift_13 : decode c_Nm_drift 13 = .ok (.ireturn, 1) := by decide +kernel
theorem d_Nm_drift_14 : decode c_Nm_drift 14 = .ok (.iconst 0, 1) := by decide +kernel
theorem d_Nm_drift_15 : decode c_Nm_drift 15 = .ok (.istore_n 2, 1) := by decide +kernel
theorem d_Nm_drift_16 : decode c_Nm_drift 16 = .ok (.iload_n 2, 1) := by decide +kernel
theorem d_Nm_drift_17 : decode c_Nm_drift 17 = .ok (.iload_n 1, 1) := by decide +kernel
theorem d_Nm_drift_18 : decode c_Nm_drift 18 = .ok (.if_icmp .ge 28, 3) := by decide +kernel
theorem d_Nm_drift_21 : decode c_Nm_drift 21 = .ok (.aload_n 0, 1) := by decide +kernel
theorem d_Nm_drift_22 : decode c_Nm_drift 22 = .ok (.getfield 19, 3) := by decide +kernel
theorem d_Nm_drift_25 : decode c_Nm_drift 25 = .ok (.aload_n 0, 1) := by decide +kernel
theorem d_Nm_drift_26 : decode c_Nm_drift 26 = .ok (.getfield 10, 3) := by decide +kernel
theorem d_Nm_drift_29 : decode c_Nm_drift 29 = .ok (.invokevirtual 174, 3) := by decide +kernel
theorem d_Nm_drift_32 : decode c_Nm_drift 32 = .ok (.aload_n 0, 1) := by decide +kernel
theorem d_Nm_drift_33 : decode c_Nm_drift 33 = .ok (.invokevirtual 206, 3) := by decide +kernel
theorem d_Nm_drift_36 : decode c_Nm_drift 36 = .ok (.aload_n 0, 1) := by decide +kernel
theorem d_Nm_drift_37 : decode c_Nm_drift 37 = .ok (.invokevirtual 209, 3) := by decide +kernel
theorem d_Nm_drift_40 : decode c_Nm_drift 40 = .ok (.iinc 2 1, 3) := by decide +kernel
theorem d_Nm_drift_43 : decode c_Nm_drift 43 = .ok (.goto (-27), 3) := by decide +kernel
theorem d_Nm_drift_46 : decode c_Nm_drift 46 = .ok (.aload_n 0, 1) := by decide +kernel
theorem d_Nm_drift_47 : decode c_Nm_drift 47 = .ok (.getfield 10, 3) := by decide +kernel
theorem d_Nm_drift_50 : decode c_Nm_drift 50 = .ok (.getfield 83, 3) := by decide +kernel
theorem d_Nm_drift_53 : decode c_Nm_drift 53 = .ok (.ireturn, 1) := by decide +kernel
theorem d_Nm_undo_0 : decode c_Nm_undo 0 = .ok (.iload_n 1, 1) := by decide +kernel
theorem d_Nm_undo_1 : decode c_Nm_undo 1 = .ok (.iconst 1, 1) := by decide +kernel
theorem d_Nm_undo_2 : decode c_Nm_undo 2 = .ok (.if_icmp .lt 9, 3) := by decide +kernel
theorem d_Nm_undo_5 : decode c_Nm_undo 5 = .ok (.iload_n 1, 1) := by decide +kernel
theorem d_Nm_undo_6 : decode c_Nm_undo 6 = .ok (.bipush 20, 2) := by decide +kernel
theorem d_Nm_undo_8 : decode c_Nm_undo 8 = .ok (.if_icmp .le 6, 3) := by decide +kernel
theorem d_Nm_undo_11 : decode c_Nm_undo 11 = .ok (.ldc 137, 2) := by decide +kernel
theorem d_Nm_undo_13 : decode c_Nm_undo 13 = .ok (.ireturn, 1) := by decide +kernel
theorem d_Nm_undo_14 : decode c_Nm_undo 14 = .ok (.iload_n 1, 1) := by decide +kernel
theorem d_Nm_undo_15 : decode c_Nm_undo 15 = .ok (.aload_n 0, 1) := by decide +kernel
theorem d_Nm_undo_16 : decode c_Nm_undo 16 = .ok (.getfield 19, 3) := by decide +kernel
theorem d_Nm_undo_19 : decode c_Nm_undo 19 = .ok (.getfield 136, 3) := by decide +kernel
theorem d_Nm_undo_22 : decode c_Nm_undo 22 = .ok (.if_icmp .le 6, 3) := by decide +kernel
theorem d_Nm_undo_25 : decode c_Nm_undo 25 = .ok (.ldc 197, 2) := by decide +kernel
theorem d_Nm_undo_27 : decode c_Nm_undo 27 = .ok (.ireturn, 1) := by decide +kernel
theorem d_Nm_undo_28 : decode c_Nm_undo 28 = .ok (.aload_n 0, 1) := by decide +kernel
theorem d_Nm_undo_29 : decode c_Nm_undo 29 = .ok (.getfield 19, 3) := by decide +kernel
theorem d_Nm_undo_32 : decode c_Nm_undo 32 = .ok (.iload_n 1, 1) := by decide +kernel
theorem d_Nm_undo_33 : decode c_Nm_undo 33 = .ok (.aload_n 0, 1) := by decide +kernel
theorem d_Nm_undo_34 : decode c_Nm_undo 34 = .ok (.getfield 10, 3) := by decide +kernel
theorem d_Nm_undo_37 : decode c_Nm_undo 37 = .ok (.invokevirtual 212, 3) := by decide +kernel
theorem d_Nm_undo_40 : decode c_Nm_undo 40 = .ok (.aload_n 0, 1) := by decide +kernel
theorem d_Nm_undo_41 : decode c_Nm_undo 41 = .ok (.getfield 33, 3) := by decide +kernel
theorem d_Nm_undo_44 : decode c_Nm_undo 44 = .ok (.aload_n 0, 1) := by decide +kernel
theorem d_Nm_undo_45 : decode c_Nm_undo 45 = .ok (.getfield 10, 3) := by decide +kernel
theorem d_Nm_undo_48 : decode c_Nm_undo 48 = .ok (.getfield 37, 3) := by decide +kernel
theorem d_Nm_undo_51 : decode c_Nm_undo 51 = .ok (.invokevirtual 41, 3) := by decide +kernel
theorem d_Nm_undo_54 : decode c_Nm_undo 54 = .ok (.aload_n 0, 1) := by decide +kernel
theorem d_Nm_undo_55 : decode c_Nm_undo 55 = .ok (.getfield 10, 3) := by decide +kernel
theorem d_Nm_undo_58 : decode c_Nm_undo 58 = .ok (.getfield 83, 3) := by decide +kernel
theorem d_Nm_undo_61 : decode c_Nm_undo 61 = .ok (.ireturn, 1) := by decide +kernel
theorem d_Nm_isKind_0 : decode c_Nm_isKind 0 = .ok (.iload_n 0, 1) := by decide +kernel
theorem d_Nm_isKind_1 : decode c_Nm_isKind 1 = .ok (.ifCond .lt 12, 3) := by decide +kernel
theorem d_Nm_isKind_4 : decode c_Nm_isKind 4 = .ok (.iload_n 0, 1) := by decide +kernel
theorem d_Nm_isKind_5 : decode c_Nm_isKind 5 = .ok (.iconst 2, 1) := by decide +kernel
theorem d_Nm_isKind_6 : decode c_Nm_isKind 6 = .ok (.if_icmp .gt 7, 3) := by decide +kernel
theorem d_Nm_isKind_9 : decode c_Nm_isKind 9 = .ok (.iconst 1, 1) := by decide +kernel
theorem d_Nm_isKind_10 : decode c_Nm_isKind 10 = .ok (.goto 4, 3) := by decide +kernel
theorem d_Nm_isKind_13 : decode c_Nm_isKind 13 = .ok (.iconst 0, 1) := by decide +kernel
theorem d_Nm_isKind_14 : decode c_Nm_isKind 14 = .ok (.ireturn, 1) := by decide +kernel
theorem d_Nm_changeHandByDraws_0 : decode c_Nm_changeHandByDraws 0 = .ok (.aload_n 0, 1) := by decide +kernel
theorem d_Nm_changeHandByDraws_1 : decode c_Nm_changeHandByDraws 1 = .ok (.getfield 79, 3) := by decide +kernel
theorem d_Nm_changeHandByDraws_4 : decode c_Nm_changeHandByDraws 4 = .ok (.iconst 4, 1) := by decide +kernel
theorem d_Nm_changeHandByDraws_5 : decode c_Nm_changeHandByDraws 5 = .ok (.invokevirtual 216, 3) := by decide +kernel
theorem d_Nm_changeHandByDraws_8 : decode c_Nm_changeHandByDraws 8 = .ok (.istore_n 1, 1) := by decide +kernel
theorem d_Nm_changeHandByDraws_9 : decode c_Nm_changeHandByDraws 9 = .ok (.iload_n 1, 1) := by decide +kernel
theorem d_Nm_changeHandByDraws_10 : decode c_Nm_changeHandByDraws 10 = .ok (.ifCond .ne 36, 3) := by decide +kernel
theorem d_Nm_changeHandByDraws_13 : decode c_Nm_changeHandByDraws 13 = .ok (.aload_n 0, 1) := by decide +kernel
theorem d_Nm_changeHandByDraws_14 : decode c_Nm_changeHandByDraws 14 = .ok (.getfield 79, 3) := by decide +kernel
theorem d_Nm_changeHandByDraws_17 : decode c_Nm_changeHandByDraws 17 = .ok (.bipush 64, 2) := by decide +kernel
theorem d_Nm_changeHandByDraws_19 : decode c_Nm_changeHandByDraws 19 = .ok (.invokevirtual 216, 3) := by decide +kernel
theorem d_Nm_changeHandByDraws_22 : decode c_Nm_changeHandByDraws 22 = .ok (.pop, 1) := by decide +kernel
theorem d_Nm_changeHandByDraws_23 : decode c_Nm_changeHandByDraws 23 = .ok (.aload_n 0, 1) := by decide +kernel
theorem d_Nm_changeHandByDraws_24 : decode c_Nm_changeHandByDraws 24 = .ok (.getfield 10, 3) := by decide +kernel
theorem d_Nm_changeHandByDraws_27 : decode c_Nm_changeHandByDraws 27 = .ok (.aload_n 0, 1) := by decide +kernel
theorem d_Nm_changeHandByDraws_28 : decode c_Nm_changeHandByDraws 28 = .ok (.getfield 79, 3) := by decide +kernel
theorem d_Nm_changeHandByDraws_31 : decode c_Nm_changeHandByDraws 31 = .ok (.sipush 256, 3) := by decide +kernel
theorem d_Nm_changeHandByDraws_34 : decode c_Nm_changeHandByDraws 34 = .ok (.invokevirtual 216, 3) := by decide +kernel
theorem d_Nm_changeHandByDraws_37 : decode c_Nm_changeHandByDraws 37 = .ok (.invokestatic 219, 3) := by decide +kernel
theorem d_Nm_changeHandByDraws_40 : decode c_Nm_changeHandByDraws 40 = .ok (.putfield 88, 3) := by decide +kernel
theorem d_Nm_changeHandByDraws_43 : decode c_Nm_changeHandByDraws 43 = .ok (.goto 31, 3) := by decide +kernel
theorem d_Nm_changeHandByDraws_46 : decode c_Nm_changeHandByDraws 46 = .ok (.iload_n 1, 1) := by decide +kernel
theorem d_Nm_changeHandByDraws_47 : decode c_Nm_changeHandByDraws 47 = .ok (.iconst 3, 1) := by decide +kernel
theorem d_Nm_changeHandByDraws_48 : decode c_Nm_changeHandByDraws 48 = .ok (.if_icmp .ge 26, 3) := by decide +kernel
theorem d_Nm_changeHandByDraws_51 : decode c_Nm_changeHandByDraws 51 = .ok (.aload_n 0, 1) := by decide +kernel
theorem d_Nm_changeHandByDraws_52 : decode c_Nm_changeHandByDraws 52 = .ok (.getfield 10, 3) := by decide +kernel
theorem d_Nm_changeHandByDraws_55 : decode c_Nm_changeHandByDraws 55 = .ok (.dup, 1) := by decide +kernel
theorem d_Nm_changeHandByDraws_56 : decode c_Nm_changeHandByDraws 56 = .ok (.getfield 88, 3) := by decide +kernel
theorem d_Nm_changeHandByDraws_59 : decode c_Nm_changeHandByDraws 59 = .ok (.lconst 1, 1) := by decide +kernel
theorem d_Nm_changeHandByDraws_60 : decode c_Nm_changeHandByDraws 60 = .ok (.aload_n 0, 1) := by decide +kernel
theorem d_Nm_changeHandByDraws_61 : decode c_Nm_changeHandByDraws 61 = .ok (.getfield 79, 3) := by decide +kernel
theorem d_Nm_changeHandByDraws_64 : decode c_Nm_changeHandByDraws 64 = .ok (.bipush 64, 2) := by decide +kernel
theorem d_Nm_changeHandByDraws_66 : decode c_Nm_changeHandByDraws 66 = .ok (.invokevirtual 216, 3) := by decide +kernel
theorem d_Nm_changeHandByDraws_69 : decode c_Nm_changeHandByDraws 69 = .ok (.lshl, 1) := by decide +kernel
theorem d_Nm_changeHandByDraws_70 : decode c_Nm_changeHandByDraws 70 = .ok (.lxor, 1) := by decide +kernel
theorem d_Nm_changeHandByDraws_71 : decode c_Nm_changeHandByDraws 71 = .ok (.putfield 88, 3) := by decide +kernel
theorem d_Nm_changeHandByDraws_74 : decode c_Nm_changeHandByDraws 74 = .ok (.return_, 1) := by decide +kernel
theorem d_Nm_putIfUnlikeAll_0 : decode c_Nm_putIfUnlikeAll 0 = .ok (.aload_n 0, 1) := by decide +kernel
theorem d_Nm_putIfUnlikeAll_1 : decode c_Nm_putIfUnlikeAll 1 = .ok (.getfield 10, 3) := by decide +kernel
theorem d_Nm_putIfUnlikeAll_4 : decode c_Nm_putIfUnlikeAll 4 = .ok (.getfield 83, 3) := by decide +kernel
theorem d_Nm_putIfUnlikeAll_7 : decode c_Nm_putIfUnlikeAll 7 = .ok (.bipush 40, 2) := by decide +kernel
theorem d_Nm_putIfUnlikeAll_9 : decode c_Nm_putIfUnlikeAll 9 = .ok (.if_icmp .ge 29, 3) := by decide +kernel
theorem d_Nm_putIfUnlikeAll_12 : decode c_Nm_putIfUnlikeAll 12 = .ok (.aload_n 0, 1) := by decide +kernel
theorem d_Nm_putIfUnlikeAll_13 : decode c_Nm_putIfUnlikeAll 13 = .ok (.getfield 10, 3) := by decide +kernel
theorem d_Nm_putIfUnlikeAll_16 : decode c_Nm_putIfUnlikeAll 16 = .ok (.aload_n 0, 1) := by decide +kernel
theorem d_Nm_putIfUnlikeAll_17 : decode c_Nm_putIfUnlikeAll 17 = .ok (.getfield 10, 3) := by decide +kernel
theorem d_Nm_putIfUnlikeAll_20 : decode c_Nm_putIfUnlikeAll 20 = .ok (.getfield 88, 3) := by decide +kernel
theorem d_Nm_putIfUnlikeAll_23 : decode c_Nm_putIfUnlikeAll 23 = .ok (.invokevirtual 97, 3) := by decide +kernel
theorem d_Nm_putIfUnlikeAll_26 : decode c_Nm_putIfUnlikeAll 26 = .ok (.iconst (-1), 1) := by decide +kernel
theorem d_Nm_putIfUnlikeAll_27 : decode c_Nm_putIfUnlikeAll 27 = .ok (.if_icmp .ne 11, 3) := by decide +kernel
theorem d_Nm_putIfUnlikeAll_30 : decode c_Nm_putIfUnlikeAll 30 = .ok (.aload_n 0, 1) := by decide +kernel
theorem d_Nm_putIfUnlikeAll_31 : decode c_Nm_putIfUnlikeAll 31 = .ok (.getfield 10, 3) := by decide +kernel
theorem d_Nm_putIfUnlikeAll_34 : decode c_Nm_putIfUnlikeAll 34 = .ok (.iconst 0, 1) := by decide +kernel
theorem d_Nm_putIfUnlikeAll_35 : decode c_Nm_putIfUnlikeAll 35 = .ok (.invokevirtual 199, 3) := by decide +kernel
theorem d_Nm_putIfUnlikeAll_38 : decode c_Nm_putIfUnlikeAll 38 = .ok (.return_, 1) := by decide +kernel
theorem d_Nm_near_0 : decode c_Nm_near 0 = .ok (.iload_n 1, 1) := by decide +kernel
theorem d_Nm_near_1 : decode c_Nm_near 1 = .ok (.invokestatic 223, 3) := by decide +kernel
theorem d_Nm_near_4 : decode c_Nm_near 4 = .ok (.ifCond .ne 5, 3) := by decide +kernel
theorem d_Nm_near_7 : decode c_Nm_near 7 = .ok (.lconst 0, 1) := by decide +kernel
theorem d_Nm_near_8 : decode c_Nm_near 8 = .ok (.lreturn, 1) := by decide +kernel
theorem d_Nm_near_9 : decode c_Nm_near 9 = .ok (.lconst 0, 1) := by decide +kernel
theorem d_Nm_near_10 : decode c_Nm_near 10 = .ok (.lstore_n 2, 1) := by decide +kernel
theorem d_Nm_near_11 : decode c_Nm_near 11 = .ok (.iconst 0, 1) := by decide +kernel
theorem d_Nm_near_12 : decode c_Nm_near 12 = .ok (.istore 4, 2) := by decide +kernel
theorem d_Nm_near_14 : decode c_Nm_near 14 = .ok (.iload 4, 2) := by decide +kernel
theorem d_Nm_near_16 : decode c_Nm_near 16 = .ok (.aload_n 0, 1) := by decide +kernel
theorem d_Nm_near_17 : decode c_Nm_near 17 = .ok (.getfield 10, 3) := by decide +kernel
theorem d_Nm_near_20 : decode c_Nm_near 20 = .ok (.getfield 83, 3) := by decide +kernel
theorem d_Nm_near_23 : decode c_Nm_near 23 = .ok (.if_icmp .ge 26, 3) := by decide +kernel
theorem d_Nm_near_26 : decode c_Nm_near 26 = .ok (.aload_n 0, 1) := by decide +kernel
theorem d_Nm_near_27 : decode c_Nm_near 27 = .ok (.iload 4, 2) := by decide +kernel
theorem d_Nm_near_29 : decode c_Nm_near 29 = .ok (.iload_n 1, 1) := by decide +kernel
theorem d_Nm_near_30 : decode c_Nm_near 30 = .ok (.invokevirtual 226, 3) := by decide +kernel
theorem d_Nm_near_33 : decode c_Nm_near 33 = .ok (.ifCond .eq 10, 3) := by decide +kernel
theorem d_Nm_near_36 : decode c_Nm_near 36 = .ok (.lload_n 2, 1) := by decide +kernel
theorem d_Nm_near_37 : decode c_Nm_near 37 = .ok (.lconst 1, 1) := by decide +kernel
theorem d_Nm_near_38 : decode c_Nm_near 38 = .ok (.iload 4, 2) := by decide +kernel
theorem d_Nm_near_40 : decode c_Nm_near 40 = .ok (.lshl, 1) := by decide +kernel
theorem d_Nm_near_41 : decode c_Nm_near 41 = .ok (.lor, 1) := by decide +kernel
theorem d_Nm_near_42 : decode c_Nm_near 42 = .ok (.lstore_n 2, 1) := by decide +kernel
theorem d_Nm_near_43 : decode c_Nm_near 43 = .ok (.iinc 4 1, 3) := by decide +kernel
theorem d_Nm_near_46 : decode c_Nm_near 46 = .ok (.goto (-32), 3) := by decide +kernel
theorem d_Nm_near_49 : decode c_Nm_near 49 = .ok (.lload_n 2, 1) := by decide +kernel
theorem d_Nm_near_50 : decode c_Nm_near 50 = .ok (.lreturn, 1) := by decide +kernel
theorem d_Nm_nearest_0 : decode c_Nm_nearest 0 = .ok (.aload_n 0, 1) := by decide +kernel
theorem d_Nm_nearest_1 : decode c_Nm_nearest 1 = .ok (.getfield 10, 3) := by decide +kernel
theorem d_Nm_nearest_4 : decode c_Nm_nearest 4 = .ok (.iload_n 1, 1) := by decide +kernel
theorem d_Nm_nearest_5 : decode c_Nm_nearest 5 = .ok (.invokevirtual 108, 3) := by decide +kernel
theorem d_Nm_nearest_8 : decode c_Nm_nearest 8 = .ok (.ireturn, 1) := by decide +kernel
theorem d_Nm_apart_0 : decode c_Nm_apart 0 = .ok (.aload_n 0, 1) := by decide +kernel
theorem d_Nm_apart_1 : decode c_Nm_apart 1 = .ok (.getfield 10, 3) := by decide +kernel
theorem d_Nm_apart_4 : decode c_Nm_apart 4 = .ok (.iload_n 1, 1) := by decide +kernel
theorem d_Nm_apart_5 : decode c_Nm_apart 5 = .ok (.iload_n 2, 1) := by decide +kernel
theorem d_Nm_apart_6 : decode c_Nm_apart 6 = .ok (.invokevirtual 230, 3) := by decide +kernel
theorem d_Nm_apart_9 : decode c_Nm_apart 9 = .ok (.ifCond .eq 15, 3) := by decide +kernel
theorem d_Nm_apart_12 : decode c_Nm_apart 12 = .ok (.aload_n 0, 1) := by decide +kernel
theorem d_Nm_apart_13 : decode c_Nm_apart 13 = .ok (.getfield 10, 3) := by decide +kernel
theorem d_Nm_apart_16 : decode c_Nm_apart 16 = .ok (.iload_n 1, 1) := by decide +kernel
theorem d_Nm_apart_17 : decode c_Nm_apart 17 = .ok (.iload_n 2, 1) := by decide +kernel
theorem d_Nm_apart_18 : decode c_Nm_apart 18 = .ok (.invokevirtual 171, 3) := by decide +kernel
theorem d_Nm_apart_21 : decode c_Nm_apart 21 = .ok (.goto 5, 3) := by decide +kernel
theorem d_Nm_apart_24 : decode c_Nm_apart 24 = .ok (.ldc 146, 2) := by decide +kernel
theorem d_Nm_apart_26 : decode c_Nm_apart 26 = .ok (.ireturn, 1) := by decide +kernel
theorem d_Nm_groups_0 : decode c_Nm_groups 0 = .ok (.iload_n 1, 1) := by decide +kernel
theorem d_Nm_groups_1 : decode c_Nm_groups 1 = .ok (.invokestatic 223, 3) := by decide +kernel
theorem d_Nm_groups_4 : decode c_Nm_groups 4 = .ok (.ifCond .ne 6, 3) := by decide +kernel
theorem d_Nm_groups_7 : decode c_Nm_groups 7 = .ok (.ldc 137, 2) := by decide +kernel
theorem d_Nm_groups_9 : decode c_Nm_groups 9 = .ok (.ireturn, 1) := by decide +kernel
theorem d_Nm_groups_10 : decode c_Nm_groups 10 = .ok (.aload_n 0, 1) := by decide +kernel
theorem d_Nm_groups_11 : decode c_Nm_groups 11 = .ok (.getfield 51, 3) := by decide +kernel
theorem d_Nm_groups_14 : decode c_Nm_groups 14 = .ok (.aload_n 0, 1) := by decide +kernel
theorem d_Nm_groups_15 : decode c_Nm_groups 15 = .ok (.getfield 10, 3) := by decide +kernel
theorem d_Nm_groups_18 : decode c_Nm_groups 18 = .ok (.iload_n 1, 1) := by decide +kernel
theorem d_Nm_groups_19 : decode c_Nm_groups 19 = .ok (.invokevirtual 233, 3) := by decide +kernel
theorem d_Nm_groups_22 : decode c_Nm_groups 22 = .ok (.aload_n 0, 1) := by decide +kernel
theorem d_Nm_groups_23 : decode c_Nm_groups 23 = .ok (.getfield 51, 3) := by decide +kernel
theorem d_Nm_groups_26 : decode c_Nm_groups 26 = .ok (.getfield 237, 3) := by decide +kernel
theorem d_Nm_groups_29 : decode c_Nm_groups 29 = .ok (.ireturn, 1) := by decide +kernel
theorem d_Nm_group_0 : decode c_Nm_group 0 = .ok (.iload_n 1, 1) := by decide +kernel
theorem d_Nm_group_1 : decode c_Nm_group 1 = .ok (.invokestatic 223, 3) := by decide +kernel
theorem d_Nm_group_4 : decode c_Nm_group 4 = .ok (.ifCond .ne 6, 3) := by decide +kernel
theorem d_Nm_group_7 : decode c_Nm_group 7 = .ok (.ldc 137, 2) := by decide +kernel
theorem d_Nm_group_9 : decode c_Nm_group 9 = .ok (.ireturn, 1) := by decide +kernel
theorem d_Nm_group_10 : decode c_Nm_group 10 = .ok (.aload_n 0, 1) := by decide +kernel
theorem d_Nm_group_11 : decode c_Nm_group 11 = .ok (.getfield 51, 3) := by decide +kernel
theorem d_Nm_group_14 : decode c_Nm_group 14 = .ok (.aload_n 0, 1) := by decide +kernel
theorem d_Nm_group_15 : decode c_Nm_group 15 = .ok (.getfield 10, 3) := by decide +kernel
theorem d_Nm_group_18 : decode c_Nm_group 18 = .ok (.iload_n 1, 1) := by decide +kernel
theorem d_Nm_group_19 : decode c_Nm_group 19 = .ok (.invokevirtual 233, 3) := by decide +kernel
theorem d_Nm_group_22 : decode c_Nm_group 22 = .ok (.aload_n 0, 1) := by decide +kernel
theorem d_Nm_group_23 : decode c_Nm_group 23 = .ok (.getfield 51, 3) := by decide +kernel
theorem d_Nm_group_26 : decode c_Nm_group 26 = .ok (.iload_n 2, 1) := by decide +kernel
theorem d_Nm_group_27 : decode c_Nm_group 27 = .ok (.invokevirtual 238, 3) := by decide +kernel
theorem d_Nm_group_30 : decode c_Nm_group 30 = .ok (.ifCond .ne 6, 3) := by decide +kernel
theorem d_Nm_group_33 : decode c_Nm_group 33 = .ok (.ldc 146, 2) := by decide +kernel
theorem d_Nm_group_35 : decode c_Nm_group 35 = .ok (.ireturn, 1) := by decide +kernel
theorem d_Nm_group_36 : decode c_Nm_group 36 = .ok (.iload_n 3, 1) := by decide +kernel
theorem d_Nm_group_37 : decode c_Nm_group 37 = .ok (.tableswitch 70 0 2 #[27, 40, 53], 27) := by decide +kernel
theorem d_Nm_group_64 : decode c_Nm_group 64 = .ok (.aload_n 0, 1) := by decide +kernel
theorem d_Nm_group_65 : decode c_Nm_group 65 = .ok (.getfield 51, 3) := by decide +kernel
theorem d_Nm_group_68 : decode c_Nm_group 68 = .ok (.getfield 239, 3) := by decide +kernel
theorem d_Nm_group_71 : decode c_Nm_group 71 = .ok (.iload_n 2, 1) := by decide +kernel
theorem d_Nm_group_72 : decode c_Nm_group 72 = .ok (.laload, 1) := by decide +kernel
theorem d_Nm_group_73 : decode c_Nm_group 73 = .ok (.invokestatic 91, 3) := by decide +kernel
theorem d_Nm_group_76 : decode c_Nm_group 76 = .ok (.ireturn, 1) := by decide +kernel
theorem d_Nm_group_77 : decode c_Nm_group 77 = .ok (.aload_n 0, 1) := by decide +kernel
theorem d_Nm_group_78 : decode c_Nm_group 78 = .ok (.getfield 51, 3) := by decide +kernel
theorem d_Nm_group_81 : decode c_Nm_group 81 = .ok (.getfield 239, 3) := by decide +kernel
theorem d_Nm_group_84 : decode c_Nm_group 84 = .ok (.iload_n 2, 1) := by decide +kernel
theorem d_Nm_group_85 : decode c_Nm_group 85 = .ok (.laload, 1) := by decide +kernel
theorem d_Nm_group_86 : decode c_Nm_group 86 = .ok (.invokestatic 242, 3) := by decide +kernel
theorem d_Nm_group_89 : decode c_Nm_group 89 = .ok (.ireturn, 1) := by decide +kernel
theorem d_Nm_group_90 : decode c_Nm_group 90 = .ok (.aload_n 0, 1) := by decide +kernel
theorem d_Nm_group_91 : decode c_Nm_group 91 = .ok (.getfield 10, 3) := by decide +kernel
theorem d_Nm_group_94 : decode c_Nm_group 94 = .ok (.aload_n 0, 1) := by decide +kernel
theorem d_Nm_group_95 : decode c_Nm_group 95 = .ok (.getfield 51, 3) := by decide +kernel
theorem d_Nm_group_98 : decode c_Nm_group 98 = .ok (.getfield 239, 3) := by decide +kernel
theorem d_Nm_group_101 : decode c_Nm_group 101 = .ok (.iload_n 2, 1) := by decide +kernel
theorem d_Nm_group_102 : decode c_Nm_group 102 = .ok (.laload, 1) := by decide +kernel
theorem d_Nm_group_103 : decode c_Nm_group 103 = .ok (.invokevirtual 245, 3) := by decide +kernel
theorem d_Nm_group_106 : decode c_Nm_group 106 = .ok (.ireturn, 1) := by decide +kernel
theorem d_Nm_group_107 : decode c_Nm_group 107 = .ok (.ldc 137, 2) := by decide +kernel
theorem d_Nm_group_109 : decode c_Nm_group 109 = .ok (.ireturn, 1) := by decide +kernel
theorem d_Nm_middle_0 : decode c_Nm_middle 0 = .ok (.iload_n 1, 1) := by decide +kernel
theorem d_Nm_middle_1 : decode c_Nm_middle 1 = .ok (.invokestatic 223, 3) := by decide +kernel
theorem d_Nm_middle_4 : decode c_Nm_middle 4 = .ok (.ifCond .ne 5, 3) := by decide +kernel
theorem d_Nm_middle_7 : decode c_Nm_middle 7 = .ok (.lconst 0, 1) := by decide +kernel
theorem d_Nm_middle_8 : decode c_Nm_middle 8 = .ok (.lreturn, 1) := by decide +kernel
theorem d_Nm_middle_9 : decode c_Nm_middle 9 = .ok (.aload_n 0, 1) := by decide +kernel
theorem d_Nm_middle_10 : decode c_Nm_middle 10 = .ok (.getfield 51, 3) := by decide +kernel
theorem d_Nm_middle_13 : decode c_Nm_middle 13 = .ok (.aload_n 0, 1) := by decide +kernel
theorem d_Nm_middle_14 : decode c_Nm_middle 14 = .ok (.getfield 10, 3) := by decide +kernel
theorem d_Nm_middle_17 : decode c_Nm_middle 17 = .ok (.iload_n 1, 1) := by decide +kernel
theorem d_Nm_middle_18 : decode c_Nm_middle 18 = .ok (.invokevirtual 233, 3) := by decide +kernel
theorem d_Nm_middle_21 : decode c_Nm_middle 21 = .ok (.aload_n 0, 1) := by decide +kernel
theorem d_Nm_middle_22 : decode c_Nm_middle 22 = .ok (.getfield 51, 3) := by decide +kernel
theorem d_Nm_middle_25 : decode c_Nm_middle 25 = .ok (.iload_n 2, 1) := by decide +kernel
theorem d_Nm_middle_26 : decode c_Nm_middle 26 = .ok (.invokevirtual 238, 3) := by decide +kernel
theorem d_Nm_middle_29 : decode c_Nm_middle 29 = .ok (.ifCond .eq 26, 3) := by decide +kernel
theorem d_Nm_middle_32 : decode c_Nm_middle 32 = .ok (.aload_n 0, 1) := by decide +kernel
theorem d_Nm_middle_33 : decode c_Nm_middle 33 = .ok (.getfield 58, 3) := by decide +kernel
theorem d_Nm_middle_36 : decode c_Nm_middle 36 = .ok (.aload_n 0, 1) := by decide +kernel
theorem d_Nm_middle_37 : decode c_Nm_middle 37 = .ok (.getfield 10, 3) := by decide +kernel
theorem d_Nm_middle_40 : decode c_Nm_middle 40 = .ok (.aload_n 0, 1) := by decide +kernel
theorem d_Nm_middle_41 : decode c_Nm_middle 41 = .ok (.getfield 51, 3) := by decide +kernel
theorem d_Nm_middle_44 : decode c_Nm_middle 44 = .ok (.getfield 239, 3) := by decide +kernel
theorem d_Nm_middle_47 : decode c_Nm_middle 47 = .ok (.iload_n 2, 1) := by decide +kernel
theorem d_Nm_middle_48 : decode c_Nm_middle 48 = .ok (.laload, 1) := by decide +kernel
theorem d_Nm_middle_49 : decode c_Nm_middle 49 = .ok (.invokevirtual 248, 3) := by decide +kernel
theorem d_Nm_middle_52 : decode c_Nm_middle 52 = .ok (.goto 4, 3) := by decide +kernel
theorem d_Nm_middle_55 : decode c_Nm_middle 55 = .ok (.lconst 0, 1) := by decide +kernel
theorem d_Nm_middle_56 : decode c_Nm_middle 56 = .ok (.lreturn, 1) := by decide +kernel
theorem d_Nm_fewest_0 : decode c_Nm_fewest 0 = .ok (.iload_n 1, 1) := by decide +kernel
theorem d_Nm_fewest_1 : decode c_Nm_fewest 1 = .ok (.iconst 1, 1) := by decide +kernel
theorem d_Nm_fewest_2 : decode c_Nm_fewest 2 = .ok (.if_icmp .lt 18, 3) := by decide +kernel
theorem d_Nm_fewest_5 : decode c_Nm_fewest 5 = .ok (.iload_n 1, 1) := by decide +kernel
theorem d_Nm_fewest_6 : decode c_Nm_fewest 6 = .ok (.bipush 8, 2) := by decide +kernel
theorem d_Nm_fewest_8 : decode c_Nm_fewest 8 = .ok (.if_icmp .gt 12, 3) := by decide +kernel
theorem d_Nm_fewest_11 : decode c_Nm_fewest 11 = .ok (.iload_n 2, 1) := by decide +kernel
theorem d_Nm_fewest_12 : decode c_Nm_fewest 12 = .ok (.ifCond .lt 8, 3) := by decide +kernel
theorem d_Nm_fewest_15 : decode c_Nm_fewest 15 = .ok (.iload_n 2, 1) := by decide +kernel
theorem d_Nm_fewest_16 : decode c_Nm_fewest 16 = .ok (.iconst 1, 1) := by decide +kernel
theorem d_Nm_fewest_17 : decode c_Nm_fewest 17 = .ok (.if_icmp .le 6, 3) := by decide +kernel
theorem d_Nm_fewest_20 : decode c_Nm_fewest 20 = .ok (.ldc 137, 2) := by decide +kernel
theorem d_Nm_fewest_22 : decode c_Nm_fewest 22 = .ok (.ireturn, 1) := by decide +kernel
theorem d_Nm_fewest_23 : decode c_Nm_fewest 23 = .ok (.iconst 0, 1) := by decide +kernel
theorem d_Nm_fewest_24 : decode c_Nm_fewest 24 = .ok (.istore_n 3, 1) := by decide +kernel
theorem d_Nm_fewest_25 : decode c_Nm_fewest 25 = .ok (.iconst (-1), 1) := by decide +kernel
theorem d_Nm_fewest_26 : decode c_Nm_fewest 26 = .ok (.istore 4, 2) := by decide +kernel
theorem d_Nm_fewest_28 : decode c_Nm_fewest 28 = .ok (.iconst 0, 1) := by decide +kernel
theorem d_Nm_fewest_29 : decode c_Nm_fewest 29 = .ok (.istore 5, 2) := by decide +kernel
theorem d_Nm_fewest_31 : decode c_Nm_fewest 31 = .ok (.iload 5, 2) := by decide +kernel
theorem d_Nm_fewest_33 : decode c_Nm_fewest 33 = .ok (.iconst 3, 1) := by decide +kernel
theorem d_Nm_fewest_34 : decode c_Nm_fewest 34 = .ok (.if_icmp .ge 48, 3) := by decide +kernel
theorem d_Nm_fewest_37 : decode c_Nm_fewest 37 = .ok (.aload_n 0, 1) := by decide +kernel
theorem d_Nm_fewest_38 : decode c_Nm_fewest 38 = .ok (.getfield 45, 3) := by decide +kernel
theorem d_Nm_fewest_41 : decode c_Nm_fewest 41 = .ok (.iload_n 1, 1) := by decide +kernel
theorem d_Nm_fewest_42 : decode c_Nm_fewest 42 = .ok (.iload 5, 2) := by decide +kernel
theorem d_Nm_fewest_44 : decode c_Nm_fewest 44 = .ok (.invokevirtual 252, 3) := by decide +kernel
theorem d_Nm_fewest_47 : decode c_Nm_fewest 47 = .ok (.aload_n 0, 1) := by decide +kernel
theorem d_Nm_fewest_48 : decode c_Nm_fewest 48 = .ok (.aload_n 0, 1) := by decide +kernel
theorem d_Nm_fewest_49 : decode c_Nm_fewest 49 = .ok (.getfield 45, 3) := by decide +kernel
theorem d_Nm_fewest_52 : decode c_Nm_fewest 52 = .ok (.invokevirtual 256, 3) := by decide +kernel
theorem d_Nm_fewest_55 : decode c_Nm_fewest 55 = .ok (.istore 6, 2) := by decide +kernel
theorem d_Nm_fewest_57 : decode c_Nm_fewest 57 = .ok (.iload 4, 2) := by decide +kernel
theorem d_Nm_fewest_59 : decode c_Nm_fewest 59 = .ok (.iconst (-1), 1) := by decide +kernel
theorem d_Nm_fewest_60 : decode c_Nm_fewest 60 = .ok (.if_icmp .eq 9, 3) := by decide +kernel
theorem d_Nm_fewest_63 : decode c_Nm_fewest 63 = .ok (.iload 6, 2) := by decide +kernel
theorem d_Nm_fewest_65 : decode c_Nm_fewest 65 = .ok (.iload_n 3, 1) := by decide +kernel
theorem d_Nm_fewest_66 : decode c_Nm_fewest 66 = .ok (.if_icmp .ge 10, 3) := by decide +kernel
theorem d_Nm_fewest_69 : decode c_Nm_fewest 69 = .ok (.iload 6, 2) := by decide +kernel
theorem d_Nm_fewest_71 : decode c_Nm_fewest 71 = .ok (.istore_n 3, 1) := by decide +kernel
theorem d_Nm_fewest_72 : decode c_Nm_fewest 72 = .ok (.iload 5, 2) := by decide +kernel
theorem d_Nm_fewest_74 : decode c_Nm_fewest 74 = .ok (.istore 4, 2) := by decide +kernel
theorem d_Nm_fewest_76 : decode c_Nm_fewest 76 = .ok (.iinc 5 1, 3) := by decide +kernel
theorem d_Nm_fewest_79 : decode c_Nm_fewest 79 = .ok (.goto (-48), 3) := by decide +kernel
theorem d_Nm_fewest_82 : decode c_Nm_fewest 82 = .ok (.iload_n 2, 1) := by decide +kernel
theorem d_Nm_fewest_83 : decode c_Nm_fewest 83 = .ok (.ifCond .ne 7, 3) := by decide +kernel
theorem d_Nm_fewest_86 : decode c_Nm_fewest 86 = .ok (.iload_n 3, 1) := by decide +kernel
theorem d_Nm_fewest_87 : decode c_Nm_fewest 87 = .ok (.goto 5, 3) := by decide +kernel
theorem d_Nm_fewest_90 : decode c_Nm_fewest 90 = .ok (.iload 4, 2) := by decide +kernel
theorem d_Nm_fewest_92 : decode c_Nm_fewest 92 = .ok (.ireturn, 1) := by decide +kernel
theorem d_Nm_isDistance_0 : decode c_Nm_isDistance 0 = .ok (.iload_n 0, 1) := by decide +kernel
theorem d_Nm_isDistance_1 : decode c_Nm_isDistance 1 = .ok (.ifCond .lt 13, 3) := by decide +kernel
theorem d_Nm_isDistance_4 : decode c_Nm_isDistance 4 = .ok (.iload_n 0, 1) := by decide +kernel
theorem d_Nm_isDistance_5 : decode c_Nm_isDistance 5 = .ok (.bipush 64, 2) := by decide +kernel
theorem d_Nm_isDistance_7 : decode c_Nm_isDistance 7 = .ok (.if_icmp .gt 7, 3) := by decide +kernel
theorem d_Nm_isDistance_10 : decode c_Nm_isDistance 10 = .ok (.iconst 1, 1) := by decide +kernel
theorem d_Nm_isDistance_11 : decode c_Nm_isDistance 11 = .ok (.goto 4, 3) := by decide +kernel
theorem d_Nm_isDistance_14 : decode c_Nm_isDistance 14 = .ok (.iconst 0, 1) := by decide +kernel
theorem d_Nm_isDistance_15 : decode c_Nm_isDistance 15 = .ok (.ireturn, 1) := by decide +kernel
theorem d_Nm_isNear_0 : decode c_Nm_isNear 0 = .ok (.aload_n 0, 1) := by decide +kernel
theorem d_Nm_isNear_1 : decode c_Nm_isNear 1 = .ok (.getfield 10, 3) := by decide +kernel
theorem d_Nm_isNear_4 : decode c_Nm_isNear 4 = .ok (.iload_n 1, 1) := by decide +kernel
theorem d_Nm_isNear_5 : decode c_Nm_isNear 5 = .ok (.invokevirtual 151, 3) := by decide +kernel
theorem d_Nm_isNear_8 : decode c_Nm_isNear 8 = .ok (.istore_n 3, 1) := by decide +kernel
theorem d_Nm_isNear_9 : decode c_Nm_isNear 9 = .ok (.iload_n 3, 1) := by decide +kernel
theorem d_Nm_isNear_10 : decode c_Nm_isNear 10 = .ok (.iload_n 2, 1) := by decide +kernel
theorem d_Nm_isNear_11 : decode c_Nm_isNear 11 = .ok (.if_icmp .gt 16, 3) := by decide +kernel
theorem d_Nm_isNear_14 : decode c_Nm_isNear 14 = .ok (.aload_n 0, 1) := by decide +kernel
theorem d_Nm_isNear_15 : decode c_Nm_isNear 15 = .ok (.getfield 10, 3) := by decide +kernel
theorem d_Nm_isNear_18 : decode c_Nm_isNear 18 = .ok (.getfield 147, 3) := by decide +kernel
theorem d_Nm_isNear_21 : decode c_Nm_isNear 21 = .ok (.iload_n 1, 1) := by decide +kernel
theorem d_Nm_isNear_22 : decode c_Nm_isNear 22 = .ok (.iaload, 1) := by decide +kernel
theorem d_Nm_isNear_23 : decode c_Nm_isNear 23 = .ok (.iconst 1, 1) := by decide +kernel
theorem d_Nm_isNear_24 : decode c_Nm_isNear 24 = .ok (.if_icmp .ne 5, 3) := by decide +kernel
theorem d_Nm_isNear_27 : decode c_Nm_isNear 27 = .ok (.iconst 0, 1) := by decide +kernel
theorem d_Nm_isNear_28 : decode c_Nm_isNear 28 = .ok (.ireturn, 1) := by decide +kernel
theorem d_Nm_isNear_29 : decode c_Nm_isNear 29 = .ok (.aload_n 0, 1) := by decide +kernel
theorem d_Nm_isNear_30 : decode c_Nm_isNear 30 = .ok (.getfield 10, 3) := by decide +kernel
theorem d_Nm_isNear_33 : decode c_Nm_isNear 33 = .ok (.getfield 147, 3) := by decide +kernel
theorem d_Nm_isNear_36 : decode c_Nm_isNear 36 = .ok (.iload_n 1, 1) := by decide +kernel
theorem d_Nm_isNear_37 : decode c_Nm_isNear 37 = .ok (.iaload, 1) := by decide +kernel
theorem d_Nm_isNear_38 : decode c_Nm_isNear 38 = .ok (.ifCond .eq 21, 3) := by decide +kernel
theorem d_Nm_isNear_41 : decode c_Nm_isNear 41 = .ok (.iload_n 2, 1) := by decide +kernel
theorem d_Nm_isNear_42 : decode c_Nm_isNear 42 = .ok (.aload_n 0, 1) := by decide +kernel
theorem d_Nm_isNear_43 : decode c_Nm_isNear 43 = .ok (.getfield 33, 3) := by decide +kernel
theorem d_Nm_isNear_46 : decode c_Nm_isNear 46 = .ok (.invokevirtual 104, 3) := by decide +kernel
theorem d_Nm_isNear_49 : decode c_Nm_isNear 49 = .ok (.if_icmp .ge 10, 3) := by decide +kernel
theorem d_Nm_isNear_52 : decode c_Nm_isNear 52 = .ok (.iload_n 3, 1) := by decide +kernel
theorem d_Nm_isNear_53 : decode c_Nm_isNear 53 = .ok (.iload_n 2, 1) := by decide +kernel
theorem d_Nm_isNear_54 : decode c_Nm_isNear 54 = .ok (.iconst 2, 1) := by decide +kernel
theorem d_Nm_isNear_55 : decode c_Nm_isNear 55 = .ok (.idiv, 1) := by decide +kernel
theorem d_Nm_isNear_56 : decode c_Nm_isNear 56 = .ok (.if_icmp .gt 7, 3) := by decide +kernel
theorem d_Nm_isNear_59 : decode c_Nm_isNear 59 = .ok (.iconst 1, 1) := by decide +kernel
theorem d_Nm_isNear_60 : decode c_Nm_isNear 60 = .ok (.goto 4, 3) := by decide +kernel
theorem d_Nm_isNear_63 : decode c_Nm_isNear 63 = .ok (.iconst 0, 1) := by decide +kernel
theorem d_Nm_isNear_64 : decode c_Nm_isNear 64 = .ok (.ireturn, 1) := by decide +kernel
theorem d_Nm_countAllLooks_0 : decode c_Nm_countAllLooks 0 = .ok (.iconst 0, 1) := by decide +kernel
theorem d_Nm_countAllLooks_1 : decode c_Nm_countAllLooks 1 = .ok (.istore_n 2, 1) := by decide +kernel
theorem d_Nm_countAllLooks_2 : decode c_Nm_countAllLooks 2 = .ok (.iconst 0, 1) := by decide +kernel
theorem d_Nm_countAllLooks_3 : decode c_Nm_countAllLooks 3 = .ok (.istore_n 3, 1) := by decide +kernel
theorem d_Nm_countAllLooks_4 : decode c_Nm_countAllLooks 4 = .ok (.iload_n 3, 1) := by decide +kernel
theorem d_Nm_countAllLooks_5 : decode c_Nm_countAllLooks 5 = .ok (.aload_n 0, 1) := by decide +kernel
theorem d_Nm_countAllLooks_6 : decode c_Nm_countAllLooks 6 = .ok (.getfield 10, 3) := by decide +kernel
theorem d_Nm_countAllLooks_9 : decode c_Nm_countAllLooks 9 = .ok (.getfield 83, 3) := by decide +kernel
theorem d_Nm_countAllLooks_12 : decode c_Nm_countAllLooks 12 = .ok (.if_icmp .ge 62, 3) := by decide +kernel
theorem d_Nm_countAllLooks_15 : decode c_Nm_countAllLooks 15 = .ok (.iload_n 3, 1) := by decide +kernel
theorem d_Nm_countAllLooks_16 : decode c_Nm_countAllLooks 16 = .ok (.iconst 1, 1) := by decide +kernel
theorem d_Nm_countAllLooks_17 : decode c_Nm_countAllLooks 17 = .ok (.iadd, 1) := by decide +kernel
theorem d_Nm_countAllLooks_18 : decode c_Nm_countAllLooks 18 = .ok (.istore 4, 2) := by decide +kernel
theorem d_Nm_countAllLooks_20 : decode c_Nm_countAllLooks 20 = .ok (.iload 4, 2) := by decide +kernel
theorem d_Nm_countAllLooks_22 : decode c_Nm_countAllLooks 22 = .ok (.aload_n 0, 1) := by decide +kernel
theorem d_Nm_countAllLooks_23 : decode c_Nm_countAllLooks 23 = .ok (.getfield 10, 3) := by decide +kernel
theorem d_Nm_countAllLooks_26 : decode c_Nm_countAllLooks 26 = .ok (.getfield 83, 3) := by decide +kernel
theorem d_Nm_countAllLooks_29 : decode c_Nm_countAllLooks 29 = .ok (.if_icmp .ge 39, 3) := by decide +kernel
theorem d_Nm_countAllLooks_32 : decode c_Nm_countAllLooks 32 = .ok (.aload_n 1, 1) := by decide +kernel
theorem d_Nm_countAllLooks_33 : decode c_Nm_countAllLooks 33 = .ok (.aload_n 0, 1) := by decide +kernel
theorem d_Nm_countAllLooks_34 : decode c_Nm_countAllLooks 34 = .ok (.getfield 10, 3) := by decide +kernel
theorem d_Nm_countAllLooks_37 : decode c_Nm_countAllLooks 37 = .ok (.getfield 142, 3) := by decide +kernel
theorem d_Nm_countAllLooks_40 : decode c_Nm_countAllLooks 40 = .ok (.iload_n 3, 1) := by decide +kernel
theorem d_Nm_countAllLooks_41 : decode c_Nm_countAllLooks 41 = .ok (.laload, 1) := by decide +kernel
theorem d_Nm_countAllLooks_42 : decode c_Nm_countAllLooks 42 = .ok (.aload_n 0, 1) := by decide +kernel
theorem d_Nm_countAllLooks_43 : decode c_Nm_countAllLooks 43 = .ok (.getfield 10, 3) := by decide +kernel
theorem d_Nm_countAllLooks_46 : decode c_Nm_countAllLooks 46 = .ok (.getfield 142, 3) := by decide +kernel
theorem d_Nm_countAllLooks_49 : decode c_Nm_countAllLooks 49 = .ok (.iload 4, 2) := by decide +kernel
theorem d_Nm_countAllLooks_51 : decode c_Nm_countAllLooks 51 = .ok (.laload, 1) := by decide +kernel
theorem d_Nm_countAllLooks_52 : decode c_Nm_countAllLooks 52 = .ok (.lxor, 1) := by decide +kernel
theorem d_Nm_countAllLooks_53 : decode c_Nm_countAllLooks 53 = .ok (.invokevirtual 158, 3) := by decide +kernel
theorem d_Nm_countAllLooks_56 : decode c_Nm_countAllLooks 56 = .ok (.ifCond .eq 6, 3) := by decide +kernel
theorem d_Nm_countAllLooks_59 : decode c_Nm_countAllLooks 59 = .ok (.iinc 2 1, 3) := by decide +kernel
theorem d_Nm_countAllLooks_62 : decode c_Nm_countAllLooks 62 = .ok (.iinc 4 1, 3) := by decide +kernel
theorem d_Nm_countAllLooks_65 : decode c_Nm_countAllLooks 65 = .ok (.goto (-45), 3) := by decide +kernel
theorem d_Nm_countAllLooks_68 : decode c_Nm_countAllLooks 68 = .ok (.iinc 3 1, 3) := by decide +kernel
theorem d_Nm_countAllLooks_71 : decode c_Nm_countAllLooks 71 = .ok (.goto (-67), 3) := by decide +kernel
theorem d_Nm_countAllLooks_74 : decode c_Nm_countAllLooks 74 = .ok (.aload_n 0, 1) := by decide +kernel
theorem d_Nm_countAllLooks_75 : decode c_Nm_countAllLooks 75 = .ok (.getfield 10, 3) := by decide +kernel
theorem d_Nm_countAllLooks_78 : decode c_Nm_countAllLooks 78 = .ok (.getfield 83, 3) := by decide +kernel
theorem d_Nm_countAllLooks_81 : decode c_Nm_countAllLooks 81 = .ok (.iconst 2, 1) := by decide +kernel
theorem d_Nm_countAllLooks_82 : decode c_Nm_countAllLooks 82 = .ok (.iload_n 2, 1) := by decide +kernel
theorem d_Nm_countAllLooks_83 : decode c_Nm_countAllLooks 83 = .ok (.imul, 1) := by decide +kernel
theorem d_Nm_countAllLooks_84 : decode c_Nm_countAllLooks 84 = .ok (.iadd, 1) := by decide +kernel
theorem d_Nm_countAllLooks_85 : decode c_Nm_countAllLooks 85 = .ok (.ireturn, 1) := by decide +kernel
theorem d_Nm_leastOf_0 : decode c_Nm_leastOf 0 = .ok (.iconst 0, 1) := by decide +kernel
theorem d_Nm_leastOf_1 : decode c_Nm_leastOf 1 = .ok (.istore_n 2, 1) := by decide +kernel
theorem d_Nm_leastOf_2 : decode c_Nm_leastOf 2 = .ok (.iload_n 2, 1) := by decide +kernel
theorem d_Nm_leastOf_3 : decode c_Nm_leastOf 3 = .ok (.bipush 64, 2) := by decide +kernel
theorem d_Nm_leastOf_5 : decode c_Nm_leastOf 5 = .ok (.if_icmp .ge 19, 3) := by decide +kernel
theorem d_Nm_leastOf_8 : decode c_Nm_leastOf 8 = .ok (.lload_n 0, 1) := by decide +kernel
theorem d_Nm_leastOf_9 : decode c_Nm_leastOf 9 = .ok (.iload_n 2, 1) := by decide +kernel
theorem d_Nm_leastOf_10 : decode c_Nm_leastOf 10 = .ok (.invokestatic 260, 3) := by decide +kernel
theorem d_Nm_leastOf_13 : decode c_Nm_leastOf 13 = .ok (.ifCond .eq 5, 3) := by decide +kernel
theorem d_Nm_leastOf_16 : decode c_Nm_leastOf 16 = .ok (.iload_n 2, 1) := by decide +kernel
theorem d_Nm_leastOf_17 : decode c_Nm_leastOf 17 = .ok (.ireturn, 1) := by decide +kernel
theorem d_Nm_leastOf_18 : decode c_Nm_leastOf 18 = .ok (.iinc 2 1, 3) := by decide +kernel
theorem d_Nm_leastOf_21 : decode c_Nm_leastOf 21 = .ok (.goto (-19), 3) := by decide +kernel
theorem d_Nm_leastOf_24 : decode c_Nm_leastOf 24 = .ok (.iconst (-1), 1) := by decide +kernel
theorem d_Nm_leastOf_25 : decode c_Nm_leastOf 25 = .ok (.ireturn, 1) := by decide +kernel
theorem d_Nm_hasBit_0 : decode c_Nm_hasBit 0 = .ok (.lload_n 0, 1) := by decide +kernel
theorem d_Nm_hasBit_1 : decode c_Nm_hasBit 1 = .ok (.iload_n 2, 1) := by decide +kernel
theorem d_Nm_hasBit_2 : decode c_Nm_hasBit 2 = .ok (.lushr, 1) := by decide +kernel
theorem d_Nm_hasBit_3 : decode c_Nm_hasBit 3 = .ok (.lconst 1, 1) := by decide +kernel
theorem d_Nm_hasBit_4 : decode c_Nm_hasBit 4 = .ok (.land, 1) := by decide +kernel
theorem d_Nm_hasBit_5 : decode c_Nm_hasBit 5 = .ok (.lconst 0, 1) := by decide +kernel
theorem d_Nm_hasBit_6 : decode c_Nm_hasBit 6 = .ok (.lcmp, 1) := by decide +kernel
theorem d_Nm_hasBit_7 : decode c_Nm_hasBit 7 = .ok (.ifCond .eq 7, 3) := by decide +kernel
theorem d_Nm_hasBit_10 : decode c_Nm_hasBit 10 = .ok (.iconst 1, 1) := by decide +kernel
theorem d_Nm_hasBit_11 : decode c_Nm_hasBit 11 = .ok (.goto 4, 3) := by decide +kernel
theorem d_Nm_hasBit_14 : decode c_Nm_hasBit 14 = .ok (.iconst 0, 1) := by decide +kernel
theorem d_Nm_hasBit_15 : decode c_Nm_hasBit 15 = .ok (.ireturn, 1) := by decide +kernel
theorem d_Nm_distanceOf_0 : decode c_Nm_distanceOf 0 = .ok (.lload_n 0, 1) := by decide +kernel
theorem d_Nm_distanceOf_1 : decode c_Nm_distanceOf 1 = .ok (.lload_n 2, 1) := by decide +kernel
theorem d_Nm_distanceOf_2 : decode c_Nm_distanceOf 2 = .ok (.lxor, 1) := by decide +kernel
theorem d_Nm_distanceOf_3 : decode c_Nm_distanceOf 3 = .ok (.invokestatic 91, 3) := by decide +kernel
theorem d_Nm_distanceOf_6 : decode c_Nm_distanceOf 6 = .ok (.ireturn, 1) := by decide +kernel
theorem d_Nm_see_0 : decode c_Nm_see 0 = .ok (.iload_n 1, 1) := by decide +kernel
theorem d_Nm_see_1 : decode c_Nm_see 1 = .ok (.invokestatic 223, 3) := by decide +kernel
theorem d_Nm_see_4 : decode c_Nm_see 4 = .ok (.ifCond .ne 6, 3) := by decide +kernel
theorem d_Nm_see_7 : decode c_Nm_see 7 = .ok (.ldc 137, 2) := by decide +kernel
theorem d_Nm_see_9 : decode c_Nm_see 9 = .ok (.ireturn, 1) := by decide +kernel
theorem d_Nm_see_10 : decode c_Nm_see 10 = .ok (.aload_n 0, 1) := by decide +kernel
theorem d_Nm_see_11 : decode c_Nm_see 11 = .ok (.getfield 65, 3) := by decide +kernel
theorem d_Nm_see_14 : decode c_Nm_see 14 = .ok (.getfield 121, 3) := by decide +kernel
theorem d_Nm_see_17 : decode c_Nm_see 17 = .ok (.bipush 6, 2) := by decide +kernel
theorem d_Nm_see_19 : decode c_Nm_see 19 = .ok (.if_icmp .lt 6, 3) := by decide +kernel
theorem d_Nm_see_22 : decode c_Nm_see 22 = .ok (.ldc 198, 2) := by decide +kernel
theorem d_Nm_see_24 : decode c_Nm_see 24 = .ok (.ireturn, 1) := by decide +kernel
theorem d_Nm_see_25 : decode c_Nm_see 25 = .ok (.aload_n 0, 1) := by decide +kernel
theorem d_Nm_see_26 : decode c_Nm_see 26 = .ok (.getfield 65, 3) := by decide +kernel
theorem d_Nm_see_29 : decode c_Nm_see 29 = .ok (.aload_n 0, 1) := by decide +kernel
theorem d_Nm_see_30 : decode c_Nm_see 30 = .ok (.getfield 10, 3) := by decide +kernel
theorem d_Nm_see_33 : decode c_Nm_see 33 = .ok (.getfield 88, 3) := by decide +kernel
theorem d_Nm_see_36 : decode c_Nm_see 36 = .ok (.iload_n 1, 1) := by decide +kernel
theorem d_Nm_see_37 : decode c_Nm_see 37 = .ok (.invokevirtual 264, 3) := by decide +kernel
theorem d_Nm_see_40 : decode c_Nm_see 40 = .ok (.aload_n 0, 1) := by decide +kernel
theorem d_Nm_see_41 : decode c_Nm_see 41 = .ok (.getfield 65, 3) := by decide +kernel
theorem d_Nm_see_44 : decode c_Nm_see 44 = .ok (.getfield 121, 3) := by decide +kernel
theorem d_Nm_see_47 : decode c_Nm_see 47 = .ok (.ireturn, 1) := by decide +kernel
theorem d_Nm_write_0 : decode c_Nm_write 0 = .ok (.aload_n 0, 1) := by decide +kernel
theorem d_Nm_write_1 : decode c_Nm_write 1 = .ok (.getfield 10, 3) := by decide +kernel
theorem d_Nm_write_4 : decode c_Nm_write 4 = .ok (.iload_n 1, 1) := by decide +kernel
theorem d_Nm_write_5 : decode c_Nm_write 5 = .ok (.iload_n 2, 1) := by decide +kernel
theorem d_Nm_write_6 : decode c_Nm_write 6 = .ok (.invokevirtual 230, 3) := by decide +kernel
theorem d_Nm_write_9 : decode c_Nm_write 9 = .ok (.ifCond .ne 6, 3) := by decide +kernel
theorem d_Nm_write_12 : decode c_Nm_write 12 = .ok (.ldc 146, 2) := by decide +kernel
theorem d_Nm_write_14 : decode c_Nm_write 14 = .ok (.ireturn, 1) := by decide +kernel
theorem d_Nm_write_15 : decode c_Nm_write 15 = .ok (.iload_n 3, 1) := by decide +kernel
theorem d_Nm_write_16 : decode c_Nm_write 16 = .ok (.invokestatic 223, 3) := by decide +kernel
theorem d_Nm_write_19 : decode c_Nm_write 19 = .ok (.ifCond .ne 6, 3) := by decide +kernel
theorem d_Nm_write_22 : decode c_Nm_write 22 = .ok (.ldc 137, 2) := by decide +kernel
theorem d_Nm_write_24 : decode c_Nm_write 24 = .ok (.ireturn, 1) := by decide +kernel
theorem d_Nm_write_25 : decode c_Nm_write 25 = .ok (.aload_n 0, 1) := by decide +kernel
theorem d_Nm_write_26 : decode c_Nm_write 26 = .ok (.getfield 72, 3) := by decide +kernel
theorem d_Nm_write_29 : decode c_Nm_write 29 = .ok (.getfield 132, 3) := by decide +kernel
theorem d_Nm_write_32 : decode c_Nm_write 32 = .ok (.bipush 20, 2) := by decide +kernel
theorem d_Nm_write_34 : decode c_Nm_write 34 = .ok (.if_icmp .lt 6, 3) := by decide +kernel
theorem d_Nm_write_37 : decode c_Nm_write 37 = .ok (.ldc 198, 2) := by decide +kernel
theorem d_Nm_write_39 : decode c_Nm_write 39 = .ok (.ireturn, 1) := by decide +kernel
theorem d_Nm_write_40 : decode c_Nm_write 40 = .ok (.aload_n 0, 1) := by decide +kernel
theorem d_Nm_write_41 : decode c_Nm_write 41 = .ok (.getfield 72, 3) := by decide +kernel
theorem d_Nm_write_44 : decode c_Nm_write 44 = .ok (.iload_n 1, 1) := by decide +kernel
theorem d_Nm_write_45 : decode c_Nm_write 45 = .ok (.iload_n 2, 1) := by decide +kernel
theorem d_Nm_write_46 : decode c_Nm_write 46 = .ok (.iload_n 3, 1) := by decide +kernel
theorem d_Nm_write_47 : decode c_Nm_write 47 = .ok (.invokevirtual 268, 3) := by decide +kernel
theorem d_Nm_write_50 : decode c_Nm_write 50 = .ok (.aload_n 0, 1) := by decide +kernel
theorem d_Nm_write_51 : decode c_Nm_write 51 = .ok (.getfield 72, 3) := by decide +kernel
theorem d_Nm_write_54 : decode c_Nm_write 54 = .ok (.getfield 132, 3) := by decide +kernel
theorem d_Nm_write_57 : decode c_Nm_write 57 = .ok (.ireturn, 1) := by decide +kernel
theorem d_Nm_tear_0 : decode c_Nm_tear 0 = .ok (.aload_n 0, 1) := by decide +kernel
theorem d_Nm_tear_1 : decode c_Nm_tear 1 = .ok (.getfield 65, 3) := by decide +kernel
theorem d_Nm_tear_4 : decode c_Nm_tear 4 = .ok (.getfield 121, 3) := by decide +kernel
theorem d_Nm_tear_7 : decode c_Nm_tear 7 = .ok (.aload_n 0, 1) := by decide +kernel
theorem d_Nm_tear_8 : decode c_Nm_tear 8 = .ok (.getfield 72, 3) := by decide +kernel
theorem d_Nm_tear_11 : decode c_Nm_tear 11 = .ok (.getfield 132, 3) := by decide +kernel
theorem d_Nm_tear_14 : decode c_Nm_tear 14 = .ok (.iadd, 1) := by decide +kernel
theorem d_Nm_tear_15 : decode c_Nm_tear 15 = .ok (.istore_n 1, 1) := by decide +kernel
theorem d_Nm_tear_16 : decode c_Nm_tear 16 = .ok (.aload_n 0, 1) := by decide +kernel
theorem d_Nm_tear_17 : decode c_Nm_tear 17 = .ok (.getfield 65, 3) := by decide +kernel
theorem d_Nm_tear_20 : decode c_Nm_tear 20 = .ok (.iconst 0, 1) := by decide +kernel
theorem d_Nm_tear_21 : decode c_Nm_tear 21 = .ok (.putfield 121, 3) := by decide +kernel
theorem d_Nm_tear_24 : decode c_Nm_tear 24 = .ok (.aload_n 0, 1) := by decide +kernel
theorem d_Nm_tear_25 : decode c_Nm_tear 25 = .ok (.getfield 72, 3) := by decide +kernel
theorem d_Nm_tear_28 : decode c_Nm_tear 28 = .ok (.iconst 0, 1) := by decide +kernel
theorem d_Nm_tear_29 : decode c_Nm_tear 29 = .ok (.putfield 132, 3) := by decide +kernel
theorem d_Nm_tear_32 : decode c_Nm_tear 32 = .ok (.iload_n 1, 1) := by decide +kernel
theorem d_Nm_tear_33 : decode c_Nm_tear 33 = .ok (.ireturn, 1) := by decide +kernel
theorem d_Nm_seed_0 : decode c_Nm_seed 0 = .ok (.iload_n 1, 1) := by decide +kernel
theorem d_Nm_seed_1 : decode c_Nm_seed 1 = .ok (.ifCond .ge 6, 3) := by decide +kernel
theorem d_Nm_seed_4 : decode c_Nm_seed 4 = .ok (.ldc 137, 2) := by decide +kernel
theorem d_Nm_seed_6 : decode c_Nm_seed 6 = .ok (.ireturn, 1) := by decide +kernel
theorem d_Nm_seed_7 : decode c_Nm_seed 7 = .ok (.aload_n 0, 1) := by decide +kernel
theorem d_Nm_seed_8 : decode c_Nm_seed 8 = .ok (.getfield 79, 3) := by decide +kernel
theorem d_Nm_seed_11 : decode c_Nm_seed 11 = .ok (.getfield 271, 3) := by decide +kernel
theorem d_Nm_seed_14 : decode c_Nm_seed 14 = .ok (.istore_n 2, 1) := by decide +kernel
theorem d_Nm_seed_15 : decode c_Nm_seed 15 = .ok (.aload_n 0, 1) := by decide +kernel
theorem d_Nm_seed_16 : decode c_Nm_seed 16 = .ok (.getfield 79, 3) := by decide +kernel
theorem d_Nm_seed_19 : decode c_Nm_seed 19 = .ok (.iload_n 1, 1) := by decide +kernel
theorem d_Nm_seed_20 : decode c_Nm_seed 20 = .ok (.putfield 271, 3) := by decide +kernel
theorem d_Nm_seed_23 : decode c_Nm_seed 23 = .ok (.iload_n 2, 1) := by decide +kernel
theorem d_Nm_seed_24 : decode c_Nm_seed 24 = .ok (.ireturn, 1) := by decide +kernel
theorem d_Nm_keep_0 : decode c_Nm_keep 0 = .ok (.iload_n 1, 1) := by decide +kernel
theorem d_Nm_keep_1 : decode c_Nm_keep 1 = .ok (.ifCond .lt 8, 3) := by decide +kernel
theorem d_Nm_keep_4 : decode c_Nm_keep 4 = .ok (.iload_n 1, 1) := by decide +kernel
theorem d_Nm_keep_5 : decode c_Nm_keep 5 = .ok (.iconst 2, 1) := by decide +kernel
theorem d_Nm_keep_6 : decode c_Nm_keep 6 = .ok (.if_icmp .lt 6, 3) := by decide +kernel
theorem d_Nm_keep_9 : decode c_Nm_keep 9 = .ok (.ldc 146, 2) := by decide +kernel
theorem d_Nm_keep_11 : decode c_Nm_keep 11 = .ok (.ireturn, 1) := by decide +kernel
theorem d_Nm_keep_12 : decode c_Nm_keep 12 = .ok (.aload_n 0, 1) := by decide +kernel
theorem d_Nm_keep_13 : decode c_Nm_keep 13 = .ok (.getfield 25, 3) := by decide +kernel
theorem d_Nm_keep_16 : decode c_Nm_keep 16 = .ok (.iload_n 1, 1) := by decide +kernel
theorem d_Nm_keep_17 : decode c_Nm_keep 17 = .ok (.aaload, 1) := by decide +kernel
theorem d_Nm_keep_18 : decode c_Nm_keep 18 = .ok (.getfield 274, 3) := by decide +kernel
theorem d_Nm_keep_21 : decode c_Nm_keep 21 = .ok (.aload_n 0, 1) := by decide +kernel
theorem d_Nm_keep_22 : decode c_Nm_keep 22 = .ok (.getfield 10, 3) := by decide +kernel
theorem d_Nm_keep_25 : decode c_Nm_keep 25 = .ok (.invokevirtual 276, 3) := by decide +kernel
theorem d_Nm_keep_28 : decode c_Nm_keep 28 = .ok (.aload_n 0, 1) := by decide +kernel
theorem d_Nm_keep_29 : decode c_Nm_keep 29 = .ok (.getfield 25, 3) := by decide +kernel
theorem d_Nm_keep_32 : decode c_Nm_keep 32 = .ok (.iload_n 1, 1) := by decide +kernel
theorem d_Nm_keep_33 : decode c_Nm_keep 33 = .ok (.aaload, 1) := by decide +kernel
theorem d_Nm_keep_34 : decode c_Nm_keep 34 = .ok (.aload_n 0, 1) := by decide +kernel
theorem d_Nm_keep_35 : decode c_Nm_keep 35 = .ok (.getfield 79, 3) := by decide +kernel
theorem d_Nm_keep_38 : decode c_Nm_keep 38 = .ok (.getfield 271, 3) := by decide +kernel
theorem d_Nm_keep_41 : decode c_Nm_keep 41 = .ok (.putfield 279, 3) := by decide +kernel
theorem d_Nm_keep_44 : decode c_Nm_keep 44 = .ok (.aload_n 0, 1) := by decide +kernel
theorem d_Nm_keep_45 : decode c_Nm_keep 45 = .ok (.getfield 25, 3) := by decide +kernel
theorem d_Nm_keep_48 : decode c_Nm_keep 48 = .ok (.iload_n 1, 1) := by decide +kernel
theorem d_Nm_keep_49 : decode c_Nm_keep 49 = .ok (.aaload, 1) := by decide +kernel
theorem d_Nm_keep_50 : decode c_Nm_keep 50 = .ok (.iconst 1, 1) := by decide +kernel
theorem d_Nm_keep_51 : decode c_Nm_keep 51 = .ok (.putfield 281, 3) := by decide +kernel
theorem d_Nm_keep_54 : decode c_Nm_keep 54 = .ok (.aload_n 0, 1) := by decide +kernel
theorem d_Nm_keep_55 : decode c_Nm_keep 55 = .ok (.getfield 19, 3) := by decide +kernel
theorem d_Nm_keep_58 : decode c_Nm_keep 58 = .ok (.invokevirtual 285, 3) := by decide +kernel
theorem d_Nm_keep_61 : decode c_Nm_keep 61 = .ok (.iconst 1, 1) := by decide +kernel
theorem d_Nm_keep_62 : decode c_Nm_keep 62 = .ok (.ireturn, 1) := by decide +kernel
theorem d_Nm_goBack_0 : decode c_Nm_goBack 0 = .ok (.iload_n 1, 1) := by decide +kernel
theorem d_Nm_goBack_1 : decode c_Nm_goBack 1 = .ok (.ifCond .lt 8, 3) := by decide +kernel
theorem d_Nm_goBack_4 : decode c_Nm_goBack 4 = .ok (.iload_n 1, 1) := by decide +kernel
theorem d_Nm_goBack_5 : decode c_Nm_goBack 5 = .ok (.iconst 2, 1) := by decide +kernel
theorem d_Nm_goBack_6 : decode c_Nm_goBack 6 = .ok (.if_icmp .lt 6, 3) := by decide +kernel
theorem d_Nm_goBack_9 : decode c_Nm_goBack 9 = .ok (.ldc 146, 2) := by decide +kernel
theorem d_Nm_goBack_11 : decode c_Nm_goBack 11 = .ok (.ireturn, 1) := by decide +kernel
theorem d_Nm_goBack_12 : decode c_Nm_goBack 12 = .ok (.aload_n 0, 1) := by decide +kernel
theorem d_Nm_goBack_13 : decode c_Nm_goBack 13 = .ok (.getfield 25, 3) := by decide +kernel
theorem d_Nm_goBack_16 : decode c_Nm_goBack 16 = .ok (.iload_n 1, 1) := by decide +kernel
theorem d_Nm_goBack_17 : decode c_Nm_goBack 17 = .ok (.aaload, 1) := by decide +kernel
theorem d_Nm_goBack_18 : decode c_Nm_goBack 18 = .ok (.getfield 281, 3) := by decide +kernel
theorem d_Nm_goBack_21 : decode c_Nm_goBack 21 = .ok (.ifCond .ne 6, 3) := by decide +kernel
theorem d_Nm_goBack_24 : decode c_Nm_goBack 24 = .ok (.ldc 197, 2) := by decide +kernel
theorem d_Nm_goBack_26 : decode c_Nm_goBack 26 = .ok (.ireturn, 1) := by decide +kernel
theorem d_Nm_goBack_27 : decode c_Nm_goBack 27 = .ok (.aload_n 0, 1) := by decide +kernel
theorem d_Nm_goBack_28 : decode c_Nm_goBack 28 = .ok (.getfield 10, 3) := by decide +kernel
theorem d_Nm_goBack_31 : decode c_Nm_goBack 31 = .ok (.aload_n 0, 1) := by decide +kernel
theorem d_Nm_goBack_32 : decode c_Nm_goBack 32 = .ok (.getfield 25, 3) := by decide +kernel
theorem d_Nm_goBack_35 : decode c_Nm_goBack 35 = .ok (.iload_n 1, 1) := by decide +kernel
theorem d_Nm_goBack_36 : decode c_Nm_goBack 36 = .ok (.aaload, 1) := by decide +kernel
theorem d_Nm_goBack_37 : decode c_Nm_goBack 37 = .ok (.getfield 274, 3) := by decide +kernel
theorem d_Nm_goBack_40 : decode c_Nm_goBack 40 = .ok (.invokevirtual 276, 3) := by decide +kernel
theorem d_Nm_goBack_43 : decode c_Nm_goBack 43 = .ok (.aload_n 0, 1) := by decide +kernel
theorem d_Nm_goBack_44 : decode c_Nm_goBack 44 = .ok (.getfield 79, 3) := by decide +kernel
theorem d_Nm_goBack_47 : decode c_Nm_goBack 47 = .ok (.aload_n 0, 1) := by decide +kernel
theorem d_Nm_goBack_48 : decode c_Nm_goBack 48 = .ok (.getfield 25, 3) := by decide +kernel
theorem d_Nm_goBack_51 : decode c_Nm_goBack 51 = .ok (.iload_n 1, 1) := by decide +kernel
theorem d_Nm_goBack_52 : decode c_Nm_goBack 52 = .ok (.aaload, 1) := by decide +kernel
theorem d_Nm_goBack_53 : decode c_Nm_goBack 53 = .ok (.getfield 279, 3) := by decide +kernel
theorem d_Nm_goBack_56 : decode c_Nm_goBack 56 = .ok (.putfield 271, 3) := by decide +kernel
theorem d_Nm_goBack_59 : decode c_Nm_goBack 59 = .ok (.aload_n 0, 1) := by decide +kernel
theorem d_Nm_goBack_60 : decode c_Nm_goBack 60 = .ok (.getfield 33, 3) := by decide +kernel
theorem d_Nm_goBack_63 : decode c_Nm_goBack 63 = .ok (.aload_n 0, 1) := by decide +kernel
theorem d_Nm_goBack_64 : decode c_Nm_goBack 64 = .ok (.getfield 10, 3) := by decide +kernel
theorem d_Nm_goBack_67 : decode c_Nm_goBack 67 = .ok (.getfield 37, 3) := by decide +kernel
theorem d_Nm_goBack_70 : decode c_Nm_goBack 70 = .ok (.invokevirtual 41, 3) := by decide +kernel
theorem d_Nm_goBack_73 : decode c_Nm_goBack 73 = .ok (.aload_n 0, 1) := by decide +kernel
theorem d_Nm_goBack_74 : decode c_Nm_goBack 74 = .ok (.getfield 19, 3) := by decide +kernel
theorem d_Nm_goBack_77 : decode c_Nm_goBack 77 = .ok (.invokevirtual 285, 3) := by decide +kernel
theorem d_Nm_goBack_80 : decode c_Nm_goBack 80 = .ok (.iconst 1, 1) := by decide +kernel
theorem d_Nm_goBack_81 : decode c_Nm_goBack 81 = .ok (.ireturn, 1) := by decide +kernel
theorem d_Bk_init_0 : decode c_Bk_init 0 = .ok (.aload_n 0, 1) := by decide +kernel
theorem d_Bk_init_1 : decode c_Bk_init 1 = .ok (.invokespecial 3, 3) := by decide +kernel
theorem d_Bk_init_4 : decode c_Bk_init 4 = .ok (.aload_n 0, 1) := by decide +kernel
theorem d_Bk_init_5 : decode c_Bk_init 5 = .ok (.bipush 20, 2) := by decide +kernel
theorem d_Bk_init_7 : decode c_Bk_init 7 = .ok (.newarray .int, 2) := by decide +kernel
theorem d_Bk_init_9 : decode c_Bk_init 9 = .ok (.putfield 9, 3) := by decide +kernel
theorem d_Bk_init_12 : decode c_Bk_init 12 = .ok (.aload_n 0, 1) := by decide +kernel
theorem d_Bk_init_13 : decode c_Bk_init 13 = .ok (.bipush 20, 2) := by decide +kernel
theorem d_Bk_init_15 : decode c_Bk_init 15 = .ok (.newarray .int, 2) := by decide +kernel
theorem d_Bk_init_17 : decode c_Bk_init 17 = .ok (.putfield 15, 3) := by decide +kernel
theorem d_Bk_init_20 : decode c_Bk_init 20 = .ok (.aload_n 0, 1) := by decide +kernel
theorem d_Bk_init_21 : decode c_Bk_init 21 = .ok (.bipush 20, 2) := by decide +kernel
theorem d_Bk_init_23 : decode c_Bk_init 23 = .ok (.newarray .int, 2) := by decide +kernel
theorem d_Bk_init_25 : decode c_Bk_init 25 = .ok (.putfield 18, 3) := by decide +kernel
theorem d_Bk_init_28 : decode c_Bk_init 28 = .ok (.return_, 1) := by decide +kernel
theorem d_Bk_add_0 : decode c_Bk_add 0 = .ok (.aload_n 0, 1) := by decide +kernel
theorem d_Bk_add_1 : decode c_Bk_add 1 = .ok (.getfield 21, 3) := by decide +kernel
theorem d_Bk_add_4 : decode c_Bk_add 4 = .ok (.bipush 20, 2) := by decide +kernel
theorem d_Bk_add_6 : decode c_Bk_add 6 = .ok (.if_icmp .ge 43, 3) := by decide +kernel
theorem d_Bk_add_9 : decode c_Bk_add 9 = .ok (.aload_n 0, 1) := by decide +kernel
theorem d_Bk_add_10 : decode c_Bk_add 10 = .ok (.getfield 9, 3) := by decide +kernel
theorem d_Bk_add_13 : decode c_Bk_add 13 = .ok (.aload_n 0, 1) := by decide +kernel
theorem d_Bk_add_14 : decode c_Bk_add 14 = .ok (.getfield 21, 3) := by decide +kernel
theorem d_Bk_add_17 : decode c_Bk_add 17 = .ok (.iload_n 1, 1) := by decide +kernel
theorem d_Bk_add_18 : decode c_Bk_add 18 = .ok (.iastore, 1) := by decide +kernel
theorem d_Bk_add_19 : decode c_Bk_add 19 = .ok (.aload_n 0, 1) := by decide +kernel
theorem d_Bk_add_20 : decode c_Bk_add 20 = .ok (.getfield 15, 3) := by decide +kernel
theorem d_Bk_add_23 : decode c_Bk_add 23 = .ok (.aload_n 0, 1) := by decide +kernel
theorem d_Bk_add_24 : decode c_Bk_add 24 = .ok (.getfield 21, 3) := by decide +kernel
theorem d_Bk_add_27 : decode c_Bk_add 27 = .ok (.iload_n 2, 1) := by decide +kernel
theorem d_Bk_add_28 : decode c_Bk_add 28 = .ok (.iastore, 1) := by decide +kernel
theorem d_Bk_add_29 : decode c_Bk_add 29 = .ok (.aload_n 0, 1) := by decide +kernel
theorem d_Bk_add_30 : decode c_Bk_add 30 = .ok (.getfield 18, 3) := by decide +kernel
theorem d_Bk_add_33 : decode c_Bk_add 33 = .ok (.aload_n 0, 1) := by decide +kernel
theorem d_Bk_add_34 : decode c_Bk_add 34 = .ok (.getfield 21, 3) := by decide +kernel
theorem d_Bk_add_37 : decode c_Bk_add 37 = .ok (.iload_n 3, 1) := by decide +kernel
theorem d_Bk_add_38 : decode c_Bk_add 38 = .ok (.iastore, 1) := by decide +kernel
theorem d_Bk_add_39 : decode c_Bk_add 39 = .ok (.aload_n 0, 1) := by decide +kernel
theorem d_Bk_add_40 : decode c_Bk_add 40 = .ok (.dup, 1) := by decide +kernel
theorem d_Bk_add_41 : decode c_Bk_add 41 = .ok (.getfield 21, 3) := by decide +kernel
theorem d_Bk_add_44 : decode c_Bk_add 44 = .ok (.iconst 1, 1) := by decide +kernel
theorem d_Bk_add_45 : decode c_Bk_add 45 = .ok (.iadd, 1) := by decide +kernel
theorem d_Bk_add_46 : decode c_Bk_add 46 = .ok (.putfield 21, 3) := by decide +kernel
theorem d_Bk_add_49 : decode c_Bk_add 49 = .ok (.return_, 1) := by decide +kernel
theorem d_Bk_firstWrong_0 : decode c_Bk_firstWrong 0 = .ok (.iconst 0, 1) := by decide +kernel
theorem d_Bk_firstWrong_1 : decode c_Bk_firstWrong 1 = .ok (.istore_n 2, 1) := by decide +kernel
theorem d_Bk_firstWrong_2 : decode c_Bk_firstWrong 2 = .ok (.iload_n 2, 1) := by decide +kernel
theorem d_Bk_firstWrong_3 : decode c_Bk_firstWrong 3 = .ok (.aload_n 0, 1) := by decide +kernel
theorem d_Bk_firstWrong_4 : decode c_Bk_firstWrong 4 = .ok (.getfield 21, 3) := by decide +kernel
theorem d_Bk_firstWrong_7 : decode c_Bk_firstWrong 7 = .ok (.if_icmp .ge 20, 3) := by decide +kernel
theorem d_Bk_firstWrong_10 : decode c_Bk_firstWrong 10 = .ok (.aload_n 0, 1) := by decide +kernel
theorem d_Bk_firstWrong_11 : decode c_Bk_firstWrong 11 = .ok (.aload_n 1, 1) := by decide +kernel
theorem d_Bk_firstWrong_12 : decode c_Bk_firstWrong 12 = .ok (.iload_n 2, 1) := by decide +kernel
theorem d_Bk_firstWrong_13 : decode c_Bk_firstWrong 13 = .ok (.invokevirtual 25, 3) := by decide +kernel
theorem d_Bk_firstWrong_16 : decode c_Bk_firstWrong 16 = .ok (.ifCond .ne 5, 3) := by decide +kernel
theorem d_Bk_firstWrong_19 : decode c_Bk_firstWrong 19 = .ok (.iload_n 2, 1) := by decide +kernel
theorem d_Bk_firstWrong_20 : decode c_Bk_firstWrong 20 = .ok (.ireturn, 1) := by decide +kernel
theorem d_Bk_firstWrong_21 : decode c_Bk_firstWrong 21 = .ok (.iinc 2 1, 3) := by decide +kernel
theorem d_Bk_firstWrong_24 : decode c_Bk_firstWrong 24 = .ok (.goto (-22), 3) := by decide +kernel
end
section
theorem d_Bk_firstWrong_27 : decode c_Bk_firstWrong 27 = .ok (.iconst (-1), 1) := by decide +kernel
theorem d_Bk_firstWrong_28 : decode c_Bk_firstWrong 28 = .ok (.ireturn, 1) := by decide +kernel
theorem d_Bk_isRight_0 : decode c_Bk_isRight 0 = .ok (.aload_n 1, 1) := by decide +kernel
theorem d_Bk_isRight_1 : decode c_Bk_isRight 1 = .ok (.aload_n 0, 1) := by decide +kernel
theorem d_Bk_isRight_2 : decode c_Bk_isRight 2 = .ok (.getfield 9, 3) := by decide +kernel
theorem d_Bk_isRight_5 : decode c_Bk_isRight 5 = .ok (.iload_n 2, 1) := by decide +kernel
theorem d_Bk_isRight_6 : decode c_Bk_isRight 6 = .ok (.iaload, 1) := by decide +kernel
theorem d_Bk_isRight_7 : decode c_Bk_isRight 7 = .ok (.aload_n 0, 1) := by decide +kernel
theorem d_Bk_isRight_8 : decode c_Bk_isRight 8 = .ok (.getfield 15, 3) := by decide +kernel
theorem d_Bk_isRight_11 : decode c_Bk_isRight 11 = .ok (.iload_n 2, 1) := by decide +kernel
theorem d_Bk_isRight_12 : decode c_Bk_isRight 12 = .ok (.iaload, 1) := by decide +kernel
theorem d_Bk_isRight_13 : decode c_Bk_isRight 13 = .ok (.invokevirtual 29, 3) := by decide +kernel
theorem d_Bk_isRight_16 : decode c_Bk_isRight 16 = .ok (.ifCond .eq 32, 3) := by decide +kernel
theorem d_Bk_isRight_19 : decode c_Bk_isRight 19 = .ok (.aload_n 1, 1) := by decide +kernel
theorem d_Bk_isRight_20 : decode c_Bk_isRight 20 = .ok (.aload_n 0, 1) := by decide +kernel
theorem d_Bk_isRight_21 : decode c_Bk_isRight 21 = .ok (.getfield 9, 3) := by decide +kernel
theorem d_Bk_isRight_24 : decode c_Bk_isRight 24 = .ok (.iload_n 2, 1) := by decide +kernel
theorem d_Bk_isRight_25 : decode c_Bk_isRight 25 = .ok (.iaload, 1) := by decide +kernel
theorem d_Bk_isRight_26 : decode c_Bk_isRight 26 = .ok (.aload_n 0, 1) := by decide +kernel
theorem d_Bk_isRight_27 : decode c_Bk_isRight 27 = .ok (.getfield 15, 3) := by decide +kernel
theorem d_Bk_isRight_30 : decode c_Bk_isRight 30 = .ok (.iload_n 2, 1) := by decide +kernel
theorem d_Bk_isRight_31 : decode c_Bk_isRight 31 = .ok (.iaload, 1) := by decide +kernel
theorem d_Bk_isRight_32 : decode c_Bk_isRight 32 = .ok (.invokevirtual 35, 3) := by decide +kernel
theorem d_Bk_isRight_35 : decode c_Bk_isRight 35 = .ok (.aload_n 0, 1) := by decide +kernel
theorem d_Bk_isRight_36 : decode c_Bk_isRight 36 = .ok (.getfield 18, 3) := by decide +kernel
theorem d_Bk_isRight_39 : decode c_Bk_isRight 39 = .ok (.iload_n 2, 1) := by decide +kernel
theorem d_Bk_isRight_40 : decode c_Bk_isRight 40 = .ok (.iaload, 1) := by decide +kernel
theorem d_Bk_isRight_41 : decode c_Bk_isRight 41 = .ok (.if_icmp .ne 7, 3) := by decide +kernel
theorem d_Bk_isRight_44 : decode c_Bk_isRight 44 = .ok (.iconst 1, 1) := by decide +kernel
theorem d_Bk_isRight_45 : decode c_Bk_isRight 45 = .ok (.goto 4, 3) := by decide +kernel
theorem d_Bk_isRight_48 : decode c_Bk_isRight 48 = .ok (.iconst 0, 1) := by decide +kernel
theorem d_Bk_isRight_49 : decode c_Bk_isRight 49 = .ok (.ireturn, 1) := by decide +kernel
theorem d_Co_init_0 : decode c_Co_init 0 = .ok (.aload_n 0, 1) := by decide +kernel
theorem d_Co_init_1 : decode c_Co_init 1 = .ok (.invokespecial 3, 3) := by decide +kernel
theorem d_Co_init_4 : decode c_Co_init 4 = .ok (.aload_n 0, 1) := by decide +kernel
theorem d_Co_init_5 : decode c_Co_init 5 = .ok (.bipush 64, 2) := by decide +kernel
theorem d_Co_init_7 : decode c_Co_init 7 = .ok (.newarray .long, 2) := by decide +kernel
theorem d_Co_init_9 : decode c_Co_init 9 = .ok (.putfield 9, 3) := by decide +kernel
theorem d_Co_init_12 : decode c_Co_init 12 = .ok (.return_, 1) := by decide +kernel
theorem d_Co_read_0 : decode c_Co_read 0 = .ok (.aload_n 0, 1) := by decide +kernel
theorem d_Co_read_1 : decode c_Co_read 1 = .ok (.lconst 1, 1) := by decide +kernel
theorem d_Co_read_2 : decode c_Co_read 2 = .ok (.aload_n 1, 1) := by decide +kernel
theorem d_Co_read_3 : decode c_Co_read 3 = .ok (.getfield 15, 3) := by decide +kernel
theorem d_Co_read_6 : decode c_Co_read 6 = .ok (.lshl, 1) := by decide +kernel
theorem d_Co_read_7 : decode c_Co_read 7 = .ok (.lconst 1, 1) := by decide +kernel
theorem d_Co_read_8 : decode c_Co_read 8 = .ok (.lsub, 1) := by decide +kernel
theorem d_Co_read_9 : decode c_Co_read 9 = .ok (.putfield 21, 3) := by decide +kernel
theorem d_Co_read_12 : decode c_Co_read 12 = .ok (.iconst 0, 1) := by decide +kernel
theorem d_Co_read_13 : decode c_Co_read 13 = .ok (.istore_n 2, 1) := by decide +kernel
theorem d_Co_read_14 : decode c_Co_read 14 = .ok (.iload_n 2, 1) := by decide +kernel
theorem d_Co_read_15 : decode c_Co_read 15 = .ok (.bipush 64, 2) := by decide +kernel
theorem d_Co_read_17 : decode c_Co_read 17 = .ok (.if_icmp .ge 53, 3) := by decide +kernel
theorem d_Co_read_20 : decode c_Co_read 20 = .ok (.aload_n 0, 1) := by decide +kernel
theorem d_Co_read_21 : decode c_Co_read 21 = .ok (.getfield 9, 3) := by decide +kernel
theorem d_Co_read_24 : decode c_Co_read 24 = .ok (.iload_n 2, 1) := by decide +kernel
theorem d_Co_read_25 : decode c_Co_read 25 = .ok (.lconst 0, 1) := by decide +kernel
theorem d_Co_read_26 : decode c_Co_read 26 = .ok (.lastore, 1) := by decide +kernel
theorem d_Co_read_27 : decode c_Co_read 27 = .ok (.iconst 0, 1) := by decide +kernel
theorem d_Co_read_28 : decode c_Co_read 28 = .ok (.istore_n 3, 1) := by decide +kernel
theorem d_Co_read_29 : decode c_Co_read 29 = .ok (.iload_n 3, 1) := by decide +kernel
theorem d_Co_read_30 : decode c_Co_read 30 = .ok (.aload_n 1, 1) := by decide +kernel
theorem d_Co_read_31 : decode c_Co_read 31 = .ok (.getfield 15, 3) := by decide +kernel
theorem d_Co_read_34 : decode c_Co_read 34 = .ok (.if_icmp .ge 30, 3) := by decide +kernel
theorem d_Co_read_37 : decode c_Co_read 37 = .ok (.aload_n 0, 1) := by decide +kernel
theorem d_Co_read_38 : decode c_Co_read 38 = .ok (.getfield 9, 3) := by decide +kernel
theorem d_Co_read_41 : decode c_Co_read 41 = .ok (.iload_n 2, 1) := by decide +kernel
theorem d_Co_read_42 : decode c_Co_read 42 = .ok (.dup2, 1) := by decide +kernel
theorem d_Co_read_43 : decode c_Co_read 43 = .ok (.laload, 1) := by decide +kernel
theorem d_Co_read_44 : decode c_Co_read 44 = .ok (.aload_n 1, 1) := by decide +kernel
theorem d_Co_read_45 : decode c_Co_read 45 = .ok (.getfield 25, 3) := by decide +kernel
theorem d_Co_read_48 : decode c_Co_read 48 = .ok (.iload_n 3, 1) := by decide +kernel
theorem d_Co_read_49 : decode c_Co_read 49 = .ok (.laload, 1) := by decide +kernel
theorem d_Co_read_50 : decode c_Co_read 50 = .ok (.iload_n 2, 1) := by decide +kernel
theorem d_Co_read_51 : decode c_Co_read 51 = .ok (.lushr, 1) := by decide +kernel
theorem d_Co_read_52 : decode c_Co_read 52 = .ok (.lconst 1, 1) := by decide +kernel
theorem d_Co_read_53 : decode c_Co_read 53 = .ok (.land, 1) := by decide +kernel
theorem d_Co_read_54 : decode c_Co_read 54 = .ok (.iload_n 3, 1) := by decide +kernel
theorem d_Co_read_55 : decode c_Co_read 55 = .ok (.lshl, 1) := by decide +kernel
theorem d_Co_read_56 : decode c_Co_read 56 = .ok (.lor, 1) := by decide +kernel
theorem d_Co_read_57 : decode c_Co_read 57 = .ok (.lastore, 1) := by decide +kernel
theorem d_Co_read_58 : decode c_Co_read 58 = .ok (.iinc 3 1, 3) := by decide +kernel
theorem d_Co_read_61 : decode c_Co_read 61 = .ok (.goto (-32), 3) := by decide +kernel
theorem d_Co_read_64 : decode c_Co_read 64 = .ok (.iinc 2 1, 3) := by decide +kernel
theorem d_Co_read_67 : decode c_Co_read 67 = .ok (.goto (-53), 3) := by decide +kernel
theorem d_Co_read_70 : decode c_Co_read 70 = .ok (.return_, 1) := by decide +kernel
theorem d_Co_isDead_0 : decode c_Co_isDead 0 = .ok (.aload_n 0, 1) := by decide +kernel
theorem d_Co_isDead_1 : decode c_Co_isDead 1 = .ok (.getfield 9, 3) := by decide +kernel
theorem d_Co_isDead_4 : decode c_Co_isDead 4 = .ok (.iload_n 1, 1) := by decide +kernel
theorem d_Co_isDead_5 : decode c_Co_isDead 5 = .ok (.laload, 1) := by decide +kernel
theorem d_Co_isDead_6 : decode c_Co_isDead 6 = .ok (.lconst 0, 1) := by decide +kernel
theorem d_Co_isDead_7 : decode c_Co_isDead 7 = .ok (.lcmp, 1) := by decide +kernel
theorem d_Co_isDead_8 : decode c_Co_isDead 8 = .ok (.ifCond .eq 17, 3) := by decide +kernel
theorem d_Co_isDead_11 : decode c_Co_isDead 11 = .ok (.aload_n 0, 1) := by decide +kernel
theorem d_Co_isDead_12 : decode c_Co_isDead 12 = .ok (.getfield 9, 3) := by decide +kernel
theorem d_Co_isDead_15 : decode c_Co_isDead 15 = .ok (.iload_n 1, 1) := by decide +kernel
theorem d_Co_isDead_16 : decode c_Co_isDead 16 = .ok (.laload, 1) := by decide +kernel
theorem d_Co_isDead_17 : decode c_Co_isDead 17 = .ok (.aload_n 0, 1) := by decide +kernel
theorem d_Co_isDead_18 : decode c_Co_isDead 18 = .ok (.getfield 21, 3) := by decide +kernel
theorem d_Co_isDead_21 : decode c_Co_isDead 21 = .ok (.lcmp, 1) := by decide +kernel
theorem d_Co_isDead_22 : decode c_Co_isDead 22 = .ok (.ifCond .ne 7, 3) := by decide +kernel
theorem d_Co_isDead_25 : decode c_Co_isDead 25 = .ok (.iconst 1, 1) := by decide +kernel
theorem d_Co_isDead_26 : decode c_Co_isDead 26 = .ok (.goto 4, 3) := by decide +kernel
theorem d_Co_isDead_29 : decode c_Co_isDead 29 = .ok (.iconst 0, 1) := by decide +kernel
theorem d_Co_isDead_30 : decode c_Co_isDead 30 = .ok (.ireturn, 1) := by decide +kernel
theorem d_Co_countDead_0 : decode c_Co_countDead 0 = .ok (.aload_n 0, 1) := by decide +kernel
theorem d_Co_countDead_1 : decode c_Co_countDead 1 = .ok (.aload_n 1, 1) := by decide +kernel
theorem d_Co_countDead_2 : decode c_Co_countDead 2 = .ok (.invokevirtual 28, 3) := by decide +kernel
theorem d_Co_countDead_5 : decode c_Co_countDead 5 = .ok (.iconst 0, 1) := by decide +kernel
theorem d_Co_countDead_6 : decode c_Co_countDead 6 = .ok (.istore_n 2, 1) := by decide +kernel
theorem d_Co_countDead_7 : decode c_Co_countDead 7 = .ok (.iconst 0, 1) := by decide +kernel
theorem d_Co_countDead_8 : decode c_Co_countDead 8 = .ok (.istore_n 3, 1) := by decide +kernel
theorem d_Co_countDead_9 : decode c_Co_countDead 9 = .ok (.iload_n 3, 1) := by decide +kernel
theorem d_Co_countDead_10 : decode c_Co_countDead 10 = .ok (.bipush 64, 2) := by decide +kernel
theorem d_Co_countDead_12 : decode c_Co_countDead 12 = .ok (.if_icmp .ge 20, 3) := by decide +kernel
theorem d_Co_countDead_15 : decode c_Co_countDead 15 = .ok (.aload_n 0, 1) := by decide +kernel
theorem d_Co_countDead_16 : decode c_Co_countDead 16 = .ok (.iload_n 3, 1) := by decide +kernel
theorem d_Co_countDead_17 : decode c_Co_countDead 17 = .ok (.invokevirtual 32, 3) := by decide +kernel
theorem d_Co_countDead_20 : decode c_Co_countDead 20 = .ok (.ifCond .eq 6, 3) := by decide +kernel
theorem d_Co_countDead_23 : decode c_Co_countDead 23 = .ok (.iinc 2 1, 3) := by decide +kernel
theorem d_Co_countDead_26 : decode c_Co_countDead 26 = .ok (.iinc 3 1, 3) := by decide +kernel
theorem d_Co_countDead_29 : decode c_Co_countDead 29 = .ok (.goto (-20), 3) := by decide +kernel
theorem d_Co_countDead_32 : decode c_Co_countDead 32 = .ok (.iload_n 2, 1) := by decide +kernel
theorem d_Co_countDead_33 : decode c_Co_countDead 33 = .ok (.ireturn, 1) := by decide +kernel
theorem d_Co_firstPair_0 : decode c_Co_firstPair 0 = .ok (.aload_n 0, 1) := by decide +kernel
theorem d_Co_firstPair_1 : decode c_Co_firstPair 1 = .ok (.aload_n 1, 1) := by decide +kernel
theorem d_Co_firstPair_2 : decode c_Co_firstPair 2 = .ok (.invokevirtual 28, 3) := by decide +kernel
theorem d_Co_firstPair_5 : decode c_Co_firstPair 5 = .ok (.iconst 0, 1) := by decide +kernel
theorem d_Co_firstPair_6 : decode c_Co_firstPair 6 = .ok (.istore_n 2, 1) := by decide +kernel
theorem d_Co_firstPair_7 : decode c_Co_firstPair 7 = .ok (.iload_n 2, 1) := by decide +kernel
theorem d_Co_firstPair_8 : decode c_Co_firstPair 8 = .ok (.bipush 64, 2) := by decide +kernel
theorem d_Co_firstPair_10 : decode c_Co_firstPair 10 = .ok (.if_icmp .ge 41, 3) := by decide +kernel
theorem d_Co_firstPair_13 : decode c_Co_firstPair 13 = .ok (.iload_n 2, 1) := by decide +kernel
theorem d_Co_firstPair_14 : decode c_Co_firstPair 14 = .ok (.iconst 1, 1) := by decide +kernel
theorem d_Co_firstPair_15 : decode c_Co_firstPair 15 = .ok (.iadd, 1) := by decide +kernel
theorem d_Co_firstPair_16 : decode c_Co_firstPair 16 = .ok (.istore_n 3, 1) := by decide +kernel
theorem d_Co_firstPair_17 : decode c_Co_firstPair 17 = .ok (.iload_n 3, 1) := by decide +kernel
theorem d_Co_firstPair_18 : decode c_Co_firstPair 18 = .ok (.bipush 64, 2) := by decide +kernel
theorem d_Co_firstPair_20 : decode c_Co_firstPair 20 = .ok (.if_icmp .ge 25, 3) := by decide +kernel
theorem d_Co_firstPair_23 : decode c_Co_firstPair 23 = .ok (.aload_n 0, 1) := by decide +kernel
theorem d_Co_firstPair_24 : decode c_Co_firstPair 24 = .ok (.iload_n 2, 1) := by decide +kernel
theorem d_Co_firstPair_25 : decode c_Co_firstPair 25 = .ok (.iload_n 3, 1) := by decide +kernel
theorem d_Co_firstPair_26 : decode c_Co_firstPair 26 = .ok (.invokevirtual 36, 3) := by decide +kernel
theorem d_Co_firstPair_29 : decode c_Co_firstPair 29 = .ok (.ifCond .eq 10, 3) := by decide +kernel
theorem d_Co_firstPair_32 : decode c_Co_firstPair 32 = .ok (.bipush 64, 2) := by decide +kernel
theorem d_Co_firstPair_34 : decode c_Co_firstPair 34 = .ok (.iload_n 2, 1) := by decide +kernel
theorem d_Co_firstPair_35 : decode c_Co_firstPair 35 = .ok (.imul, 1) := by decide +kernel
theorem d_Co_firstPair_36 : decode c_Co_firstPair 36 = .ok (.iload_n 3, 1) := by decide +kernel
theorem d_Co_firstPair_37 : decode c_Co_firstPair 37 = .ok (.iadd, 1) := by decide +kernel
theorem d_Co_firstPair_38 : decode c_Co_firstPair 38 = .ok (.ireturn, 1) := by decide +kernel
theorem d_Co_firstPair_39 : decode c_Co_firstPair 39 = .ok (.iinc 3 1, 3) := by decide +kernel
theorem d_Co_firstPair_42 : decode c_Co_firstPair 42 = .ok (.goto (-25), 3) := by decide +kernel
theorem d_Co_firstPair_45 : decode c_Co_firstPair 45 = .ok (.iinc 2 1, 3) := by decide +kernel
theorem d_Co_firstPair_48 : decode c_Co_firstPair 48 = .ok (.goto (-41), 3) := by decide +kernel
theorem d_Co_firstPair_51 : decode c_Co_firstPair 51 = .ok (.iconst (-1), 1) := by decide +kernel
theorem d_Co_firstPair_52 : decode c_Co_firstPair 52 = .ok (.ireturn, 1) := by decide +kernel
theorem d_Co_goTogether_0 : decode c_Co_goTogether 0 = .ok (.aload_n 0, 1) := by decide +kernel
theorem d_Co_goTogether_1 : decode c_Co_goTogether 1 = .ok (.iload_n 1, 1) := by decide +kernel
theorem d_Co_goTogether_2 : decode c_Co_goTogether 2 = .ok (.invokevirtual 32, 3) := by decide +kernel
theorem d_Co_goTogether_5 : decode c_Co_goTogether 5 = .ok (.ifCond .ne 44, 3) := by decide +kernel
theorem d_Co_goTogether_8 : decode c_Co_goTogether 8 = .ok (.aload_n 0, 1) := by decide +kernel
theorem d_Co_goTogether_9 : decode c_Co_goTogether 9 = .ok (.getfield 9, 3) := by decide +kernel
theorem d_Co_goTogether_12 : decode c_Co_goTogether 12 = .ok (.iload_n 1, 1) := by decide +kernel
theorem d_Co_goTogether_13 : decode c_Co_goTogether 13 = .ok (.laload, 1) := by decide +kernel
theorem d_Co_goTogether_14 : decode c_Co_goTogether 14 = .ok (.aload_n 0, 1) := by decide +kernel
theorem d_Co_goTogether_15 : decode c_Co_goTogether 15 = .ok (.getfield 9, 3) := by decide +kernel
theorem d_Co_goTogether_18 : decode c_Co_goTogether 18 = .ok (.iload_n 2, 1) := by decide +kernel
theorem d_Co_goTogether_19 : decode c_Co_goTogether 19 = .ok (.laload, 1) := by decide +kernel
theorem d_Co_goTogether_20 : decode c_Co_goTogether 20 = .ok (.lcmp, 1) := by decide +kernel
theorem d_Co_goTogether_21 : decode c_Co_goTogether 21 = .ok (.ifCond .eq 24, 3) := by decide +kernel
theorem d_Co_goTogether_24 : decode c_Co_goTogether 24 = .ok (.aload_n 0, 1) := by decide +kernel
theorem d_Co_goTogether_25 : decode c_Co_goTogether 25 = .ok (.getfield 9, 3) := by decide +kernel
theorem d_Co_goTogether_28 : decode c_Co_goTogether 28 = .ok (.iload_n 1, 1) := by decide +kernel
theorem d_Co_goTogether_29 : decode c_Co_goTogether 29 = .ok (.laload, 1) := by decide +kernel
theorem d_Co_goTogether_30 : decode c_Co_goTogether 30 = .ok (.aload_n 0, 1) := by decide +kernel
theorem d_Co_goTogether_31 : decode c_Co_goTogether 31 = .ok (.getfield 21, 3) := by decide +kernel
theorem d_Co_goTogether_34 : decode c_Co_goTogether 34 = .ok (.aload_n 0, 1) := by decide +kernel
theorem d_Co_goTogether_35 : decode c_Co_goTogether 35 = .ok (.getfield 9, 3) := by decide +kernel
theorem d_Co_goTogether_38 : decode c_Co_goTogether 38 = .ok (.iload_n 2, 1) := by decide +kernel
theorem d_Co_goTogether_39 : decode c_Co_goTogether 39 = .ok (.laload, 1) := by decide +kernel
theorem d_Co_goTogether_40 : decode c_Co_goTogether 40 = .ok (.lxor, 1) := by decide +kernel
theorem d_Co_goTogether_41 : decode c_Co_goTogether 41 = .ok (.lcmp, 1) := by decide +kernel
theorem d_Co_goTogether_42 : decode c_Co_goTogether 42 = .ok (.ifCond .ne 7, 3) := by decide +kernel
theorem d_Co_goTogether_45 : decode c_Co_goTogether 45 = .ok (.iconst 1, 1) := by decide +kernel
theorem d_Co_goTogether_46 : decode c_Co_goTogether 46 = .ok (.goto 4, 3) := by decide +kernel
theorem d_Co_goTogether_49 : decode c_Co_goTogether 49 = .ok (.iconst 0, 1) := by decide +kernel
theorem d_Co_goTogether_50 : decode c_Co_goTogether 50 = .ok (.ireturn, 1) := by decide +kernel
theorem d_Co_mostOf_0 : decode c_Co_mostOf 0 = .ok (.aload_n 0, 1) := by decide +kernel
theorem d_Co_mostOf_1 : decode c_Co_mostOf 1 = .ok (.aload_n 1, 1) := by decide +kernel
theorem d_Co_mostOf_2 : decode c_Co_mostOf 2 = .ok (.invokevirtual 28, 3) := by decide +kernel
theorem d_Co_mostOf_5 : decode c_Co_mostOf 5 = .ok (.lload_n 2, 1) := by decide +kernel
theorem d_Co_mostOf_6 : decode c_Co_mostOf 6 = .ok (.invokestatic 40, 3) := by decide +kernel
theorem d_Co_mostOf_9 : decode c_Co_mostOf 9 = .ok (.istore 4, 2) := by decide +kernel
theorem d_Co_mostOf_11 : decode c_Co_mostOf 11 = .ok (.lconst 0, 1) := by decide +kernel
theorem d_Co_mostOf_12 : decode c_Co_mostOf 12 = .ok (.lstore 5, 2) := by decide +kernel
theorem d_Co_mostOf_14 : decode c_Co_mostOf 14 = .ok (.iconst 0, 1) := by decide +kernel
theorem d_Co_mostOf_15 : decode c_Co_mostOf 15 = .ok (.istore 7, 2) := by decide +kernel
theorem d_Co_mostOf_17 : decode c_Co_mostOf 17 = .ok (.iload 7, 2) := by decide +kernel
theorem d_Co_mostOf_19 : decode c_Co_mostOf 19 = .ok (.bipush 64, 2) := by decide +kernel
theorem d_Co_mostOf_21 : decode c_Co_mostOf 21 = .ok (.if_icmp .ge 37, 3) := by decide +kernel
theorem d_Co_mostOf_24 : decode c_Co_mostOf 24 = .ok (.iconst 2, 1) := by decide +kernel
theorem d_Co_mostOf_25 : decode c_Co_mostOf 25 = .ok (.aload_n 0, 1) := by decide +kernel
theorem d_Co_mostOf_26 : decode c_Co_mostOf 26 = .ok (.getfield 9, 3) := by decide +kernel
theorem d_Co_mostOf_29 : decode c_Co_mostOf 29 = .ok (.iload 7, 2) := by decide +kernel
theorem d_Co_mostOf_31 : decode c_Co_mostOf 31 = .ok (.laload, 1) := by decide +kernel
theorem d_Co_mostOf_32 : decode c_Co_mostOf 32 = .ok (.lload_n 2, 1) := by decide +kernel
theorem d_Co_mostOf_33 : decode c_Co_mostOf 33 = .ok (.land, 1) := by decide +kernel
theorem d_Co_mostOf_34 : decode c_Co_mostOf 34 = .ok (.invokestatic 40, 3) := by decide +kernel
theorem d_Co_mostOf_37 : decode c_Co_mostOf 37 = .ok (.imul, 1) := by decide +kernel
theorem d_Co_mostOf_38 : decode c_Co_mostOf 38 = .ok (.iload 4, 2) := by decide +kernel
theorem d_Co_mostOf_40 : decode c_Co_mostOf 40 = .ok (.if_icmp .le 12, 3) := by decide +kernel
theorem d_Co_mostOf_43 : decode c_Co_mostOf 43 = .ok (.lload 5, 2) := by decide +kernel
theorem d_Co_mostOf_45 : decode c_Co_mostOf 45 = .ok (.lconst 1, 1) := by decide +kernel
theorem d_Co_mostOf_46 : decode c_Co_mostOf 46 = .ok (.iload 7, 2) := by decide +kernel
theorem d_Co_mostOf_48 : decode c_Co_mostOf 48 = .ok (.lshl, 1) := by decide +kernel
theorem d_Co_mostOf_49 : decode c_Co_mostOf 49 = .ok (.lor, 1) := by decide +kernel
theorem d_Co_mostOf_50 : decode c_Co_mostOf 50 = .ok (.lstore 5, 2) := by decide +kernel
theorem d_Co_mostOf_52 : decode c_Co_mostOf 52 = .ok (.iinc 7 1, 3) := by decide +kernel
theorem d_Co_mostOf_55 : decode c_Co_mostOf 55 = .ok (.goto (-38), 3) := by decide +kernel
theorem d_Co_mostOf_58 : decode c_Co_mostOf 58 = .ok (.lload 5, 2) := by decide +kernel
theorem d_Co_mostOf_60 : decode c_Co_mostOf 60 = .ok (.lreturn, 1) := by decide +kernel
theorem d_Dr_init_0 : decode c_Dr_init 0 = .ok (.aload_n 0, 1) := by decide +kernel
theorem d_Dr_init_1 : decode c_Dr_init 1 = .ok (.invokespecial 1, 3) := by decide +kernel
theorem d_Dr_init_4 : decode c_Dr_init 4 = .ok (.return_, 1) := by decide +kernel
theorem d_Dr_next_0 : decode c_Dr_next 0 = .ok (.aload_n 0, 1) := by decide +kernel
theorem d_Dr_next_1 : decode c_Dr_next 1 = .ok (.aload_n 0, 1) := by decide +kernel
theorem d_Dr_next_2 : decode c_Dr_next 2 = .ok (.getfield 7, 3) := by decide +kernel
theorem d_Dr_next_5 : decode c_Dr_next 5 = .ok (.i2l, 1) := by decide +kernel
theorem d_Dr_next_6 : decode c_Dr_next 6 = .ok (.ldc2_w 13, 3) := by decide +kernel
theorem d_Dr_next_9 : decode c_Dr_next 9 = .ok (.lmul, 1) := by decide +kernel
theorem d_Dr_next_10 : decode c_Dr_next 10 = .ok (.ldc2_w 15, 3) := by decide +kernel
theorem d_Dr_next_13 : decode c_Dr_next 13 = .ok (.ladd, 1) := by decide +kernel
theorem d_Dr_next_14 : decode c_Dr_next 14 = .ok (.ldc2_w 17, 3) := by decide +kernel
theorem d_Dr_next_17 : decode c_Dr_next 17 = .ok (.land, 1) := by decide +kernel
theorem d_Dr_next_18 : decode c_Dr_next 18 = .ok (.l2i, 1) := by decide +kernel
theorem d_Dr_next_19 : decode c_Dr_next 19 = .ok (.putfield 7, 3) := by decide +kernel
theorem d_Dr_next_22 : decode c_Dr_next 22 = .ok (.aload_n 0, 1) := by decide +kernel
theorem d_Dr_next_23 : decode c_Dr_next 23 = .ok (.getfield 7, 3) := by decide +kernel
theorem d_Dr_next_26 : decode c_Dr_next 26 = .ok (.ldc 19, 2) := by decide +kernel
theorem d_Dr_next_28 : decode c_Dr_next 28 = .ok (.idiv, 1) := by decide +kernel
theorem d_Dr_next_29 : decode c_Dr_next 29 = .ok (.iload_n 1, 1) := by decide +kernel
theorem d_Dr_next_30 : decode c_Dr_next 30 = .ok (.iconst 1, 1) := by decide +kernel
theorem d_Dr_next_31 : decode c_Dr_next 31 = .ok (.invokestatic 20, 3) := by decide +kernel
theorem d_Dr_next_34 : decode c_Dr_next 34 = .ok (.irem, 1) := by decide +kernel
theorem d_Dr_next_35 : decode c_Dr_next 35 = .ok (.ireturn, 1) := by decide +kernel
theorem d_Gr_init_0 : decode c_Gr_init 0 = .ok (.aload_n 0, 1) := by decide +kernel
theorem d_Gr_init_1 : decode c_Gr_init 1 = .ok (.invokespecial 3, 3) := by decide +kernel
theorem d_Gr_init_4 : decode c_Gr_init 4 = .ok (.aload_n 0, 1) := by decide +kernel
theorem d_Gr_init_5 : decode c_Gr_init 5 = .ok (.bipush 40, 2) := by decide +kernel
theorem d_Gr_init_7 : decode c_Gr_init 7 = .ok (.newarray .long, 2) := by decide +kernel
theorem d_Gr_init_9 : decode c_Gr_init 9 = .ok (.putfield 9, 3) := by decide +kernel
theorem d_Gr_init_12 : decode c_Gr_init 12 = .ok (.aload_n 0, 1) := by decide +kernel
theorem d_Gr_init_13 : decode c_Gr_init 13 = .ok (.bipush 40, 2) := by decide +kernel
theorem d_Gr_init_15 : decode c_Gr_init 15 = .ok (.newarray .long, 2) := by decide +kernel
theorem d_Gr_init_17 : decode c_Gr_init 17 = .ok (.putfield 15, 3) := by decide +kernel
theorem d_Gr_init_20 : decode c_Gr_init 20 = .ok (.return_, 1) := by decide +kernel
theorem d_Gr_has_0 : decode c_Gr_has 0 = .ok (.iload_n 1, 1) := by decide +kernel
theorem d_Gr_has_1 : decode c_Gr_has 1 = .ok (.ifCond .lt 15, 3) := by decide +kernel
theorem d_Gr_has_4 : decode c_Gr_has 4 = .ok (.iload_n 1, 1) := by decide +kernel
theorem d_Gr_has_5 : decode c_Gr_has 5 = .ok (.aload_n 0, 1) := by decide +kernel
theorem d_Gr_has_6 : decode c_Gr_has 6 = .ok (.getfield 18, 3) := by decide +kernel
theorem d_Gr_has_9 : decode c_Gr_has 9 = .ok (.if_icmp .ge 7, 3) := by decide +kernel
theorem d_Gr_has_12 : decode c_Gr_has 12 = .ok (.iconst 1, 1) := by decide +kernel
theorem d_Gr_has_13 : decode c_Gr_has 13 = .ok (.goto 4, 3) := by decide +kernel
theorem d_Gr_has_16 : decode c_Gr_has 16 = .ok (.iconst 0, 1) := by decide +kernel
theorem d_Gr_has_17 : decode c_Gr_has 17 = .ok (.ireturn, 1) := by decide +kernel
theorem d_Gr_join_0 : decode c_Gr_join 0 = .ok (.aload_n 0, 1) := by decide +kernel
theorem d_Gr_join_1 : decode c_Gr_join 1 = .ok (.aload_n 1, 1) := by decide +kernel
theorem d_Gr_join_2 : decode c_Gr_join 2 = .ok (.iload_n 2, 1) := by decide +kernel
theorem d_Gr_join_3 : decode c_Gr_join 3 = .ok (.invokevirtual 22, 3) := by decide +kernel
theorem d_Gr_join_6 : decode c_Gr_join 6 = .ok (.lconst 0, 1) := by decide +kernel
theorem d_Gr_join_7 : decode c_Gr_join 7 = .ok (.lstore_n 3, 1) := by decide +kernel
theorem d_Gr_join_8 : decode c_Gr_join 8 = .ok (.aload_n 0, 1) := by decide +kernel
theorem d_Gr_join_9 : decode c_Gr_join 9 = .ok (.iconst 0, 1) := by decide +kernel
theorem d_Gr_join_10 : decode c_Gr_join 10 = .ok (.putfield 18, 3) := by decide +kernel
theorem d_Gr_join_13 : decode c_Gr_join 13 = .ok (.iconst 0, 1) := by decide +kernel
theorem d_Gr_join_14 : decode c_Gr_join 14 = .ok (.istore 5, 2) := by decide +kernel
theorem d_Gr_join_16 : decode c_Gr_join 16 = .ok (.iload 5, 2) := by decide +kernel
theorem d_Gr_join_18 : decode c_Gr_join 18 = .ok (.aload_n 1, 1) := by decide +kernel
theorem d_Gr_join_19 : decode c_Gr_join 19 = .ok (.getfield 26, 3) := by decide +kernel
theorem d_Gr_join_22 : decode c_Gr_join 22 = .ok (.if_icmp .ge 59, 3) := by decide +kernel
theorem d_Gr_join_25 : decode c_Gr_join 25 = .ok (.lload_n 3, 1) := by decide +kernel
theorem d_Gr_join_26 : decode c_Gr_join 26 = .ok (.iload 5, 2) := by decide +kernel
theorem d_Gr_join_28 : decode c_Gr_join 28 = .ok (.invokestatic 29, 3) := by decide +kernel
theorem d_Gr_join_31 : decode c_Gr_join 31 = .ok (.ifCond .ne 44, 3) := by decide +kernel
theorem d_Gr_join_34 : decode c_Gr_join 34 = .ok (.aload_n 0, 1) := by decide +kernel
theorem d_Gr_join_35 : decode c_Gr_join 35 = .ok (.getfield 9, 3) := by decide +kernel
theorem d_Gr_join_38 : decode c_Gr_join 38 = .ok (.aload_n 0, 1) := by decide +kernel
theorem d_Gr_join_39 : decode c_Gr_join 39 = .ok (.getfield 18, 3) := by decide +kernel
theorem d_Gr_join_42 : decode c_Gr_join 42 = .ok (.aload_n 0, 1) := by decide +kernel
theorem d_Gr_join_43 : decode c_Gr_join 43 = .ok (.iload 5, 2) := by decide +kernel
theorem d_Gr_join_45 : decode c_Gr_join 45 = .ok (.aload_n 1, 1) := by decide +kernel
theorem d_Gr_join_46 : decode c_Gr_join 46 = .ok (.getfield 26, 3) := by decide +kernel
theorem d_Gr_join_49 : decode c_Gr_join 49 = .ok (.invokevirtual 33, 3) := by decide +kernel
theorem d_Gr_join_52 : decode c_Gr_join 52 = .ok (.lastore, 1) := by decide +kernel
theorem d_Gr_join_53 : decode c_Gr_join 53 = .ok (.lload_n 3, 1) := by decide +kernel
theorem d_Gr_join_54 : decode c_Gr_join 54 = .ok (.aload_n 0, 1) := by decide +kernel
theorem d_Gr_join_55 : decode c_Gr_join 55 = .ok (.getfield 9, 3) := by decide +kernel
theorem d_Gr_join_58 : decode c_Gr_join 58 = .ok (.aload_n 0, 1) := by decide +kernel
theorem d_Gr_join_59 : decode c_Gr_join 59 = .ok (.getfield 18, 3) := by decide +kernel
theorem d_Gr_join_62 : decode c_Gr_join 62 = .ok (.laload, 1) := by decide +kernel
theorem d_Gr_join_63 : decode c_Gr_join 63 = .ok (.lor, 1) := by decide +kernel
theorem d_Gr_join_64 : decode c_Gr_join 64 = .ok (.lstore_n 3, 1) := by decide +kernel
theorem d_Gr_join_65 : decode c_Gr_join 65 = .ok (.aload_n 0, 1) := by decide +kernel
theorem d_Gr_join_66 : decode c_Gr_join 66 = .ok (.dup, 1) := by decide +kernel
theorem d_Gr_join_67 : decode c_Gr_join 67 = .ok (.getfield 18, 3) := by decide +kernel
theorem d_Gr_join_70 : decode c_Gr_join 70 = .ok (.iconst 1, 1) := by decide +kernel
theorem d_Gr_join_71 : decode c_Gr_join 71 = .ok (.iadd, 1) := by decide +kernel
theorem d_Gr_join_72 : decode c_Gr_join 72 = .ok (.putfield 18, 3) := by decide +kernel
theorem d_Gr_join_75 : decode c_Gr_join 75 = .ok (.iinc 5 1, 3) := by decide +kernel
theorem d_Gr_join_78 : decode c_Gr_join 78 = .ok (.goto (-62), 3) := by decide +kernel
theorem d_Gr_join_81 : decode c_Gr_join 81 = .ok (.return_, 1) := by decide +kernel
theorem d_Gr_findClose_0 : decode c_Gr_findClose 0 = .ok (.iconst 0, 1) := by decide +kernel
theorem d_Gr_findClose_1 : decode c_Gr_findClose 1 = .ok (.istore_n 3, 1) := by decide +kernel
theorem d_Gr_findClose_2 : decode c_Gr_findClose 2 = .ok (.iload_n 3, 1) := by decide +kernel
theorem d_Gr_findClose_3 : decode c_Gr_findClose 3 = .ok (.aload_n 1, 1) := by decide +kernel
theorem d_Gr_findClose_4 : decode c_Gr_findClose 4 = .ok (.getfield 26, 3) := by decide +kernel
theorem d_Gr_findClose_7 : decode c_Gr_findClose 7 = .ok (.if_icmp .ge 58, 3) := by decide +kernel
theorem d_Gr_findClose_10 : decode c_Gr_findClose 10 = .ok (.aload_n 0, 1) := by decide +kernel
theorem d_Gr_findClose_11 : decode c_Gr_findClose 11 = .ok (.getfield 15, 3) := by decide +kernel
theorem d_Gr_findClose_14 : decode c_Gr_findClose 14 = .ok (.iload_n 3, 1) := by decide +kernel
theorem d_Gr_findClose_15 : decode c_Gr_findClose 15 = .ok (.lconst 0, 1) := by decide +kernel
theorem d_Gr_findClose_16 : decode c_Gr_findClose 16 = .ok (.lastore, 1) := by decide +kernel
theorem d_Gr_findClose_17 : decode c_Gr_findClose 17 = .ok (.iconst 0, 1) := by decide +kernel
theorem d_Gr_findClose_18 : decode c_Gr_findClose 18 = .ok (.istore 4, 2) := by decide +kernel
theorem d_Gr_findClose_20 : decode c_Gr_findClose 20 = .ok (.iload 4, 2) := by decide +kernel
theorem d_Gr_findClose_22 : decode c_Gr_findClose 22 = .ok (.aload_n 1, 1) := by decide +kernel
theorem d_Gr_findClose_23 : decode c_Gr_findClose 23 = .ok (.getfield 26, 3) := by decide +kernel
theorem d_Gr_findClose_26 : decode c_Gr_findClose 26 = .ok (.if_icmp .ge 33, 3) := by decide +kernel
theorem d_Gr_findClose_29 : decode c_Gr_findClose 29 = .ok (.aload_n 1, 1) := by decide +kernel
theorem d_Gr_findClose_30 : decode c_Gr_findClose 30 = .ok (.iload_n 3, 1) := by decide +kernel
theorem d_Gr_findClose_31 : decode c_Gr_findClose 31 = .ok (.iload 4, 2) := by decide +kernel
theorem d_Gr_findClose_33 : decode c_Gr_findClose 33 = .ok (.invokevirtual 37, 3) := by decide +kernel
theorem d_Gr_findClose_36 : decode c_Gr_findClose 36 = .ok (.iload_n 2, 1) := by decide +kernel
theorem d_Gr_findClose_37 : decode c_Gr_findClose 37 = .ok (.if_icmp .gt 16, 3) := by decide +kernel
theorem d_Gr_findClose_40 : decode c_Gr_findClose 40 = .ok (.aload_n 0, 1) := by decide +kernel
theorem d_Gr_findClose_41 : decode c_Gr_findClose 41 = .ok (.getfield 15, 3) := by decide +kernel
theorem d_Gr_findClose_44 : decode c_Gr_findClose 44 = .ok (.iload_n 3, 1) := by decide +kernel
theorem d_Gr_findClose_45 : decode c_Gr_findClose 45 = .ok (.dup2, 1) := by decide +kernel
theorem d_Gr_findClose_46 : decode c_Gr_findClose 46 = .ok (.laload, 1) := by decide +kernel
theorem d_Gr_findClose_47 : decode c_Gr_findClose 47 = .ok (.lconst 1, 1) := by decide +kernel
theorem d_Gr_findClose_48 : decode c_Gr_findClose 48 = .ok (.iload 4, 2) := by decide +kernel
theorem d_Gr_findClose_50 : decode c_Gr_findClose 50 = .ok (.lshl, 1) := by decide +kernel
theorem d_Gr_findClose_51 : decode c_Gr_findClose 51 = .ok (.lor, 1) := by decide +kernel
theorem d_Gr_findClose_52 : decode c_Gr_findClose 52 = .ok (.lastore, 1) := by decide +kernel
theorem d_Gr_findClose_53 : decode c_Gr_findClose 53 = .ok (.iinc 4 1, 3) := by decide +kernel
theorem d_Gr_findClose_56 : decode c_Gr_findClose 56 = .ok (.goto (-36), 3) := by decide +kernel
theorem d_Gr_findClose_59 : decode c_Gr_findClose 59 = .ok (.iinc 3 1, 3) := by decide +kernel
theorem d_Gr_findClose_62 : decode c_Gr_findClose 62 = .ok (.goto (-60), 3) := by decide +kernel
theorem d_Gr_findClose_65 : decode c_Gr_findClose 65 = .ok (.return_, 1) := by decide +kernel
theorem d_Gr_spread_0 : decode c_Gr_spread 0 = .ok (.aload_n 0, 1) := by decide +kernel
theorem d_Gr_spread_1 : decode c_Gr_spread 1 = .ok (.getfield 15, 3) := by decide +kernel
theorem d_Gr_spread_4 : decode c_Gr_spread 4 = .ok (.iload_n 1, 1) := by decide +kernel
theorem d_Gr_spread_5 : decode c_Gr_spread 5 = .ok (.laload, 1) := by decide +kernel
theorem d_Gr_spread_6 : decode c_Gr_spread 6 = .ok (.lstore_n 3, 1) := by decide +kernel
theorem d_Gr_spread_7 : decode c_Gr_spread 7 = .ok (.iconst 0, 1) := by decide +kernel
theorem d_Gr_spread_8 : decode c_Gr_spread 8 = .ok (.istore 5, 2) := by decide +kernel
theorem d_Gr_spread_10 : decode c_Gr_spread 10 = .ok (.iload 5, 2) := by decide +kernel
theorem d_Gr_spread_12 : decode c_Gr_spread 12 = .ok (.iload_n 2, 1) := by decide +kernel
theorem d_Gr_spread_13 : decode c_Gr_spread 13 = .ok (.if_icmp .ge 56, 3) := by decide +kernel
theorem d_Gr_spread_16 : decode c_Gr_spread 16 = .ok (.lload_n 3, 1) := by decide +kernel
theorem d_Gr_spread_17 : decode c_Gr_spread 17 = .ok (.lstore 6, 2) := by decide +kernel
theorem d_Gr_spread_19 : decode c_Gr_spread 19 = .ok (.iconst 0, 1) := by decide +kernel
theorem d_Gr_spread_20 : decode c_Gr_spread 20 = .ok (.istore 8, 2) := by decide +kernel
theorem d_Gr_spread_22 : decode c_Gr_spread 22 = .ok (.iload 8, 2) := by decide +kernel
theorem d_Gr_spread_24 : decode c_Gr_spread 24 = .ok (.iload_n 2, 1) := by decide +kernel
theorem d_Gr_spread_25 : decode c_Gr_spread 25 = .ok (.if_icmp .ge 28, 3) := by decide +kernel
theorem d_Gr_spread_28 : decode c_Gr_spread 28 = .ok (.lload_n 3, 1) := by decide +kernel
theorem d_Gr_spread_29 : decode c_Gr_spread 29 = .ok (.iload 8, 2) := by decide +kernel
theorem d_Gr_spread_31 : decode c_Gr_spread 31 = .ok (.invokestatic 29, 3) := by decide +kernel
theorem d_Gr_spread_34 : decode c_Gr_spread 34 = .ok (.ifCond .eq 13, 3) := by decide +kernel
theorem d_Gr_spread_37 : decode c_Gr_spread 37 = .ok (.lload_n 3, 1) := by decide +kernel
theorem d_Gr_spread_38 : decode c_Gr_spread 38 = .ok (.aload_n 0, 1) := by decide +kernel
theorem d_Gr_spread_39 : decode c_Gr_spread 39 = .ok (.getfield 15, 3) := by decide +kernel
theorem d_Gr_spread_42 : decode c_Gr_spread 42 = .ok (.iload 8, 2) := by decide +kernel
theorem d_Gr_spread_44 : decode c_Gr_spread 44 = .ok (.laload, 1) := by decide +kernel
theorem d_Gr_spread_45 : decode c_Gr_spread 45 = .ok (.lor, 1) := by decide +kernel
theorem d_Gr_spread_46 : decode c_Gr_spread 46 = .ok (.lstore_n 3, 1) := by decide +kernel
theorem d_Gr_spread_47 : decode c_Gr_spread 47 = .ok (.iinc 8 1, 3) := by decide +kernel
theorem d_Gr_spread_50 : decode c_Gr_spread 50 = .ok (.goto (-28), 3) := by decide +kernel
theorem d_Gr_spread_53 : decode c_Gr_spread 53 = .ok (.lload_n 3, 1) := by decide +kernel
theorem d_Gr_spread_54 : decode c_Gr_spread 54 = .ok (.lload 6, 2) := by decide +kernel
theorem d_Gr_spread_56 : decode c_Gr_spread 56 = .ok (.lcmp, 1) := by decide +kernel
theorem d_Gr_spread_57 : decode c_Gr_spread 57 = .ok (.ifCond .ne 6, 3) := by decide +kernel
theorem d_Gr_spread_60 : decode c_Gr_spread 60 = .ok (.goto 9, 3) := by decide +kernel
theorem d_Gr_spread_63 : decode c_Gr_spread 63 = .ok (.iinc 5 1, 3) := by decide +kernel
theorem d_Gr_spread_66 : decode c_Gr_spread 66 = .ok (.goto (-56), 3) := by decide +kernel
theorem d_Gr_spread_69 : decode c_Gr_spread 69 = .ok (.lload_n 3, 1) := by decide +kernel
theorem d_Gr_spread_70 : decode c_Gr_spread 70 = .ok (.lreturn, 1) := by decide +kernel
theorem d_Im_init_0 : decode c_Im_init 0 = .ok (.aload_n 0, 1) := by decide +kernel
theorem d_Im_init_1 : decode c_Im_init 1 = .ok (.invokespecial 1, 3) := by decide +kernel
theorem d_Im_init_4 : decode c_Im_init 4 = .ok (.aload_n 0, 1) := by decide +kernel
theorem d_Im_init_5 : decode c_Im_init 5 = .ok (.new 7, 3) := by decide +kernel
theorem d_Im_init_8 : decode c_Im_init 8 = .ok (.dup, 1) := by decide +kernel
theorem d_Im_init_9 : decode c_Im_init 9 = .ok (.invokespecial 9, 3) := by decide +kernel
theorem d_Im_init_12 : decode c_Im_init 12 = .ok (.putfield 10, 3) := by decide +kernel
theorem d_Im_init_15 : decode c_Im_init 15 = .ok (.return_, 1) := by decide +kernel
theorem d_Pt_init_0 : decode c_Pt_init 0 = .ok (.aload_n 0, 1) := by decide +kernel
theorem d_Pt_init_1 : decode c_Pt_init 1 = .ok (.invokespecial 3, 3) := by decide +kernel
theorem d_Pt_init_4 : decode c_Pt_init 4 = .ok (.aload_n 0, 1) := by decide +kernel
theorem d_Pt_init_5 : decode c_Pt_init 5 = .ok (.bipush 8, 2) := by decide +kernel
theorem d_Pt_init_7 : decode c_Pt_init 7 = .ok (.newarray .int, 2) := by decide +kernel
theorem d_Pt_init_9 : decode c_Pt_init 9 = .ok (.putfield 9, 3) := by decide +kernel
theorem d_Pt_init_12 : decode c_Pt_init 12 = .ok (.aload_n 0, 1) := by decide +kernel
theorem d_Pt_init_13 : decode c_Pt_init 13 = .ok (.bipush 8, 2) := by decide +kernel
theorem d_Pt_init_15 : decode c_Pt_init 15 = .ok (.newarray .long, 2) := by decide +kernel
theorem d_Pt_init_17 : decode c_Pt_init 17 = .ok (.putfield 15, 3) := by decide +kernel
theorem d_Pt_init_20 : decode c_Pt_init 20 = .ok (.return_, 1) := by decide +kernel
theorem d_Pt_reach_0 : decode c_Pt_reach 0 = .ok (.aload_n 0, 1) := by decide +kernel
theorem d_Pt_reach_1 : decode c_Pt_reach 1 = .ok (.getfield 19, 3) := by decide +kernel
theorem d_Pt_reach_4 : decode c_Pt_reach 4 = .ok (.iconst 1, 1) := by decide +kernel
theorem d_Pt_reach_5 : decode c_Pt_reach 5 = .ok (.isub, 1) := by decide +kernel
theorem d_Pt_reach_6 : decode c_Pt_reach 6 = .ok (.ireturn, 1) := by decide +kernel
theorem d_Pt_beginAt_0 : decode c_Pt_beginAt 0 = .ok (.aload_n 0, 1) := by decide +kernel
theorem d_Pt_beginAt_1 : decode c_Pt_beginAt 1 = .ok (.iconst 0, 1) := by decide +kernel
theorem d_Pt_beginAt_2 : decode c_Pt_beginAt 2 = .ok (.putfield 19, 3) := by decide +kernel
theorem d_Pt_beginAt_5 : decode c_Pt_beginAt 5 = .ok (.iconst 0, 1) := by decide +kernel
theorem d_Pt_beginAt_6 : decode c_Pt_beginAt 6 = .ok (.istore_n 3, 1) := by decide +kernel
theorem d_Pt_beginAt_7 : decode c_Pt_beginAt 7 = .ok (.iload_n 3, 1) := by decide +kernel
theorem d_Pt_beginAt_8 : decode c_Pt_beginAt 8 = .ok (.bipush 64, 2) := by decide +kernel
theorem d_Pt_beginAt_10 : decode c_Pt_beginAt 10 = .ok (.if_icmp .ge 80, 3) := by decide +kernel
theorem d_Pt_beginAt_13 : decode c_Pt_beginAt 13 = .ok (.lload_n 1, 1) := by decide +kernel
theorem d_Pt_beginAt_14 : decode c_Pt_beginAt 14 = .ok (.iload_n 3, 1) := by decide +kernel
theorem d_Pt_beginAt_15 : decode c_Pt_beginAt 15 = .ok (.invokestatic 23, 3) := by decide +kernel
theorem d_Pt_beginAt_18 : decode c_Pt_beginAt 18 = .ok (.ifCond .eq 42, 3) := by decide +kernel
theorem d_Pt_beginAt_21 : decode c_Pt_beginAt 21 = .ok (.aload_n 0, 1) := by decide +kernel
theorem d_Pt_beginAt_22 : decode c_Pt_beginAt 22 = .ok (.getfield 19, 3) := by decide +kernel
theorem d_Pt_beginAt_25 : decode c_Pt_beginAt 25 = .ok (.bipush 8, 2) := by decide +kernel
theorem d_Pt_beginAt_27 : decode c_Pt_beginAt 27 = .ok (.if_icmp .ge 33, 3) := by decide +kernel
theorem d_Pt_beginAt_30 : decode c_Pt_beginAt 30 = .ok (.aload_n 0, 1) := by decide +kernel
theorem d_Pt_beginAt_31 : decode c_Pt_beginAt 31 = .ok (.getfield 9, 3) := by decide +kernel
theorem d_Pt_beginAt_34 : decode c_Pt_beginAt 34 = .ok (.aload_n 0, 1) := by decide +kernel
theorem d_Pt_beginAt_35 : decode c_Pt_beginAt 35 = .ok (.getfield 19, 3) := by decide +kernel
theorem d_Pt_beginAt_38 : decode c_Pt_beginAt 38 = .ok (.iload_n 3, 1) := by decide +kernel
theorem d_Pt_beginAt_39 : decode c_Pt_beginAt 39 = .ok (.iastore, 1) := by decide +kernel
theorem d_Pt_beginAt_40 : decode c_Pt_beginAt 40 = .ok (.aload_n 0, 1) := by decide +kernel
theorem d_Pt_beginAt_41 : decode c_Pt_beginAt 41 = .ok (.getfield 15, 3) := by decide +kernel
theorem d_Pt_beginAt_44 : decode c_Pt_beginAt 44 = .ok (.aload_n 0, 1) := by decide +kernel
theorem d_Pt_beginAt_45 : decode c_Pt_beginAt 45 = .ok (.getfield 19, 3) := by decide +kernel
theorem d_Pt_beginAt_48 : decode c_Pt_beginAt 48 = .ok (.lconst 0, 1) := by decide +kernel
theorem d_Pt_beginAt_49 : decode c_Pt_beginAt 49 = .ok (.lastore, 1) := by decide +kernel
theorem d_Pt_beginAt_50 : decode c_Pt_beginAt 50 = .ok (.aload_n 0, 1) := by decide +kernel
theorem d_Pt_beginAt_51 : decode c_Pt_beginAt 51 = .ok (.dup, 1) := by decide +kernel
theorem d_Pt_beginAt_52 : decode c_Pt_beginAt 52 = .ok (.getfield 19, 3) := by decide +kernel
theorem d_Pt_beginAt_55 : decode c_Pt_beginAt 55 = .ok (.iconst 1, 1) := by decide +kernel
theorem d_Pt_beginAt_56 : decode c_Pt_beginAt 56 = .ok (.iadd, 1) := by decide +kernel
theorem d_Pt_beginAt_57 : decode c_Pt_beginAt 57 = .ok (.putfield 19, 3) := by decide +kernel
theorem d_Pt_beginAt_60 : decode c_Pt_beginAt 60 = .ok (.aload_n 0, 1) := by decide +kernel
theorem d_Pt_beginAt_61 : decode c_Pt_beginAt 61 = .ok (.getfield 19, 3) := by decide +kernel
theorem d_Pt_beginAt_64 : decode c_Pt_beginAt 64 = .ok (.ifCond .le 20, 3) := by decide +kernel
theorem d_Pt_beginAt_67 : decode c_Pt_beginAt 67 = .ok (.aload_n 0, 1) := by decide +kernel
theorem d_Pt_beginAt_68 : decode c_Pt_beginAt 68 = .ok (.getfield 15, 3) := by decide +kernel
theorem d_Pt_beginAt_71 : decode c_Pt_beginAt 71 = .ok (.aload_n 0, 1) := by decide +kernel
theorem d_Pt_beginAt_72 : decode c_Pt_beginAt 72 = .ok (.getfield 19, 3) := by decide +kernel
theorem d_Pt_beginAt_75 : decode c_Pt_beginAt 75 = .ok (.iconst 1, 1) := by decide +kernel
theorem d_Pt_beginAt_76 : decode c_Pt_beginAt 76 = .ok (.isub, 1) := by decide +kernel
theorem d_Pt_beginAt_77 : decode c_Pt_beginAt 77 = .ok (.dup2, 1) := by decide +kernel
theorem d_Pt_beginAt_78 : decode c_Pt_beginAt 78 = .ok (.laload, 1) := by decide +kernel
theorem d_Pt_beginAt_79 : decode c_Pt_beginAt 79 = .ok (.lconst 1, 1) := by decide +kernel
theorem d_Pt_beginAt_80 : decode c_Pt_beginAt 80 = .ok (.iload_n 3, 1) := by decide +kernel
theorem d_Pt_beginAt_81 : decode c_Pt_beginAt 81 = .ok (.lshl, 1) := by decide +kernel
theorem d_Pt_beginAt_82 : decode c_Pt_beginAt 82 = .ok (.lor, 1) := by decide +kernel
theorem d_Pt_beginAt_83 : decode c_Pt_beginAt 83 = .ok (.lastore, 1) := by decide +kernel
theorem d_Pt_beginAt_84 : decode c_Pt_beginAt 84 = .ok (.iinc 3 1, 3) := by decide +kernel
theorem d_Pt_beginAt_87 : decode c_Pt_beginAt 87 = .ok (.goto (-80), 3) := by decide +kernel
theorem d_Pt_beginAt_90 : decode c_Pt_beginAt 90 = .ok (.return_, 1) := by decide +kernel
theorem d_Pt_beginEvenly_0 : decode c_Pt_beginEvenly 0 = .ok (.bipush 64, 2) := by decide +kernel
theorem d_Pt_beginEvenly_2 : decode c_Pt_beginEvenly 2 = .ok (.iload_n 1, 1) := by decide +kernel
theorem d_Pt_beginEvenly_3 : decode c_Pt_beginEvenly 3 = .ok (.iconst 1, 1) := by decide +kernel
theorem d_Pt_beginEvenly_4 : decode c_Pt_beginEvenly 4 = .ok (.invokestatic 27, 3) := by decide +kernel
theorem d_Pt_beginEvenly_7 : decode c_Pt_beginEvenly 7 = .ok (.idiv, 1) := by decide +kernel
theorem d_Pt_beginEvenly_8 : decode c_Pt_beginEvenly 8 = .ok (.istore_n 3, 1) := by decide +kernel
theorem d_Pt_beginEvenly_9 : decode c_Pt_beginEvenly 9 = .ok (.bipush 64, 2) := by decide +kernel
theorem d_Pt_beginEvenly_11 : decode c_Pt_beginEvenly 11 = .ok (.iload_n 3, 1) := by decide +kernel
theorem d_Pt_beginEvenly_12 : decode c_Pt_beginEvenly 12 = .ok (.iload_n 1, 1) := by decide +kernel
theorem d_Pt_beginEvenly_13 : decode c_Pt_beginEvenly 13 = .ok (.imul, 1) := by decide +kernel
theorem d_Pt_beginEvenly_14 : decode c_Pt_beginEvenly 14 = .ok (.isub, 1) := by decide +kernel
theorem d_Pt_beginEvenly_15 : decode c_Pt_beginEvenly 15 = .ok (.istore 4, 2) := by decide +kernel
theorem d_Pt_beginEvenly_17 : decode c_Pt_beginEvenly 17 = .ok (.lconst 0, 1) := by decide +kernel
theorem d_Pt_beginEvenly_18 : decode c_Pt_beginEvenly 18 = .ok (.lstore 5, 2) := by decide +kernel
theorem d_Pt_beginEvenly_20 : decode c_Pt_beginEvenly 20 = .ok (.iconst 0, 1) := by decide +kernel
theorem d_Pt_beginEvenly_21 : decode c_Pt_beginEvenly 21 = .ok (.istore 7, 2) := by decide +kernel
theorem d_Pt_beginEvenly_23 : decode c_Pt_beginEvenly 23 = .ok (.iconst 0, 1) := by decide +kernel
theorem d_Pt_beginEvenly_24 : decode c_Pt_beginEvenly 24 = .ok (.istore 8, 2) := by decide +kernel
theorem d_Pt_beginEvenly_26 : decode c_Pt_beginEvenly 26 = .ok (.iload 8, 2) := by decide +kernel
theorem d_Pt_beginEvenly_28 : decode c_Pt_beginEvenly 28 = .ok (.iload_n 1, 1) := by decide +kernel
theorem d_Pt_beginEvenly_29 : decode c_Pt_beginEvenly 29 = .ok (.if_icmp .ge 42, 3) := by decide +kernel
theorem d_Pt_beginEvenly_32 : decode c_Pt_beginEvenly 32 = .ok (.lload 5, 2) := by decide +kernel
theorem d_Pt_beginEvenly_34 : decode c_Pt_beginEvenly 34 = .ok (.lconst 1, 1) := by decide +kernel
theorem d_Pt_beginEvenly_35 : decode c_Pt_beginEvenly 35 = .ok (.iload 7, 2) := by decide +kernel
theorem d_Pt_beginEvenly_37 : decode c_Pt_beginEvenly 37 = .ok (.lshl, 1) := by decide +kernel
theorem d_Pt_beginEvenly_38 : decode c_Pt_beginEvenly 38 = .ok (.lor, 1) := by decide +kernel
theorem d_Pt_beginEvenly_39 : decode c_Pt_beginEvenly 39 = .ok (.lstore 5, 2) := by decide +kernel
theorem d_Pt_beginEvenly_41 : decode c_Pt_beginEvenly 41 = .ok (.iload 7, 2) := by decide +kernel
theorem d_Pt_beginEvenly_43 : decode c_Pt_beginEvenly 43 = .ok (.iload 8, 2) := by decide +kernel
theorem d_Pt_beginEvenly_45 : decode c_Pt_beginEvenly 45 = .ok (.iload_n 1, 1) := by decide +kernel
theorem d_Pt_beginEvenly_46 : decode c_Pt_beginEvenly 46 = .ok (.iload_n 2, 1) := by decide +kernel
theorem d_Pt_beginEvenly_47 : decode c_Pt_beginEvenly 47 = .ok (.invokestatic 33, 3) := by decide +kernel
theorem d_Pt_beginEvenly_50 : decode c_Pt_beginEvenly 50 = .ok (.iload 4, 2) := by decide +kernel
theorem d_Pt_beginEvenly_52 : decode c_Pt_beginEvenly 52 = .ok (.if_icmp .ge 9, 3) := by decide +kernel
theorem d_Pt_beginEvenly_55 : decode c_Pt_beginEvenly 55 = .ok (.iload_n 3, 1) := by decide +kernel
theorem d_Pt_beginEvenly_56 : decode c_Pt_beginEvenly 56 = .ok (.iconst 1, 1) := by decide +kernel
theorem d_Pt_beginEvenly_57 : decode c_Pt_beginEvenly 57 = .ok (.iadd, 1) := by decide +kernel
theorem d_Pt_beginEvenly_58 : decode c_Pt_beginEvenly 58 = .ok (.goto 4, 3) := by decide +kernel
theorem d_Pt_beginEvenly_61 : decode c_Pt_beginEvenly 61 = .ok (.iload_n 3, 1) := by decide +kernel
theorem d_Pt_beginEvenly_62 : decode c_Pt_beginEvenly 62 = .ok (.iadd, 1) := by decide +kernel
theorem d_Pt_beginEvenly_63 : decode c_Pt_beginEvenly 63 = .ok (.istore 7, 2) := by decide +kernel
theorem d_Pt_beginEvenly_65 : decode c_Pt_beginEvenly 65 = .ok (.iinc 8 1, 3) := by decide +kernel
theorem d_Pt_beginEvenly_68 : decode c_Pt_beginEvenly 68 = .ok (.goto (-42), 3) := by decide +kernel
theorem d_Pt_beginEvenly_71 : decode c_Pt_beginEvenly 71 = .ok (.aload_n 0, 1) := by decide +kernel
theorem d_Pt_beginEvenly_72 : decode c_Pt_beginEvenly 72 = .ok (.lload 5, 2) := by decide +kernel
theorem d_Pt_beginEvenly_74 : decode c_Pt_beginEvenly 74 = .ok (.invokevirtual 37, 3) := by decide +kernel
theorem d_Pt_beginEvenly_77 : decode c_Pt_beginEvenly 77 = .ok (.return_, 1) := by decide +kernel
theorem d_Pt_turnOf_0 : decode c_Pt_turnOf 0 = .ok (.iload_n 2, 1) := by decide +kernel
theorem d_Pt_turnOf_1 : decode c_Pt_turnOf 1 = .ok (.ifCond .ne 5, 3) := by decide +kernel
theorem d_Pt_turnOf_4 : decode c_Pt_turnOf 4 = .ok (.iload_n 0, 1) := by decide +kernel
theorem d_Pt_turnOf_5 : decode c_Pt_turnOf 5 = .ok (.ireturn, 1) := by decide +kernel
theorem d_Pt_turnOf_6 : decode c_Pt_turnOf 6 = .ok (.iload_n 2, 1) := by decide +kernel
theorem d_Pt_turnOf_7 : decode c_Pt_turnOf 7 = .ok (.iconst 1, 1) := by decide +kernel
theorem d_Pt_turnOf_8 : decode c_Pt_turnOf 8 = .ok (.if_icmp .ne 9, 3) := by decide +kernel
theorem d_Pt_turnOf_11 : decode c_Pt_turnOf 11 = .ok (.iload_n 1, 1) := by decide +kernel
theorem d_Pt_turnOf_12 : decode c_Pt_turnOf 12 = .ok (.iconst 1, 1) := by decide +kernel
theorem d_Pt_turnOf_13 : decode c_Pt_turnOf 13 = .ok (.isub, 1) := by decide +kernel
theorem d_Pt_turnOf_14 : decode c_Pt_turnOf 14 = .ok (.iload_n 0, 1) := by decide +kernel
theorem d_Pt_turnOf_15 : decode c_Pt_turnOf 15 = .ok (.isub, 1) := by decide +kernel
theorem d_Pt_turnOf_16 : decode c_Pt_turnOf 16 = .ok (.ireturn, 1) := by decide +kernel
theorem d_Pt_turnOf_17 : decode c_Pt_turnOf 17 = .ok (.iload_n 0, 1) := by decide +kernel
theorem d_Pt_turnOf_18 : decode c_Pt_turnOf 18 = .ok (.iconst 2, 1) := by decide +kernel
theorem d_Pt_turnOf_19 : decode c_Pt_turnOf 19 = .ok (.irem, 1) := by decide +kernel
theorem d_Pt_turnOf_20 : decode c_Pt_turnOf 20 = .ok (.ifCond .ne 9, 3) := by decide +kernel
theorem d_Pt_turnOf_23 : decode c_Pt_turnOf 23 = .ok (.iload_n 0, 1) := by decide +kernel
theorem d_Pt_turnOf_24 : decode c_Pt_turnOf 24 = .ok (.iconst 2, 1) := by decide +kernel
theorem d_Pt_turnOf_25 : decode c_Pt_turnOf 25 = .ok (.idiv, 1) := by decide +kernel
theorem d_Pt_turnOf_26 : decode c_Pt_turnOf 26 = .ok (.goto 12, 3) := by decide +kernel
theorem d_Pt_turnOf_29 : decode c_Pt_turnOf 29 = .ok (.iload_n 1, 1) := by decide +kernel
theorem d_Pt_turnOf_30 : decode c_Pt_turnOf 30 = .ok (.iconst 1, 1) := by decide +kernel
theorem d_Pt_turnOf_31 : decode c_Pt_turnOf 31 = .ok (.iadd, 1) := by decide +kernel
theorem d_Pt_turnOf_32 : decode c_Pt_turnOf 32 = .ok (.iconst 2, 1) := by decide +kernel
theorem d_Pt_turnOf_33 : decode c_Pt_turnOf 33 = .ok (.idiv, 1) := by decide +kernel
theorem d_Pt_turnOf_34 : decode c_Pt_turnOf 34 = .ok (.iload_n 0, 1) := by decide +kernel
theorem d_Pt_turnOf_35 : decode c_Pt_turnOf 35 = .ok (.iconst 2, 1) := by decide +kernel
theorem d_Pt_turnOf_36 : decode c_Pt_turnOf 36 = .ok (.idiv, 1) := by decide +kernel
theorem d_Pt_turnOf_37 : decode c_Pt_turnOf 37 = .ok (.iadd, 1) := by decide +kernel
theorem d_Pt_turnOf_38 : decode c_Pt_turnOf 38 = .ok (.ireturn, 1) := by decide +kernel
theorem d_Pt_anyAlike_0 : decode c_Pt_anyAlike 0 = .ok (.iconst 0, 1) := by decide +kernel
theorem d_Pt_anyAlike_1 : decode c_Pt_anyAlike 1 = .ok (.istore_n 3, 1) := by decide +kernel
theorem d_Pt_anyAlike_2 : decode c_Pt_anyAlike 2 = .ok (.iload_n 3, 1) := by decide +kernel
theorem d_Pt_anyAlike_3 : decode c_Pt_anyAlike 3 = .ok (.aload_n 0, 1) := by decide +kernel
theorem d_Pt_anyAlike_4 : decode c_Pt_anyAlike 4 = .ok (.getfield 19, 3) := by decide +kernel
theorem d_Pt_anyAlike_7 : decode c_Pt_anyAlike 7 = .ok (.if_icmp .ge 24, 3) := by decide +kernel
theorem d_Pt_anyAlike_10 : decode c_Pt_anyAlike 10 = .ok (.lload_n 1, 1) := by decide +kernel
theorem d_Pt_anyAlike_11 : decode c_Pt_anyAlike 11 = .ok (.aload_n 0, 1) := by decide +kernel
theorem d_Pt_anyAlike_12 : decode c_Pt_anyAlike 12 = .ok (.getfield 15, 3) := by decide +kernel
theorem d_Pt_anyAlike_15 : decode c_Pt_anyAlike 15 = .ok (.iload_n 3, 1) := by decide +kernel
theorem d_Pt_anyAlike_16 : decode c_Pt_anyAlike 16 = .ok (.laload, 1) := by decide +kernel
theorem d_Pt_anyAlike_17 : decode c_Pt_anyAlike 17 = .ok (.land, 1) := by decide +kernel
theorem d_Pt_anyAlike_18 : decode c_Pt_anyAlike 18 = .ok (.lconst 0, 1) := by decide +kernel
theorem d_Pt_anyAlike_19 : decode c_Pt_anyAlike 19 = .ok (.lcmp, 1) := by decide +kernel
theorem d_Pt_anyAlike_20 : decode c_Pt_anyAlike 20 = .ok (.ifCond .ne 5, 3) := by decide +kernel
theorem d_Pt_anyAlike_23 : decode c_Pt_anyAlike 23 = .ok (.iconst 1, 1) := by decide +kernel
theorem d_Pt_anyAlike_24 : decode c_Pt_anyAlike 24 = .ok (.ireturn, 1) := by decide +kernel
theorem d_Pt_anyAlike_25 : decode c_Pt_anyAlike 25 = .ok (.iinc 3 1, 3) := by decide +kernel
theorem d_Pt_anyAlike_28 : decode c_Pt_anyAlike 28 = .ok (.goto (-26), 3) := by decide +kernel
theorem d_Pt_anyAlike_31 : decode c_Pt_anyAlike 31 = .ok (.iconst 0, 1) := by decide +kernel
theorem d_Pt_anyAlike_32 : decode c_Pt_anyAlike 32 = .ok (.ireturn, 1) := by decide +kernel
theorem d_Pa_init_0 : decode c_Pa_init 0 = .ok (.aload_n 0, 1) := by decide +kernel
theorem d_Pa_init_1 : decode c_Pa_init 1 = .ok (.invokespecial 3, 3) := by decide +kernel
theorem d_Pa_init_4 : decode c_Pa_init 4 = .ok (.aload_n 0, 1) := by decide +kernel
theorem d_Pa_init_5 : decode c_Pa_init 5 = .ok (.bipush 20, 2) := by decide +kernel
theorem d_Pa_init_7 : decode c_Pa_init 7 = .ok (.anewarray 9, 3) := by decide +kernel
theorem d_Pa_init_10 : decode c_Pa_init 10 = .ok (.putfield 11, 3) := by decide +kernel
theorem d_Pa_init_13 : decode c_Pa_init 13 = .ok (.iconst 0, 1) := by decide +kernel
theorem d_Pa_init_14 : decode c_Pa_init 14 = .ok (.istore_n 1, 1) := by decide +kernel
theorem d_Pa_init_15 : decode c_Pa_init 15 = .ok (.iload_n 1, 1) := by decide +kernel
theorem d_Pa_init_16 : decode c_Pa_init 16 = .ok (.bipush 20, 2) := by decide +kernel
theorem d_Pa_init_18 : decode c_Pa_init 18 = .ok (.if_icmp .ge 22, 3) := by decide +kernel
theorem d_Pa_init_21 : decode c_Pa_init 21 = .ok (.aload_n 0, 1) := by decide +kernel
theorem d_Pa_init_22 : decode c_Pa_init 22 = .ok (.getfield 11, 3) := by decide +kernel
theorem d_Pa_init_25 : decode c_Pa_init 25 = .ok (.iload_n 1, 1) := by decide +kernel
theorem d_Pa_init_26 : decode c_Pa_init 26 = .ok (.new 9, 3) := by decide +kernel
theorem d_Pa_init_29 : decode c_Pa_init 29 = .ok (.dup, 1) := by decide +kernel
theorem d_Pa_init_30 : decode c_Pa_init 30 = .ok (.invokespecial 17, 3) := by decide +kernel
theorem d_Pa_init_33 : decode c_Pa_init 33 = .ok (.aastore, 1) := by decide +kernel
theorem d_Pa_init_34 : decode c_Pa_init 34 = .ok (.iinc 1 1, 3) := by decide +kernel
theorem d_Pa_init_37 : decode c_Pa_init 37 = .ok (.goto (-22), 3) := by decide +kernel
theorem d_Pa_init_40 : decode c_Pa_init 40 = .ok (.return_, 1) := by decide +kernel
theorem d_Pa_remember_0 : decode c_Pa_remember 0 = .ok (.aload_n 0, 1) := by decide +kernel
theorem d_Pa_remember_1 : decode c_Pa_remember 1 = .ok (.getfield 11, 3) := by decide +kernel
theorem d_Pa_remember_4 : decode c_Pa_remember 4 = .ok (.aload_n 0, 1) := by decide +kernel
theorem d_Pa_remember_5 : decode c_Pa_remember 5 = .ok (.getfield 18, 3) := by decide +kernel
theorem d_Pa_remember_8 : decode c_Pa_remember 8 = .ok (.aaload, 1) := by decide +kernel
theorem d_Pa_remember_9 : decode c_Pa_remember 9 = .ok (.aload_n 1, 1) := by decide +kernel
theorem d_Pa_remember_10 : decode c_Pa_remember 10 = .ok (.invokevirtual 22, 3) := by decide +kernel
theorem d_Pa_remember_13 : decode c_Pa_remember 13 = .ok (.aload_n 0, 1) := by decide +kernel
theorem d_Pa_remember_14 : decode c_Pa_remember 14 = .ok (.aload_n 0, 1) := by decide +kernel
theorem d_Pa_remember_15 : decode c_Pa_remember 15 = .ok (.getfield 18, 3) := by decide +kernel
theorem d_Pa_remember_18 : decode c_Pa_remember 18 = .ok (.iconst 1, 1) := by decide +kernel
theorem d_Pa_remember_19 : decode c_Pa_remember 19 = .ok (.iadd, 1) := by decide +kernel
theorem d_Pa_remember_20 : decode c_Pa_remember 20 = .ok (.bipush 20, 2) := by decide +kernel
theorem d_Pa_remember_22 : decode c_Pa_remember 22 = .ok (.if_icmp .ge 12, 3) := by decide +kernel
theorem d_Pa_remember_25 : decode c_Pa_remember 25 = .ok (.aload_n 0, 1) := by decide +kernel
theorem d_Pa_remember_26 : decode c_Pa_remember 26 = .ok (.getfield 18, 3) := by decide +kernel
theorem d_Pa_remember_29 : decode c_Pa_remember 29 = .ok (.iconst 1, 1) := by decide +kernel
theorem d_Pa_remember_30 : decode c_Pa_remember 30 = .ok (.iadd, 1) := by decide +kernel
theorem d_Pa_remember_31 : decode c_Pa_remember 31 = .ok (.goto 4, 3) := by decide +kernel
theorem d_Pa_remember_34 : decode c_Pa_remember 34 = .ok (.iconst 0, 1) := by decide +kernel
theorem d_Pa_remember_35 : decode c_Pa_remember 35 = .ok (.putfield 18, 3) := by decide +kernel
theorem d_Pa_remember_38 : decode c_Pa_remember 38 = .ok (.aload_n 0, 1) := by decide +kernel
theorem d_Pa_remember_39 : decode c_Pa_remember 39 = .ok (.aload_n 0, 1) := by decide +kernel
theorem d_Pa_remember_40 : decode c_Pa_remember 40 = .ok (.getfield 26, 3) := by decide +kernel
theorem d_Pa_remember_43 : decode c_Pa_remember 43 = .ok (.iconst 1, 1) := by decide +kernel
theorem d_Pa_remember_44 : decode c_Pa_remember 44 = .ok (.iadd, 1) := by decide +kernel
theorem d_Pa_remember_45 : decode c_Pa_remember 45 = .ok (.bipush 20, 2) := by decide +kernel
theorem d_Pa_remember_47 : decode c_Pa_remember 47 = .ok (.invokestatic 29, 3) := by decide +kernel
theorem d_Pa_remember_50 : decode c_Pa_remember 50 = .ok (.putfield 26, 3) := by decide +kernel
theorem d_Pa_remember_53 : decode c_Pa_remember 53 = .ok (.return_, 1) := by decide +kernel
theorem d_Pa_bringBack_0 : decode c_Pa_bringBack 0 = .ok (.aload_n 0, 1) := by decide +kernel
theorem d_Pa_bringBack_1 : decode c_Pa_bringBack 1 = .ok (.aload_n 0, 1) := by decide +kernel
theorem d_Pa_bringBack_2 : decode c_Pa_bringBack 2 = .ok (.getfield 18, 3) := by decide +kernel
theorem d_Pa_bringBack_5 : decode c_Pa_bringBack 5 = .ok (.iload_n 1, 1) := by decide +kernel
theorem d_Pa_bringBack_6 : decode c_Pa_bringBack 6 = .ok (.if_icmp .lt 12, 3) := by decide +kernel
theorem d_Pa_bringBack_9 : decode c_Pa_bringBack 9 = .ok (.aload_n 0, 1) := by decide +kernel
theorem d_Pa_bringBack_10 : decode c_Pa_bringBack 10 = .ok (.getfield 18, 3) := by decide +kernel
theorem d_Pa_bringBack_13 : decode c_Pa_bringBack 13 = .ok (.iload_n 1, 1) := by decide +kernel
theorem d_Pa_bringBack_14 : decode c_Pa_bringBack 14 = .ok (.isub, 1) := by decide +kernel
theorem d_Pa_bringBack_15 : decode c_Pa_bringBack 15 = .ok (.goto 12, 3) := by decide +kernel
theorem d_Pa_bringBack_18 : decode c_Pa_bringBack 18 = .ok (.aload_n 0, 1) := by decide +kernel
theorem d_Pa_bringBack_19 : decode c_Pa_bringBack 19 = .ok (.getfield 18, 3) := by decide +kernel
theorem d_Pa_bringBack_22 : decode c_Pa_bringBack 22 = .ok (.iload_n 1, 1) := by decide +kernel
theorem d_Pa_bringBack_23 : decode c_Pa_bringBack 23 = .ok (.isub, 1) := by decide +kernel
theorem d_Pa_bringBack_24 : decode c_Pa_bringBack 24 = .ok (.bipush 20, 2) := by decide +kernel
theorem d_Pa_bringBack_26 : decode c_Pa_bringBack 26 = .ok (.iadd, 1) := by decide +kernel
theorem d_Pa_bringBack_27 : decode c_Pa_bringBack 27 = .ok (.putfield 18, 3) := by decide +kernel
theorem d_Pa_bringBack_30 : decode c_Pa_bringBack 30 = .ok (.aload_n 0, 1) := by decide +kernel
theorem d_Pa_bringBack_31 : decode c_Pa_bringBack 31 = .ok (.dup, 1) := by decide +kernel
theorem d_Pa_bringBack_32 : decode c_Pa_bringBack 32 = .ok (.getfield 26, 3) := by decide +kernel
theorem d_Pa_bringBack_35 : decode c_Pa_bringBack 35 = .ok (.iload_n 1, 1) := by decide +kernel
theorem d_Pa_bringBack_36 : decode c_Pa_bringBack 36 = .ok (.isub, 1) := by decide +kernel
theorem d_Pa_bringBack_37 : decode c_Pa_bringBack 37 = .ok (.putfield 26, 3) := by decide +kernel
theorem d_Pa_bringBack_40 : decode c_Pa_bringBack 40 = .ok (.aload_n 2, 1) := by decide +kernel
theorem d_Pa_bringBack_41 : decode c_Pa_bringBack 41 = .ok (.aload_n 0, 1) := by decide +kernel
theorem d_Pa_bringBack_42 : decode c_Pa_bringBack 42 = .ok (.getfield 11, 3) := by decide +kernel
theorem d_Pa_bringBack_45 : decode c_Pa_bringBack 45 = .ok (.aload_n 0, 1) := by decide +kernel
theorem d_Pa_bringBack_46 : decode c_Pa_bringBack 46 = .ok (.getfield 18, 3) := by decide +kernel
theorem d_Pa_bringBack_49 : decode c_Pa_bringBack 49 = .ok (.aaload, 1) := by decide +kernel
theorem d_Pa_bringBack_50 : decode c_Pa_bringBack 50 = .ok (.invokevirtual 22, 3) := by decide +kernel
theorem d_Pa_bringBack_53 : decode c_Pa_bringBack 53 = .ok (.return_, 1) := by decide +kernel
theorem d_Pa_forget_0 : decode c_Pa_forget 0 = .ok (.aload_n 0, 1) := by decide +kernel
theorem d_Pa_forget_1 : decode c_Pa_forget 1 = .ok (.iconst 0, 1) := by decide +kernel
theorem d_Pa_forget_2 : decode c_Pa_forget 2 = .ok (.putfield 26, 3) := by decide +kernel
theorem d_Pa_forget_5 : decode c_Pa_forget 5 = .ok (.return_, 1) := by decide +kernel
theorem d_Pi_firstRow_0 : decode c_Pi_firstRow 0 = .ok (.lload_n 0, 1) := by decide +kernel
theorem d_Pi_firstRow_1 : decode c_Pi_firstRow 1 = .ok (.ldc2_w 9, 3) := by decide +kernel
theorem d_Pi_firstRow_4 : decode c_Pi_firstRow 4 = .ok (.land, 1) := by decide +kernel
theorem d_Pi_firstRow_5 : decode c_Pi_firstRow 5 = .ok (.l2i, 1) := by decide +kernel
theorem d_Pi_firstRow_6 : decode c_Pi_firstRow 6 = .ok (.ireturn, 1) := by decide +kernel
theorem d_Pi_withRow_0 : decode c_Pi_withRow 0 = .ok (.bipush 8, 2) := by decide +kernel
theorem d_Pi_withRow_2 : decode c_Pi_withRow 2 = .ok (.iload_n 2, 1) := by decide +kernel
theorem d_Pi_withRow_3 : decode c_Pi_withRow 3 = .ok (.imul, 1) := by decide +kernel
theorem d_Pi_withRow_4 : decode c_Pi_withRow 4 = .ok (.istore 4, 2) := by decide +kernel
theorem d_Pi_withRow_6 : decode c_Pi_withRow 6 = .ok (.lload_n 0, 1) := by decide +kernel
theorem d_Pi_withRow_7 : decode c_Pi_withRow 7 = .ok (.ldc2_w 9, 3) := by decide +kernel
theorem d_Pi_withRow_10 : decode c_Pi_withRow 10 = .ok (.iload 4, 2) := by decide +kernel
theorem d_Pi_withRow_12 : decode c_Pi_withRow 12 = .ok (.lshl, 1) := by decide +kernel
theorem d_Pi_withRow_13 : decode c_Pi_withRow 13 = .ok (.ldc2_w 11, 3) := by decide +kernel
theorem d_Pi_withRow_16 : decode c_Pi_withRow 16 = .ok (.lxor, 1) := by decide +kernel
theorem d_Pi_withRow_17 : decode c_Pi_withRow 17 = .ok (.land, 1) := by decide +kernel
theorem d_Pi_withRow_18 : decode c_Pi_withRow 18 = .ok (.iload_n 3, 1) := by decide +kernel
theorem d_Pi_withRow_19 : decode c_Pi_withRow 19 = .ok (.i2l, 1) := by decide +kernel
theorem d_Pi_withRow_20 : decode c_Pi_withRow 20 = .ok (.iload 4, 2) := by decide +kernel
theorem d_Pi_withRow_22 : decode c_Pi_withRow 22 = .ok (.lshl, 1) := by decide +kernel
theorem d_Pi_withRow_23 : decode c_Pi_withRow 23 = .ok (.lor, 1) := by decide +kernel
theorem d_Pi_withRow_24 : decode c_Pi_withRow 24 = .ok (.lreturn, 1) := by decide +kernel
theorem d_Pi_ofEqualRows_0 : decode c_Pi_ofEqualRows 0 = .ok (.lconst 0, 1) := by decide +kernel
theorem d_Pi_ofEqualRows_1 : decode c_Pi_ofEqualRows 1 = .ok (.lstore_n 1, 1) := by decide +kernel
theorem d_Pi_ofEqualRows_2 : decode c_Pi_ofEqualRows 2 = .ok (.iconst 0, 1) := by decide +kernel
theorem d_Pi_ofEqualRows_3 : decode c_Pi_ofEqualRows 3 = .ok (.istore_n 3, 1) := by decide +kernel
theorem d_Pi_ofEqualRows_4 : decode c_Pi_ofEqualRows 4 = .ok (.iload_n 3, 1) := by decide +kernel
theorem d_Pi_ofEqualRows_5 : decode c_Pi_ofEqualRows 5 = .ok (.bipush 8, 2) := by decide +kernel
theorem d_Pi_ofEqualRows_7 : decode c_Pi_ofEqualRows 7 = .ok (.if_icmp .ge 16, 3) := by decide +kernel
theorem d_Pi_ofEqualRows_10 : decode c_Pi_ofEqualRows 10 = .ok (.lload_n 1, 1) := by decide +kernel
theorem d_Pi_ofEqualRows_11 : decode c_Pi_ofEqualRows 11 = .ok (.iload_n 3, 1) := by decide +kernel
theorem d_Pi_ofEqualRows_12 : decode c_Pi_ofEqualRows 12 = .ok (.iload_n 0, 1) := by decide +kernel
theorem d_Pi_ofEqualRows_13 : decode c_Pi_ofEqualRows 13 = .ok (.invokestatic 13, 3) := by decide +kernel
theorem d_Pi_ofEqualRows_16 : decode c_Pi_ofEqualRows 16 = .ok (.lstore_n 1, 1) := by decide +kernel
theorem d_Pi_ofEqualRows_17 : decode c_Pi_ofEqualRows 17 = .ok (.iinc 3 1, 3) := by decide +kernel
theorem d_Pi_ofEqualRows_20 : decode c_Pi_ofEqualRows 20 = .ok (.goto (-16), 3) := by decide +kernel
theorem d_Pi_ofEqualRows_23 : decode c_Pi_ofEqualRows 23 = .ok (.lload_n 1, 1) := by decide +kernel
theorem d_Pi_ofEqualRows_24 : decode c_Pi_ofEqualRows 24 = .ok (.lreturn, 1) := by decide +kernel
theorem d_Pi_hasDot_0 : decode c_Pi_hasDot 0 = .ok (.lload_n 0, 1) := by decide +kernel
theorem d_Pi_hasDot_1 : decode c_Pi_hasDot 1 = .ok (.bipush 8, 2) := by decide +kernel
theorem d_Pi_hasDot_3 : decode c_Pi_hasDot 3 = .ok (.iload_n 2, 1) := by decide +kernel
theorem d_Pi_hasDot_4 : decode c_Pi_hasDot 4 = .ok (.imul, 1) := by decide +kernel
theorem d_Pi_hasDot_5 : decode c_Pi_hasDot 5 = .ok (.iload_n 3, 1) := by decide +kernel
theorem d_Pi_hasDot_6 : decode c_Pi_hasDot 6 = .ok (.iadd, 1) := by decide +kernel
theorem d_Pi_hasDot_7 : decode c_Pi_hasDot 7 = .ok (.invokestatic 19, 3) := by decide +kernel
theorem d_Pi_hasDot_10 : decode c_Pi_hasDot 10 = .ok (.ireturn, 1) := by decide +kernel
theorem d_Pi_dotAt_0 : decode c_Pi_dotAt 0 = .ok (.lconst 1, 1) := by decide +kernel
theorem d_Pi_dotAt_1 : decode c_Pi_dotAt 1 = .ok (.bipush 8, 2) := by decide +kernel
theorem d_Pi_dotAt_3 : decode c_Pi_dotAt 3 = .ok (.iload_n 0, 1) := by decide +kernel
theorem d_Pi_dotAt_4 : decode c_Pi_dotAt 4 = .ok (.imul, 1) := by decide +kernel
theorem d_Pi_dotAt_5 : decode c_Pi_dotAt 5 = .ok (.iload_n 1, 1) := by decide +kernel
theorem d_Pi_dotAt_6 : decode c_Pi_dotAt 6 = .ok (.iadd, 1) := by decide +kernel
theorem d_Pi_dotAt_7 : decode c_Pi_dotAt 7 = .ok (.lshl, 1) := by decide +kernel
theorem d_Pi_dotAt_8 : decode c_Pi_dotAt 8 = .ok (.lreturn, 1) := by decide +kernel
theorem d_Pi_turned_0 : decode c_Pi_turned 0 = .ok (.lconst 0, 1) := by decide +kernel
theorem d_Pi_turned_1 : decode c_Pi_turned 1 = .ok (.lstore_n 2, 1) := by decide +kernel
theorem d_Pi_turned_2 : decode c_Pi_turned 2 = .ok (.iconst 0, 1) := by decide +kernel
theorem d_Pi_turned_3 : decode c_Pi_turned 3 = .ok (.istore 4, 2) := by decide +kernel
theorem d_Pi_turned_5 : decode c_Pi_turned 5 = .ok (.iload 4, 2) := by decide +kernel
theorem d_Pi_turned_7 : decode c_Pi_turned 7 = .ok (.bipush 8, 2) := by decide +kernel
theorem d_Pi_turned_9 : decode c_Pi_turned 9 = .ok (.if_icmp .ge 49, 3) := by decide +kernel
theorem d_Pi_turned_12 : decode c_Pi_turned 12 = .ok (.iconst 0, 1) := by decide +kernel
theorem d_Pi_turned_13 : decode c_Pi_turned 13 = .ok (.istore 5, 2) := by decide +kernel
theorem d_Pi_turned_15 : decode c_Pi_turned 15 = .ok (.iload 5, 2) := by decide +kernel
theorem d_Pi_turned_17 : decode c_Pi_turned 17 = .ok (.bipush 8, 2) := by decide +kernel
theorem d_Pi_turned_19 : decode c_Pi_turned 19 = .ok (.if_icmp .ge 33, 3) := by decide +kernel
theorem d_Pi_turned_22 : decode c_Pi_turned 22 = .ok (.lload_n 0, 1) := by decide +kernel
theorem d_Pi_turned_23 : decode c_Pi_turned 23 = .ok (.iload 4, 2) := by decide +kernel
theorem d_Pi_turned_25 : decode c_Pi_turned 25 = .ok (.iload 5, 2) := by decide +kernel
theorem d_Pi_turned_27 : decode c_Pi_turned 27 = .ok (.invokestatic 23, 3) := by decide +kernel
theorem d_Pi_turned_30 : decode c_Pi_turned 30 = .ok (.ifCond .eq 16, 3) := by decide +kernel
theorem d_Pi_turned_33 : decode c_Pi_turned 33 = .ok (.lload_n 2, 1) := by decide +kernel
theorem d_Pi_turned_34 : decode c_Pi_turned 34 = .ok (.iload 5, 2) := by decide +kernel
theorem d_Pi_turned_36 : decode c_Pi_turned 36 = .ok (.bipush 7, 2) := by decide +kernel
theorem d_Pi_turned_38 : decode c_Pi_turned 38 = .ok (.iload 4, 2) := by decide +kernel
theorem d_Pi_turned_40 : decode c_Pi_turned 40 = .ok (.isub, 1) := by decide +kernel
theorem d_Pi_turned_41 : decode c_Pi_turned 41 = .ok (.invokestatic 27, 3) := by decide +kernel
theorem d_Pi_turned_44 : decode c_Pi_turned 44 = .ok (.lor, 1) := by decide +kernel
theorem d_Pi_turned_45 : decode c_Pi_turned 45 = .ok (.lstore_n 2, 1) := by decide +kernel
theorem d_Pi_turned_46 : decode c_Pi_turned 46 = .ok (.iinc 5 1, 3) := by decide +kernel
theorem d_Pi_turned_49 : decode c_Pi_turned 49 = .ok (.goto (-34), 3) := by decide +kernel
theorem d_Pi_turned_52 : decode c_Pi_turned 52 = .ok (.iinc 4 1, 3) := by decide +kernel
theorem d_Pi_turned_55 : decode c_Pi_turned 55 = .ok (.goto (-50), 3) := by decide +kernel
theorem d_Pi_turned_58 : decode c_Pi_turned 58 = .ok (.lload_n 2, 1) := by decide +kernel
theorem d_Pi_turned_59 : decode c_Pi_turned 59 = .ok (.lreturn, 1) := by decide +kernel
theorem d_Pi_mirrored_0 : decode c_Pi_mirrored 0 = .ok (.lconst 0, 1) := by decide +kernel
theorem d_Pi_mirrored_1 : decode c_Pi_mirrored 1 = .ok (.lstore_n 2, 1) := by decide +kernel
theorem d_Pi_mirrored_2 : decode c_Pi_mirrored 2 = .ok (.iconst 0, 1) := by decide +kernel
theorem d_Pi_mirrored_3 : decode c_Pi_mirrored 3 = .ok (.istore 4, 2) := by decide +kernel
theorem d_Pi_mirrored_5 : decode c_Pi_mirrored 5 = .ok (.iload 4, 2) := by decide +kernel
theorem d_Pi_mirrored_7 : decode c_Pi_mirrored 7 = .ok (.bipush 8, 2) := by decide +kernel
theorem d_Pi_mirrored_9 : decode c_Pi_mirrored 9 = .ok (.if_icmp .ge 49, 3) := by decide +kernel
theorem d_Pi_mirrored_12 : decode c_Pi_mirrored 12 = .ok (.iconst 0, 1) := by decide +kernel
theorem d_Pi_mirrored_13 : decode c_Pi_mirrored 13 = .ok (.istore 5, 2) := by decide +kernel
theorem d_Pi_mirrored_15 : decode c_Pi_mirrored 15 = .ok (.iload 5, 2) := by decide +kernel
theorem d_Pi_mirrored_17 : decode c_Pi_mirrored 17 = .ok (.bipush 8, 2) := by decide +kernel
theorem d_Pi_mirrored_19 : decode c_Pi_mirrored 19 = .ok (.if_icmp .ge 33, 3) := by decide +kernel
theorem d_Pi_mirrored_22 : decode c_Pi_mirrored 22 = .ok (.lload_n 0, 1) := by decide +kernel
theorem d_Pi_mirrored_23 : decode c_Pi_mirrored 23 = .ok (.iload 4, 2) := by decide +kernel
theorem d_Pi_mirrored_25 : decode c_Pi_mirrored 25 = .ok (.iload 5, 2) := by decide +kernel
theorem d_Pi_mirrored_27 : decode c_Pi_mirrored 27 = .ok (.invokestatic 23, 3) := by decide +kernel
theorem d_Pi_mirrored_30 : decode c_Pi_mirrored 30 = .ok (.ifCond .eq 16, 3) := by decide +kernel
theorem d_Pi_mirrored_33 : decode c_Pi_mirrored 33 = .ok (.lload_n 2, 1) := by decide +kernel
theorem d_Pi_mirrored_34 : decode c_Pi_mirrored 34 = .ok (.iload 4, 2) := by decide +kernel
theorem d_Pi_mirrored_36 : decode c_Pi_mirrored 36 = .ok (.bipush 7, 2) := by decide +kernel
theorem d_Pi_mirrored_38 : decode c_Pi_mirrored 38 = .ok (.iload 5, 2) := by decide +kernel
theorem d_Pi_mirrored_40 : decode c_Pi_mirrored 40 = .ok (.isub, 1) := by decide +kernel
theorem d_Pi_mirrored_41 : decode c_Pi_mirrored 41 = .ok (.invokestatic 27, 3) := by decide +kernel
theorem d_Pi_mirrored_44 : decode c_Pi_mirrored 44 = .ok (.lor, 1) := by decide +kernel
theorem d_Pi_mirrored_45 : decode c_Pi_mirrored 45 = .ok (.lstore_n 2, 1) := by decide +kernel
theorem d_Pi_mirrored_46 : decode c_Pi_mirrored 46 = .ok (.iinc 5 1, 3) := by decide +kernel
theorem d_Pi_mirrored_49 : decode c_Pi_mirrored 49 = .ok (.goto (-34), 3) := by decide +kernel
theorem d_Pi_mirrored_52 : decode c_Pi_mirrored 52 = .ok (.iinc 4 1, 3) := by decide +kernel
theorem d_Pi_mirrored_55 : decode c_Pi_mirrored 55 = .ok (.goto (-50), 3) := by decide +kernel
theorem d_Pi_mirrored_58 : decode c_Pi_mirrored 58 = .ok (.lload_n 2, 1) := by decide +kernel
theorem d_Pi_mirrored_59 : decode c_Pi_mirrored 59 = .ok (.lreturn, 1) := by decide +kernel
theorem d_Si_init_0 : decode c_Si_init 0 = .ok (.aload_n 0, 1) := by decide +kernel
theorem d_Si_init_1 : decode c_Si_init 1 = .ok (.invokespecial 3, 3) := by decide +kernel
theorem d_Si_init_4 : decode c_Si_init 4 = .ok (.aload_n 0, 1) := by decide +kernel
theorem d_Si_init_5 : decode c_Si_init 5 = .ok (.bipush 6, 2) := by decide +kernel
theorem d_Si_init_7 : decode c_Si_init 7 = .ok (.newarray .long, 2) := by decide +kernel
theorem d_Si_init_9 : decode c_Si_init 9 = .ok (.putfield 9, 3) := by decide +kernel
theorem d_Si_init_12 : decode c_Si_init 12 = .ok (.aload_n 0, 1) := by decide +kernel
theorem d_Si_init_13 : decode c_Si_init 13 = .ok (.bipush 6, 2) := by decide +kernel
theorem d_Si_init_15 : decode c_Si_init 15 = .ok (.newarray .int, 2) := by decide +kernel
theorem d_Si_init_17 : decode c_Si_init 17 = .ok (.putfield 15, 3) := by decide +kernel
theorem d_Si_init_20 : decode c_Si_init 20 = .ok (.aload_n 0, 1) := by decide +kernel
theorem d_Si_init_21 : decode c_Si_init 21 = .ok (.bipush 65, 2) := by decide +kernel
theorem d_Si_init_23 : decode c_Si_init 23 = .ok (.newarray .int, 2) := by decide +kernel
theorem d_Si_init_25 : decode c_Si_init 25 = .ok (.putfield 19, 3) := by decide +kernel
theorem d_Si_init_28 : decode c_Si_init 28 = .ok (.return_, 1) := by decide +kernel
theorem d_Si_add_0 : decode c_Si_add 0 = .ok (.aload_n 0, 1) := by decide +kernel
theorem d_Si_add_1 : decode c_Si_add 1 = .ok (.getfield 22, 3) := by decide +kernel
theorem d_Si_add_4 : decode c_Si_add 4 = .ok (.bipush 6, 2) := by decide +kernel
theorem d_Si_add_6 : decode c_Si_add 6 = .ok (.if_icmp .ge 33, 3) := by decide +kernel
theorem d_Si_add_9 : decode c_Si_add 9 = .ok (.aload_n 0, 1) := by decide +kernel
theorem d_Si_add_10 : decode c_Si_add 10 = .ok (.getfield 9, 3) := by decide +kernel
theorem d_Si_add_13 : decode c_Si_add 13 = .ok (.aload_n 0, 1) := by decide +kernel
theorem d_Si_add_14 : decode c_Si_add 14 = .ok (.getfield 22, 3) := by decide +kernel
theorem d_Si_add_17 : decode c_Si_add 17 = .ok (.lload_n 1, 1) := by decide +kernel
theorem d_Si_add_18 : decode c_Si_add 18 = .ok (.lastore, 1) := by decide +kernel
theorem d_Si_add_19 : decode c_Si_add 19 = .ok (.aload_n 0, 1) := by decide +kernel
theorem d_Si_add_20 : decode c_Si_add 20 = .ok (.getfield 15, 3) := by decide +kernel
theorem d_Si_add_23 : decode c_Si_add 23 = .ok (.aload_n 0, 1) := by decide +kernel
theorem d_Si_add_24 : decode c_Si_add 24 = .ok (.getfield 22, 3) := by decide +kernel
theorem d_Si_add_27 : decode c_Si_add 27 = .ok (.iload_n 3, 1) := by decide +kernel
theorem d_Si_add_28 : decode c_Si_add 28 = .ok (.iastore, 1) := by decide +kernel
theorem d_Si_add_29 : decode c_Si_add 29 = .ok (.aload_n 0, 1) := by decide +kernel
theorem d_Si_add_30 : decode c_Si_add 30 = .ok (.dup, 1) := by decide +kernel
theorem d_Si_add_31 : decode c_Si_add 31 = .ok (.getfield 22, 3) := by decide +kernel
theorem d_Si_add_34 : decode c_Si_add 34 = .ok (.iconst 1, 1) := by decide +kernel
theorem d_Si_add_35 : decode c_Si_add 35 = .ok (.iadd, 1) := by decide +kernel
theorem d_Si_add_36 : decode c_Si_add 36 = .ok (.putfield 22, 3) := by decide +kernel
theorem d_Si_add_39 : decode c_Si_add 39 = .ok (.return_, 1) := by decide +kernel
theorem d_Si_fits_0 : decode c_Si_fits 0 = .ok (.iconst 0, 1) := by decide +kernel
theorem d_Si_fits_1 : decode c_Si_fits 1 = .ok (.istore_n 3, 1) := by decide +kernel
theorem d_Si_fits_2 : decode c_Si_fits 2 = .ok (.iload_n 3, 1) := by decide +kernel
theorem d_Si_fits_3 : decode c_Si_fits 3 = .ok (.aload_n 0, 1) := by decide +kernel
theorem d_Si_fits_4 : decode c_Si_fits 4 = .ok (.getfield 22, 3) := by decide +kernel
theorem d_Si_fits_7 : decode c_Si_fits 7 = .ok (.if_icmp .ge 30, 3) := by decide +kernel
theorem d_Si_fits_10 : decode c_Si_fits 10 = .ok (.lload_n 1, 1) := by decide +kernel
theorem d_Si_fits_11 : decode c_Si_fits 11 = .ok (.aload_n 0, 1) := by decide +kernel
theorem d_Si_fits_12 : decode c_Si_fits 12 = .ok (.getfield 9, 3) := by decide +kernel
theorem d_Si_fits_15 : decode c_Si_fits 15 = .ok (.iload_n 3, 1) := by decide +kernel
theorem d_Si_fits_16 : decode c_Si_fits 16 = .ok (.laload, 1) := by decide +kernel
theorem d_Si_fits_17 : decode c_Si_fits 17 = .ok (.invokestatic 26, 3) := by decide +kernel
theorem d_Si_fits_20 : decode c_Si_fits 20 = .ok (.aload_n 0, 1) := by decide +kernel
theorem d_Si_fits_21 : decode c_Si_fits 21 = .ok (.getfield 15, 3) := by decide +kernel
theorem d_Si_fits_24 : decode c_Si_fits 24 = .ok (.iload_n 3, 1) := by decide +kernel
theorem d_Si_fits_25 : decode c_Si_fits 25 = .ok (.iaload, 1) := by decide +kernel
theorem d_Si_fits_26 : decode c_Si_fits 26 = .ok (.if_icmp .eq 5, 3) := by decide +kernel
theorem d_Si_fits_29 : decode c_Si_fits 29 = .ok (.iconst 0, 1) := by decide +kernel
theorem d_Si_fits_30 : decode c_Si_fits 30 = .ok (.ireturn, 1) := by decide +kernel
theorem d_Si_fits_31 : decode c_Si_fits 31 = .ok (.iinc 3 1, 3) := by decide +kernel
theorem d_Si_fits_34 : decode c_Si_fits 34 = .ok (.goto (-32), 3) := by decide +kernel
theorem d_Si_fits_37 : decode c_Si_fits 37 = .ok (.iconst 1, 1) := by decide +kernel
theorem d_Si_fits_38 : decode c_Si_fits 38 = .ok (.ireturn, 1) := by decide +kernel
theorem d_Si_fitting_0 : decode c_Si_fitting 0 = .ok (.lconst 0, 1) := by decide +kernel
theorem d_Si_fitting_1 : decode c_Si_fitting 1 = .ok (.lstore_n 2, 1) := by decide +kernel
theorem d_Si_fitting_2 : decode c_Si_fitting 2 = .ok (.iconst 0, 1) := by decide +kernel
theorem d_Si_fitting_3 : decode c_Si_fitting 3 = .ok (.istore 4, 2) := by decide +kernel
theorem d_Si_fitting_5 : decode c_Si_fitting 5 = .ok (.iload 4, 2) := by decide +kernel
theorem d_Si_fitting_7 : decode c_Si_fitting 7 = .ok (.aload_n 1, 1) := by decide +kernel
theorem d_Si_fitting_8 : decode c_Si_fitting 8 = .ok (.getfield 30, 3) := by decide +kernel
theorem d_Si_fitting_11 : decode c_Si_fitting 11 = .ok (.if_icmp .ge 30, 3) := by decide +kernel
theorem d_Si_fitting_14 : decode c_Si_fitting 14 = .ok (.aload_n 0, 1) := by decide +kernel
theorem d_Si_fitting_15 : decode c_Si_fitting 15 = .ok (.aload_n 1, 1) := by decide +kernel
theorem d_Si_fitting_16 : decode c_Si_fitting 16 = .ok (.getfield 33, 3) := by decide +kernel
theorem d_Si_fitting_19 : decode c_Si_fitting 19 = .ok (.iload 4, 2) := by decide +kernel
theorem d_Si_fitting_21 : decode c_Si_fitting 21 = .ok (.laload, 1) := by decide +kernel
theorem d_Si_fitting_22 : decode c_Si_fitting 22 = .ok (.invokevirtual 36, 3) := by decide +kernel
theorem d_Si_fitting_25 : decode c_Si_fitting 25 = .ok (.ifCond .eq 10, 3) := by decide +kernel
theorem d_Si_fitting_28 : decode c_Si_fitting 28 = .ok (.lload_n 2, 1) := by decide +kernel
theorem d_Si_fitting_29 : decode c_Si_fitting 29 = .ok (.lconst 1, 1) := by decide +kernel
theorem d_Si_fitting_30 : decode c_Si_fitting 30 = .ok (.iload 4, 2) := by decide +kernel
theorem d_Si_fitting_32 : decode c_Si_fitting 32 = .ok (.lshl, 1) := by decide +kernel
theorem d_Si_fitting_33 : decode c_Si_fitting 33 = .ok (.lor, 1) := by decide +kernel
theorem d_Si_fitting_34 : decode c_Si_fitting 34 = .ok (.lstore_n 2, 1) := by decide +kernel
theorem d_Si_fitting_35 : decode c_Si_fitting 35 = .ok (.iinc 4 1, 3) := by decide +kernel
theorem d_Si_fitting_38 : decode c_Si_fitting 38 = .ok (.goto (-33), 3) := by decide +kernel
theorem d_Si_fitting_41 : decode c_Si_fitting 41 = .ok (.lload_n 2, 1) := by decide +kernel
theorem d_Si_fitting_42 : decode c_Si_fitting 42 = .ok (.lreturn, 1) := by decide +kernel
theorem d_Si_leastFitting_0 : decode c_Si_leastFitting 0 = .ok (.aload_n 0, 1) := by decide +kernel
theorem d_Si_leastFitting_1 : decode c_Si_leastFitting 1 = .ok (.aload_n 1, 1) := by decide +kernel
theorem d_Si_leastFitting_2 : decode c_Si_leastFitting 2 = .ok (.invokevirtual 40, 3) := by decide +kernel
theorem d_Si_leastFitting_5 : decode c_Si_leastFitting 5 = .ok (.invokestatic 44, 3) := by decide +kernel
theorem d_Si_leastFitting_8 : decode c_Si_leastFitting 8 = .ok (.ireturn, 1) := by decide +kernel
theorem d_Si_bestToAsk_0 : decode c_Si_bestToAsk 0 = .ok (.aload_n 0, 1) := by decide +kernel
theorem d_Si_bestToAsk_1 : decode c_Si_bestToAsk 1 = .ok (.aload_n 1, 1) := by decide +kernel
theorem d_Si_bestToAsk_2 : decode c_Si_bestToAsk 2 = .ok (.invokevirtual 40, 3) := by decide +kernel
theorem d_Si_bestToAsk_5 : decode c_Si_bestToAsk 5 = .ok (.lstore_n 2, 1) := by decide +kernel
theorem d_Si_bestToAsk_6 : decode c_Si_bestToAsk 6 = .ok (.lload_n 2, 1) := by decide +kernel
theorem d_Si_bestToAsk_7 : decode c_Si_bestToAsk 7 = .ok (.invokestatic 48, 3) := by decide +kernel
theorem d_Si_bestToAsk_10 : decode c_Si_bestToAsk 10 = .ok (.istore 4, 2) := by decide +kernel
theorem d_Si_bestToAsk_12 : decode c_Si_bestToAsk 12 = .ok (.iconst (-1), 1) := by decide +kernel
theorem d_Si_bestToAsk_13 : decode c_Si_bestToAsk 13 = .ok (.istore 5, 2) := by decide +kernel
theorem d_Si_bestToAsk_15 : decode c_Si_bestToAsk 15 = .ok (.iconst 0, 1) := by decide +kernel
theorem d_Si_bestToAsk_16 : decode c_Si_bestToAsk 16 = .ok (.istore 6, 2) := by decide +kernel
theorem d_Si_bestToAsk_18 : decode c_Si_bestToAsk 18 = .ok (.iload 6, 2) := by decide +kernel
theorem d_Si_bestToAsk_20 : decode c_Si_bestToAsk 20 = .ok (.aload_n 1, 1) := by decide +kernel
theorem d_Si_bestToAsk_21 : decode c_Si_bestToAsk 21 = .ok (.getfield 30, 3) := by decide +kernel
theorem d_Si_bestToAsk_24 : decode c_Si_bestToAsk 24 = .ok (.if_icmp .ge 34, 3) := by decide +kernel
theorem d_Si_bestToAsk_27 : decode c_Si_bestToAsk 27 = .ok (.aload_n 0, 1) := by decide +kernel
theorem d_Si_bestToAsk_28 : decode c_Si_bestToAsk 28 = .ok (.aload_n 1, 1) := by decide +kernel
theorem d_Si_bestToAsk_29 : decode c_Si_bestToAsk 29 = .ok (.lload_n 2, 1) := by decide +kernel
theorem d_Si_bestToAsk_30 : decode c_Si_bestToAsk 30 = .ok (.iload 6, 2) := by decide +kernel
theorem d_Si_bestToAsk_32 : decode c_Si_bestToAsk 32 = .ok (.invokevirtual 53, 3) := by decide +kernel
theorem d_Si_bestToAsk_35 : decode c_Si_bestToAsk 35 = .ok (.istore 7, 2) := by decide +kernel
theorem d_Si_bestToAsk_37 : decode c_Si_bestToAsk 37 = .ok (.iload 7, 2) := by decide +kernel
theorem d_Si_bestToAsk_39 : decode c_Si_bestToAsk 39 = .ok (.iload 4, 2) := by decide +kernel
theorem d_Si_bestToAsk_41 : decode c_Si_bestToAsk 41 = .ok (.if_icmp .ge 11, 3) := by decide +kernel
theorem d_Si_bestToAsk_44 : decode c_Si_bestToAsk 44 = .ok (.iload 7, 2) := by decide +kernel
theorem d_Si_bestToAsk_46 : decode c_Si_bestToAsk 46 = .ok (.istore 4, 2) := by decide +kernel
theorem d_Si_bestToAsk_48 : decode c_Si_bestToAsk 48 = .ok (.iload 6, 2) := by decide +kernel
theorem d_Si_bestToAsk_50 : decode c_Si_bestToAsk 50 = .ok (.istore 5, 2) := by decide +kernel
theorem d_Si_bestToAsk_52 : decode c_Si_bestToAsk 52 = .ok (.iinc 6 1, 3) := by decide +kernel
theorem d_Si_bestToAsk_55 : decode c_Si_bestToAsk 55 = .ok (.goto (-37), 3) := by decide +kernel
theorem d_Si_bestToAsk_58 : decode c_Si_bestToAsk 58 = .ok (.iload 5, 2) := by decide +kernel
theorem d_Si_bestToAsk_60 : decode c_Si_bestToAsk 60 = .ok (.ireturn, 1) := by decide +kernel
theorem d_Si_greatestLeft_0 : decode c_Si_greatestLeft 0 = .ok (.iconst 0, 1) := by decide +kernel
theorem d_Si_greatestLeft_1 : decode c_Si_greatestLeft 1 = .ok (.istore 5, 2) := by decide +kernel
theorem d_Si_greatestLeft_3 : decode c_Si_greatestLeft 3 = .ok (.iload 5, 2) := by decide +kernel
theorem d_Si_greatestLeft_5 : decode c_Si_greatestLeft 5 = .ok (.bipush 64, 2) := by decide +kernel
theorem d_Si_greatestLeft_7 : decode c_Si_greatestLeft 7 = .ok (.if_icmp .gt 17, 3) := by decide +kernel
theorem d_Si_greatestLeft_10 : decode c_Si_greatestLeft 10 = .ok (.aload_n 0, 1) := by decide +kernel
theorem d_Si_greatestLeft_11 : decode c_Si_greatestLeft 11 = .ok (.getfield 19, 3) := by decide +kernel
theorem d_Si_greatestLeft_14 : decode c_Si_greatestLeft 14 = .ok (.iload 5, 2) := by decide +kernel
theorem d_Si_greatestLeft_16 : decode c_Si_greatestLeft 16 = .ok (.iconst 0, 1) := by decide +kernel
theorem d_Si_greatestLeft_17 : decode c_Si_greatestLeft 17 = .ok (.iastore, 1) := by decide +kernel
theorem d_Si_greatestLeft_18 : decode c_Si_greatestLeft 18 = .ok (.iinc 5 1, 3) := by decide +kernel
theorem d_Si_greatestLeft_21 : decode c_Si_greatestLeft 21 = .ok (.goto (-18), 3) := by decide +kernel
theorem d_Si_greatestLeft_24 : decode c_Si_greatestLeft 24 = .ok (.iconst 0, 1) := by decide +kernel
theorem d_Si_greatestLeft_25 : decode c_Si_greatestLeft 25 = .ok (.istore 5, 2) := by decide +kernel
theorem d_Si_greatestLeft_27 : decode c_Si_greatestLeft 27 = .ok (.iconst 0, 1) := by decide +kernel
theorem d_Si_greatestLeft_28 : decode c_Si_greatestLeft 28 = .ok (.istore 6, 2) := by decide +kernel
theorem d_Si_greatestLeft_30 : decode c_Si_greatestLeft 30 = .ok (.iload 6, 2) := by decide +kernel
theorem d_Si_greatestLeft_32 : decode c_Si_greatestLeft 32 = .ok (.aload_n 1, 1) := by decide +kernel
theorem d_Si_greatestLeft_33 : decode c_Si_greatestLeft 33 = .ok (.getfield 30, 3) := by decide +kernel
theorem d_Si_greatestLeft_36 : decode c_Si_greatestLeft 36 = .ok (.if_icmp .ge 53, 3) := by decide +kernel
theorem d_Si_greatestLeft_39 : decode c_Si_greatestLeft 39 = .ok (.lload_n 2, 1) := by decide +kernel
theorem d_Si_greatestLeft_40 : decode c_Si_greatestLeft 40 = .ok (.iload 6, 2) := by decide +kernel
theorem d_Si_greatestLeft_42 : decode c_Si_greatestLeft 42 = .ok (.invokestatic 57, 3) := by decide +kernel
theorem d_Si_greatestLeft_45 : decode c_Si_greatestLeft 45 = .ok (.ifCond .eq 38, 3) := by decide +kernel
theorem d_Si_greatestLeft_48 : decode c_Si_greatestLeft 48 = .ok (.aload_n 1, 1) := by decide +kernel
theorem d_Si_greatestLeft_49 : decode c_Si_greatestLeft 49 = .ok (.iload 6, 2) := by decide +kernel
theorem d_Si_greatestLeft_51 : decode c_Si_greatestLeft 51 = .ok (.iload 4, 2) := by decide +kernel
theorem d_Si_greatestLeft_53 : decode c_Si_greatestLeft 53 = .ok (.invokevirtual 61, 3) := by decide +kernel
theorem d_Si_greatestLeft_56 : decode c_Si_greatestLeft 56 = .ok (.istore 7, 2) := by decide +kernel
theorem d_Si_greatestLeft_58 : decode c_Si_greatestLeft 58 = .ok (.aload_n 0, 1) := by decide +kernel
theorem d_Si_greatestLeft_59 : decode c_Si_greatestLeft 59 = .ok (.getfield 19, 3) := by decide +kernel
theorem d_Si_greatestLeft_62 : decode c_Si_greatestLeft 62 = .ok (.iload 7, 2) := by decide +kernel
theorem d_Si_greatestLeft_64 : decode c_Si_greatestLeft 64 = .ok (.dup2, 1) := by decide +kernel
theorem d_Si_greatestLeft_65 : decode c_Si_greatestLeft 65 = .ok (.iaload, 1) := by decide +kernel
theorem d_Si_greatestLeft_66 : decode c_Si_greatestLeft 66 = .ok (.iconst 1, 1) := by decide +kernel
theorem d_Si_greatestLeft_67 : decode c_Si_greatestLeft 67 = .ok (.iadd, 1) := by decide +kernel
theorem d_Si_greatestLeft_68 : decode c_Si_greatestLeft 68 = .ok (.iastore, 1) := by decide +kernel
theorem d_Si_greatestLeft_69 : decode c_Si_greatestLeft 69 = .ok (.iload 5, 2) := by decide +kernel
theorem d_Si_greatestLeft_71 : decode c_Si_greatestLeft 71 = .ok (.aload_n 0, 1) := by decide +kernel
theorem d_Si_greatestLeft_72 : decode c_Si_greatestLeft 72 = .ok (.getfield 19, 3) := by decide +kernel
theorem d_Si_greatestLeft_75 : decode c_Si_greatestLeft 75 = .ok (.iload 7, 2) := by decide +kernel
theorem d_Si_greatestLeft_77 : decode c_Si_greatestLeft 77 = .ok (.iaload, 1) := by decide +kernel
theorem d_Si_greatestLeft_78 : decode c_Si_greatestLeft 78 = .ok (.invokestatic 65, 3) := by decide +kernel
theorem d_Si_greatestLeft_81 : decode c_Si_greatestLeft 81 = .ok (.istore 5, 2) := by decide +kernel
theorem d_Si_greatestLeft_83 : decode c_Si_greatestLeft 83 = .ok (.iinc 6 1, 3) := by decide +kernel
theorem d_Si_greatestLeft_86 : decode c_Si_greatestLeft 86 = .ok (.goto (-56), 3) := by decide +kernel
theorem d_Si_greatestLeft_89 : decode c_Si_greatestLeft 89 = .ok (.iload 5, 2) := by decide +kernel
theorem d_Si_greatestLeft_91 : decode c_Si_greatestLeft 91 = .ok (.ireturn, 1) := by decide +kernel
theorem d_St_init_0 : decode c_St_init 0 = .ok (.aload_n 0, 1) := by decide +kernel
theorem d_St_init_1 : decode c_St_init 1 = .ok (.invokespecial 3, 3) := by decide +kernel
theorem d_St_init_4 : decode c_St_init 4 = .ok (.aload_n 0, 1) := by decide +kernel
theorem d_St_init_5 : decode c_St_init 5 = .ok (.ldc2_w 9, 3) := by decide +kernel
theorem d_St_init_8 : decode c_St_init 8 = .ok (.putfield 11, 3) := by decide +kernel
theorem d_St_init_11 : decode c_St_init 11 = .ok (.aload_n 0, 1) := by decide +kernel
theorem d_St_init_12 : decode c_St_init 12 = .ok (.bipush 40, 2) := by decide +kernel
theorem d_St_init_14 : decode c_St_init 14 = .ok (.newarray .long, 2) := by decide +kernel
theorem d_St_init_16 : decode c_St_init 16 = .ok (.putfield 17, 3) := by decide +kernel
theorem d_St_init_19 : decode c_St_init 19 = .ok (.aload_n 0, 1) := by decide +kernel
theorem d_St_init_20 : decode c_St_init 20 = .ok (.bipush 40, 2) := by decide +kernel
theorem d_St_init_22 : decode c_St_init 22 = .ok (.newarray .int, 2) := by decide +kernel
theorem d_St_init_24 : decode c_St_init 24 = .ok (.putfield 21, 3) := by decide +kernel
theorem d_St_init_27 : decode c_St_init 27 = .ok (.return_, 1) := by decide +kernel
theorem d_St_become_0 : decode c_St_become 0 = .ok (.aload_n 0, 1) := by decide +kernel
theorem d_St_become_1 : decode c_St_become 1 = .ok (.aload_n 1, 1) := by decide +kernel
theorem d_St_become_2 : decode c_St_become 2 = .ok (.getfield 25, 3) := by decide +kernel
theorem d_St_become_5 : decode c_St_become 5 = .ok (.putfield 25, 3) := by decide +kernel
theorem d_St_become_8 : decode c_St_become 8 = .ok (.aload_n 0, 1) := by decide +kernel
theorem d_St_become_9 : decode c_St_become 9 = .ok (.aload_n 1, 1) := by decide +kernel
theorem d_St_become_10 : decode c_St_become 10 = .ok (.getfield 11, 3) := by decide +kernel
theorem d_St_become_13 : decode c_St_become 13 = .ok (.putfield 11, 3) := by decide +kernel
theorem d_St_become_16 : decode c_St_become 16 = .ok (.aload_n 0, 1) := by decide +kernel
theorem d_St_become_17 : decode c_St_become 17 = .ok (.aload_n 1, 1) := by decide +kernel
theorem d_St_become_18 : decode c_St_become 18 = .ok (.getfield 28, 3) := by decide +kernel
theorem d_St_become_21 : decode c_St_become 21 = .ok (.putfield 28, 3) := by decide +kernel
theorem d_St_become_24 : decode c_St_become 24 = .ok (.iconst 0, 1) := by decide +kernel
theorem d_St_become_25 : decode c_St_become 25 = .ok (.istore_n 2, 1) := by decide +kernel
theorem d_St_become_26 : decode c_St_become 26 = .ok (.iload_n 2, 1) := by decide +kernel
theorem d_St_become_27 : decode c_St_become 27 = .ok (.aload_n 0, 1) := by decide +kernel
theorem d_St_become_28 : decode c_St_become 28 = .ok (.getfield 28, 3) := by decide +kernel
theorem d_St_become_31 : decode c_St_become 31 = .ok (.if_icmp .ge 33, 3) := by decide +kernel
theorem d_St_become_34 : decode c_St_become 34 = .ok (.aload_n 0, 1) := by decide +kernel
theorem d_St_become_35 : decode c_St_become 35 = .ok (.getfield 17, 3) := by decide +kernel
theorem d_St_become_38 : decode c_St_become 38 = .ok (.iload_n 2, 1) := by decide +kernel
theorem d_St_become_39 : decode c_St_become 39 = .ok (.aload_n 1, 1) := by decide +kernel
theorem d_St_become_40 : decode c_St_become 40 = .ok (.getfield 17, 3) := by decide +kernel
theorem d_St_become_43 : decode c_St_become 43 = .ok (.iload_n 2, 1) := by decide +kernel
theorem d_St_become_44 : decode c_St_become 44 = .ok (.laload, 1) := by decide +kernel
theorem d_St_become_45 : decode c_St_become 45 = .ok (.lastore, 1) := by decide +kernel
theorem d_St_become_46 : decode c_St_become 46 = .ok (.aload_n 0, 1) := by decide +kernel
theorem d_St_become_47 : decode c_St_become 47 = .ok (.getfield 21, 3) := by decide +kernel
theorem d_St_become_50 : decode c_St_become 50 = .ok (.iload_n 2, 1) := by decide +kernel
theorem d_St_become_51 : decode c_St_become 51 = .ok (.aload_n 1, 1) := by decide +kernel
theorem d_St_become_52 : decode c_St_become 52 = .ok (.getfield 21, 3) := by decide +kernel
theorem d_St_become_55 : decode c_St_become 55 = .ok (.iload_n 2, 1) := by decide +kernel
theorem d_St_become_56 : decode c_St_become 56 = .ok (.iaload, 1) := by decide +kernel
theorem d_St_become_57 : decode c_St_become 57 = .ok (.iastore, 1) := by decide +kernel
theorem d_St_become_58 : decode c_St_become 58 = .ok (.iinc 2 1, 3) := by decide +kernel
theorem d_St_become_61 : decode c_St_become 61 = .ok (.goto (-35), 3) := by decide +kernel
theorem d_St_become_64 : decode c_St_become 64 = .ok (.return_, 1) := by decide +kernel
theorem d_St_has_0 : decode c_St_has 0 = .ok (.iload_n 1, 1) := by decide +kernel
theorem d_St_has_1 : decode c_St_has 1 = .ok (.ifCond .lt 15, 3) := by decide +kernel
theorem d_St_has_4 : decode c_St_has 4 = .ok (.iload_n 1, 1) := by decide +kernel
theorem d_St_has_5 : decode c_St_has 5 = .ok (.aload_n 0, 1) := by decide +kernel
theorem d_St_has_6 : decode c_St_has 6 = .ok (.getfield 28, 3) := by decide +kernel
theorem d_St_has_9 : decode c_St_has 9 = .ok (.if_icmp .ge 7, 3) := by decide +kernel
theorem d_St_has_12 : decode c_St_has 12 = .ok (.iconst 1, 1) := by decide +kernel
theorem d_St_has_13 : decode c_St_has 13 = .ok (.goto 4, 3) := by decide +kernel
theorem d_St_has_16 : decode c_St_has 16 = .ok (.iconst 0, 1) := by decide +kernel
theorem d_St_has_17 : decode c_St_has 17 = .ok (.ireturn, 1) := by decide +kernel
theorem d_St_hasBoth_0 : decode c_St_hasBoth 0 = .ok (.aload_n 0, 1) := by decide +kernel
theorem d_St_hasBoth_1 : decode c_St_hasBoth 1 = .ok (.iload_n 1, 1) := by decide +kernel
theorem d_St_hasBoth_2 : decode c_St_hasBoth 2 = .ok (.invokevirtual 32, 3) := by decide +kernel
theorem d_St_hasBoth_5 : decode c_St_hasBoth 5 = .ok (.ifCond .eq 20, 3) := by decide +kernel
theorem d_St_hasBoth_8 : decode c_St_hasBoth 8 = .ok (.aload_n 0, 1) := by decide +kernel
theorem d_St_hasBoth_9 : decode c_St_hasBoth 9 = .ok (.iload_n 2, 1) := by decide +kernel
theorem d_St_hasBoth_10 : decode c_St_hasBoth 10 = .ok (.invokevirtual 32, 3) := by decide +kernel
theorem d_St_hasBoth_13 : decode c_St_hasBoth 13 = .ok (.ifCond .eq 12, 3) := by decide +kernel
theorem d_St_hasBoth_16 : decode c_St_hasBoth 16 = .ok (.iload_n 1, 1) := by decide +kernel
theorem d_St_hasBoth_17 : decode c_St_hasBoth 17 = .ok (.iload_n 2, 1) := by decide +kernel
theorem d_St_hasBoth_18 : decode c_St_hasBoth 18 = .ok (.if_icmp .eq 7, 3) := by decide +kernel
theorem d_St_hasBoth_21 : decode c_St_hasBoth 21 = .ok (.iconst 1, 1) := by decide +kernel
theorem d_St_hasBoth_22 : decode c_St_hasBoth 22 = .ok (.goto 4, 3) := by decide +kernel
theorem d_St_hasBoth_25 : decode c_St_hasBoth 25 = .ok (.iconst 0, 1) := by decide +kernel
theorem d_St_hasBoth_26 : decode c_St_hasBoth 26 = .ok (.ireturn, 1) := by decide +kernel
theorem d_St_numberOf_0 : decode c_St_numberOf 0 = .ok (.iconst 0, 1) := by decide +kernel
theorem d_St_numberOf_1 : decode c_St_numberOf 1 = .ok (.istore_n 3, 1) := by decide +kernel
theorem d_St_numberOf_2 : decode c_St_numberOf 2 = .ok (.iload_n 3, 1) := by decide +kernel
theorem d_St_numberOf_3 : decode c_St_numberOf 3 = .ok (.aload_n 0, 1) := by decide +kernel
theorem d_St_numberOf_4 : decode c_St_numberOf 4 = .ok (.getfield 28, 3) := by decide +kernel
theorem d_St_numberOf_7 : decode c_St_numberOf 7 = .ok (.if_icmp .ge 22, 3) := by decide +kernel
theorem d_St_numberOf_10 : decode c_St_numberOf 10 = .ok (.aload_n 0, 1) := by decide +kernel
theorem d_St_numberOf_11 : decode c_St_numberOf 11 = .ok (.getfield 17, 3) := by decide +kernel
theorem d_St_numberOf_14 : decode c_St_numberOf 14 = .ok (.iload_n 3, 1) := by decide +kernel
theorem d_St_numberOf_15 : decode c_St_numberOf 15 = .ok (.laload, 1) := by decide +kernel
theorem d_St_numberOf_16 : decode c_St_numberOf 16 = .ok (.lload_n 1, 1) := by decide +kernel
theorem d_St_numberOf_17 : decode c_St_numberOf 17 = .ok (.lcmp, 1) := by decide +kernel
theorem d_St_numberOf_18 : decode c_St_numberOf 18 = .ok (.ifCond .ne 5, 3) := by decide +kernel
theorem d_St_numberOf_21 : decode c_St_numberOf 21 = .ok (.iload_n 3, 1) := by decide +kernel
theorem d_St_numberOf_22 : decode c_St_numberOf 22 = .ok (.ireturn, 1) := by decide +kernel
theorem d_St_numberOf_23 : decode c_St_numberOf 23 = .ok (.iinc 3 1, 3) := by decide +kernel
theorem d_St_numberOf_26 : decode c_St_numberOf 26 = .ok (.goto (-24), 3) := by decide +kernel
theorem d_St_numberOf_29 : decode c_St_numberOf 29 = .ok (.iconst (-1), 1) := by decide +kernel
theorem d_St_numberOf_30 : decode c_St_numberOf 30 = .ok (.ireturn, 1) := by decide +kernel
theorem d_St_addHand_0 : decode c_St_addHand 0 = .ok (.aload_n 0, 1) := by decide +kernel
theorem d_St_addHand_1 : decode c_St_addHand 1 = .ok (.getfield 28, 3) := by decide +kernel
theorem d_St_addHand_4 : decode c_St_addHand 4 = .ok (.bipush 40, 2) := by decide +kernel
theorem d_St_addHand_6 : decode c_St_addHand 6 = .ok (.if_icmp .ge 36, 3) := by decide +kernel
theorem d_St_addHand_9 : decode c_St_addHand 9 = .ok (.aload_n 0, 1) := by decide +kernel
theorem d_St_addHand_10 : decode c_St_addHand 10 = .ok (.getfield 17, 3) := by decide +kernel
theorem d_St_addHand_13 : decode c_St_addHand 13 = .ok (.aload_n 0, 1) := by decide +kernel
theorem d_St_addHand_14 : decode c_St_addHand 14 = .ok (.getfield 28, 3) := by decide +kernel
theorem d_St_addHand_17 : decode c_St_addHand 17 = .ok (.aload_n 0, 1) := by decide +kernel
theorem d_St_addHand_18 : decode c_St_addHand 18 = .ok (.getfield 25, 3) := by decide +kernel
theorem d_St_addHand_21 : decode c_St_addHand 21 = .ok (.lastore, 1) := by decide +kernel
theorem d_St_addHand_22 : decode c_St_addHand 22 = .ok (.aload_n 0, 1) := by decide +kernel
theorem d_St_addHand_23 : decode c_St_addHand 23 = .ok (.getfield 21, 3) := by decide +kernel
theorem d_St_addHand_26 : decode c_St_addHand 26 = .ok (.aload_n 0, 1) := by decide +kernel
theorem d_St_addHand_27 : decode c_St_addHand 27 = .ok (.getfield 28, 3) := by decide +kernel
theorem d_St_addHand_30 : decode c_St_addHand 30 = .ok (.iload_n 1, 1) := by decide +kernel
theorem d_St_addHand_31 : decode c_St_addHand 31 = .ok (.iastore, 1) := by decide +kernel
theorem d_St_addHand_32 : decode c_St_addHand 32 = .ok (.aload_n 0, 1) := by decide +kernel
theorem d_St_addHand_33 : decode c_St_addHand 33 = .ok (.dup, 1) := by decide +kernel
theorem d_St_addHand_34 : decode c_St_addHand 34 = .ok (.getfield 28, 3) := by decide +kernel
theorem d_St_addHand_37 : decode c_St_addHand 37 = .ok (.iconst 1, 1) := by decide +kernel
theorem d_St_addHand_38 : decode c_St_addHand 38 = .ok (.iadd, 1) := by decide +kernel
theorem d_St_addHand_39 : decode c_St_addHand 39 = .ok (.putfield 28, 3) := by decide +kernel
theorem d_St_addHand_42 : decode c_St_addHand 42 = .ok (.return_, 1) := by decide +kernel
theorem d_St_remove_0 : decode c_St_remove 0 = .ok (.iload_n 1, 1) := by decide +kernel
theorem d_St_remove_1 : decode c_St_remove 1 = .ok (.iconst 1, 1) := by decide +kernel
theorem d_St_remove_2 : decode c_St_remove 2 = .ok (.iadd, 1) := by decide +kernel
theorem d_St_remove_3 : decode c_St_remove 3 = .ok (.istore_n 2, 1) := by decide +kernel
theorem d_St_remove_4 : decode c_St_remove 4 = .ok (.iload_n 2, 1) := by decide +kernel
theorem d_St_remove_5 : decode c_St_remove 5 = .ok (.aload_n 0, 1) := by decide +kernel
theorem d_St_remove_6 : decode c_St_remove 6 = .ok (.getfield 28, 3) := by decide +kernel
theorem d_St_remove_9 : decode c_St_remove 9 = .ok (.if_icmp .ge 37, 3) := by decide +kernel
theorem d_St_remove_12 : decode c_St_remove 12 = .ok (.aload_n 0, 1) := by decide +kernel
theorem d_St_remove_13 : decode c_St_remove 13 = .ok (.getfield 17, 3) := by decide +kernel
theorem d_St_remove_16 : decode c_St_remove 16 = .ok (.iload_n 2, 1) := by decide +kernel
theorem d_St_remove_17 : decode c_St_remove 17 = .ok (.iconst 1, 1) := by decide +kernel
theorem d_St_remove_18 : decode c_St_remove 18 = .ok (.isub, 1) := by decide +kernel
theorem d_St_remove_19 : decode c_St_remove 19 = .ok (.aload_n 0, 1) := by decide +kernel
theorem d_St_remove_20 : decode c_St_remove 20 = .ok (.getfield 17, 3) := by decide +kernel
theorem d_St_remove_23 : decode c_St_remove 23 = .ok (.iload_n 2, 1) := by decide +kernel
theorem d_St_remove_24 : decode c_St_remove 24 = .ok (.laload, 1) := by decide +kernel
theorem d_St_remove_25 : decode c_St_remove 25 = .ok (.lastore, 1) := by decide +kernel
theorem d_St_remove_26 : decode c_St_remove 26 = .ok (.aload_n 0, 1) := by decide +kernel
theorem d_St_remove_27 : decode c_St_remove 27 = .ok (.getfield 21, 3) := by decide +kernel
theorem d_St_remove_30 : decode c_St_remove 30 = .ok (.iload_n 2, 1) := by decide +kernel
theorem d_St_remove_31 : decode c_St_remove 31 = .ok (.iconst 1, 1) := by decide +kernel
theorem d_St_remove_32 : decode c_St_remove 32 = .ok (.isub, 1) := by decide +kernel
theorem d_St_remove_33 : decode c_St_remove 33 = .ok (.aload_n 0, 1) := by decide +kernel
theorem d_St_remove_34 : decode c_St_remove 34 = .ok (.getfield 21, 3) := by decide +kernel
theorem d_St_remove_37 : decode c_St_remove 37 = .ok (.iload_n 2, 1) := by decide +kernel
theorem d_St_remove_38 : decode c_St_remove 38 = .ok (.iaload, 1) := by decide +kernel
theorem d_St_remove_39 : decode c_St_remove 39 = .ok (.iastore, 1) := by decide +kernel
theorem d_St_remove_40 : decode c_St_remove 40 = .ok (.iinc 2 1, 3) := by decide +kernel
theorem d_St_remove_43 : decode c_St_remove 43 = .ok (.goto (-39), 3) := by decide +kernel
theorem d_St_remove_46 : decode c_St_remove 46 = .ok (.aload_n 0, 1) := by decide +kernel
theorem d_St_remove_47 : decode c_St_remove 47 = .ok (.dup, 1) := by decide +kernel
theorem d_St_remove_48 : decode c_St_remove 48 = .ok (.getfield 28, 3) := by decide +kernel
theorem d_St_remove_51 : decode c_St_remove 51 = .ok (.iconst 1, 1) := by decide +kernel
theorem d_St_remove_52 : decode c_St_remove 52 = .ok (.isub, 1) := by decide +kernel
theorem d_St_remove_53 : decode c_St_remove 53 = .ok (.putfield 28, 3) := by decide +kernel
theorem d_St_remove_56 : decode c_St_remove 56 = .ok (.return_, 1) := by decide +kernel
theorem d_St_fromHand_0 : decode c_St_fromHand 0 = .ok (.aload_n 0, 1) := by decide +kernel
theorem d_St_fromHand_1 : decode c_St_fromHand 1 = .ok (.getfield 17, 3) := by decide +kernel
theorem d_St_fromHand_4 : decode c_St_fromHand 4 = .ok (.iload_n 1, 1) := by decide +kernel
theorem d_St_fromHand_5 : decode c_St_fromHand 5 = .ok (.laload, 1) := by decide +kernel
theorem d_St_fromHand_6 : decode c_St_fromHand 6 = .ok (.aload_n 0, 1) := by decide +kernel
theorem d_St_fromHand_7 : decode c_St_fromHand 7 = .ok (.getfield 25, 3) := by decide +kernel
theorem d_St_fromHand_10 : decode c_St_fromHand 10 = .ok (.invokestatic 36, 3) := by decide +kernel
theorem d_St_fromHand_13 : decode c_St_fromHand 13 = .ok (.ireturn, 1) := by decide +kernel
theorem d_St_between_0 : decode c_St_between 0 = .ok (.aload_n 0, 1) := by decide +kernel
theorem d_St_between_1 : decode c_St_between 1 = .ok (.getfield 17, 3) := by decide +kernel
theorem d_St_between_4 : decode c_St_between 4 = .ok (.iload_n 1, 1) := by decide +kernel
theorem d_St_between_5 : decode c_St_between 5 = .ok (.laload, 1) := by decide +kernel
theorem d_St_between_6 : decode c_St_between 6 = .ok (.aload_n 0, 1) := by decide +kernel
theorem d_St_between_7 : decode c_St_between 7 = .ok (.getfield 17, 3) := by decide +kernel
theorem d_St_between_10 : decode c_St_between 10 = .ok (.iload_n 2, 1) := by decide +kernel
theorem d_St_between_11 : decode c_St_between 11 = .ok (.laload, 1) := by decide +kernel
theorem d_St_between_12 : decode c_St_between 12 = .ok (.invokestatic 36, 3) := by decide +kernel
theorem d_St_between_15 : decode c_St_between 15 = .ok (.ireturn, 1) := by decide +kernel
theorem d_St_byDistance_0 : decode c_St_byDistance 0 = .ok (.iconst 0, 1) := by decide +kernel
theorem d_St_byDistance_1 : decode c_St_byDistance 1 = .ok (.istore_n 2, 1) := by decide +kernel
theorem d_St_byDistance_2 : decode c_St_byDistance 2 = .ok (.iload_n 2, 1) := by decide +kernel
theorem d_St_byDistance_3 : decode c_St_byDistance 3 = .ok (.aload_n 0, 1) := by decide +kernel
theorem d_St_byDistance_4 : decode c_St_byDistance 4 = .ok (.getfield 28, 3) := by decide +kernel
theorem d_St_byDistance_7 : decode c_St_byDistance 7 = .ok (.if_icmp .ge 20, 3) := by decide +kernel
theorem d_St_byDistance_10 : decode c_St_byDistance 10 = .ok (.aload_n 0, 1) := by decide +kernel
theorem d_St_byDistance_11 : decode c_St_byDistance 11 = .ok (.iload_n 2, 1) := by decide +kernel
theorem d_St_byDistance_12 : decode c_St_byDistance 12 = .ok (.invokevirtual 40, 3) := by decide +kernel
theorem d_St_byDistance_15 : decode c_St_byDistance 15 = .ok (.iload_n 1, 1) := by decide +kernel
theorem d_St_byDistance_16 : decode c_St_byDistance 16 = .ok (.if_icmp .ne 5, 3) := by decide +kernel
theorem d_St_byDistance_19 : decode c_St_byDistance 19 = .ok (.iload_n 2, 1) := by decide +kernel
theorem d_St_byDistance_20 : decode c_St_byDistance 20 = .ok (.ireturn, 1) := by decide +kernel
theorem d_St_byDistance_21 : decode c_St_byDistance 21 = .ok (.iinc 2 1, 3) := by decide +kernel
theorem d_St_byDistance_24 : decode c_St_byDistance 24 = .ok (.goto (-22), 3) := by decide +kernel
theorem d_St_byDistance_27 : decode c_St_byDistance 27 = .ok (.iconst (-1), 1) := by decide +kernel
theorem d_St_byDistance_28 : decode c_St_byDistance 28 = .ok (.ireturn, 1) := by decide +kernel
theorem d_St_countNearerThan_0 : decode c_St_countNearerThan 0 = .ok (.aload_n 0, 1) := by decide +kernel
theorem d_St_countNearerThan_1 : decode c_St_countNearerThan 1 = .ok (.iload_n 1, 1) := by decide +kernel
theorem d_St_countNearerThan_2 : decode c_St_countNearerThan 2 = .ok (.invokevirtual 44, 3) := by decide +kernel
theorem d_St_countNearerThan_5 : decode c_St_countNearerThan 5 = .ok (.istore_n 2, 1) := by decide +kernel
theorem d_St_countNearerThan_6 : decode c_St_countNearerThan 6 = .ok (.iconst 0, 1) := by decide +kernel
theorem d_St_countNearerThan_7 : decode c_St_countNearerThan 7 = .ok (.istore_n 3, 1) := by decide +kernel
theorem d_St_countNearerThan_8 : decode c_St_countNearerThan 8 = .ok (.iconst 0, 1) := by decide +kernel
theorem d_St_countNearerThan_9 : decode c_St_countNearerThan 9 = .ok (.istore 4, 2) := by decide +kernel
theorem d_St_countNearerThan_11 : decode c_St_countNearerThan 11 = .ok (.iload 4, 2) := by decide +kernel
theorem d_St_countNearerThan_13 : decode c_St_countNearerThan 13 = .ok (.aload_n 0, 1) := by decide +kernel
theorem d_St_countNearerThan_14 : decode c_St_countNearerThan 14 = .ok (.getfield 28, 3) := by decide +kernel
theorem d_St_countNearerThan_17 : decode c_St_countNearerThan 17 = .ok (.if_icmp .ge 38, 3) := by decide +kernel
theorem d_St_countNearerThan_20 : decode c_St_countNearerThan 20 = .ok (.aload_n 0, 1) := by decide +kernel
theorem d_St_countNearerThan_21 : decode c_St_countNearerThan 21 = .ok (.iload 4, 2) := by decide +kernel
theorem d_St_countNearerThan_23 : decode c_St_countNearerThan 23 = .ok (.invokevirtual 44, 3) := by decide +kernel
theorem d_St_countNearerThan_26 : decode c_St_countNearerThan 26 = .ok (.istore 5, 2) := by decide +kernel
theorem d_St_countNearerThan_28 : decode c_St_countNearerThan 28 = .ok (.iload 5, 2) := by decide +kernel
theorem d_St_countNearerThan_30 : decode c_St_countNearerThan 30 = .ok (.iload_n 2, 1) := by decide +kernel
theorem d_St_countNearerThan_31 : decode c_St_countNearerThan 31 = .ok (.if_icmp .lt 15, 3) := by decide +kernel
theorem d_St_countNearerThan_34 : decode c_St_countNearerThan 34 = .ok (.iload 5, 2) := by decide +kernel
theorem d_St_countNearerThan_36 : decode c_St_countNearerThan 36 = .ok (.iload_n 2, 1) := by decide +kernel
theorem d_St_countNearerThan_37 : decode c_St_countNearerThan 37 = .ok (.if_icmp .ne 12, 3) := by decide +kernel
theorem d_St_countNearerThan_40 : decode c_St_countNearerThan 40 = .ok (.iload 4, 2) := by decide +kernel
theorem d_St_countNearerThan_42 : decode c_St_countNearerThan 42 = .ok (.iload_n 1, 1) := by decide +kernel
theorem d_St_countNearerThan_43 : decode c_St_countNearerThan 43 = .ok (.if_icmp .ge 6, 3) := by decide +kernel
theorem d_St_countNearerThan_46 : decode c_St_countNearerThan 46 = .ok (.iinc 3 1, 3) := by decide +kernel
theorem d_St_countNearerThan_49 : decode c_St_countNearerThan 49 = .ok (.iinc 4 1, 3) := by decide +kernel
theorem d_St_countNearerThan_52 : decode c_St_countNearerThan 52 = .ok (.goto (-41), 3) := by decide +kernel
theorem d_St_countNearerThan_55 : decode c_St_countNearerThan 55 = .ok (.iload_n 3, 1) := by decide +kernel
theorem d_St_countNearerThan_56 : decode c_St_countNearerThan 56 = .ok (.ireturn, 1) := by decide +kernel
theorem d_St_widthOf_0 : decode c_St_widthOf 0 = .ok (.iconst 0, 1) := by decide +kernel
theorem d_St_widthOf_1 : decode c_St_widthOf 1 = .ok (.istore_n 3, 1) := by decide +kernel
theorem d_St_widthOf_2 : decode c_St_widthOf 2 = .ok (.iconst 0, 1) := by decide +kernel
theorem d_St_widthOf_3 : decode c_St_widthOf 3 = .ok (.istore 4, 2) := by decide +kernel
theorem d_St_widthOf_5 : decode c_St_widthOf 5 = .ok (.iload 4, 2) := by decide +kernel
theorem d_St_widthOf_7 : decode c_St_widthOf 7 = .ok (.aload_n 0, 1) := by decide +kernel
theorem d_St_widthOf_8 : decode c_St_widthOf 8 = .ok (.getfield 28, 3) := by decide +kernel
theorem d_St_widthOf_11 : decode c_St_widthOf 11 = .ok (.if_icmp .ge 61, 3) := by decide +kernel
theorem d_St_widthOf_14 : decode c_St_widthOf 14 = .ok (.iload 4, 2) := by decide +kernel
theorem d_St_widthOf_16 : decode c_St_widthOf 16 = .ok (.iconst 1, 1) := by decide +kernel
theorem d_St_widthOf_17 : decode c_St_widthOf 17 = .ok (.iadd, 1) := by decide +kernel
theorem d_St_widthOf_18 : decode c_St_widthOf 18 = .ok (.istore 5, 2) := by decide +kernel
theorem d_St_widthOf_20 : decode c_St_widthOf 20 = .ok (.iload 5, 2) := by decide +kernel
theorem d_St_widthOf_22 : decode c_St_widthOf 22 = .ok (.aload_n 0, 1) := by decide +kernel
theorem d_St_widthOf_23 : decode c_St_widthOf 23 = .ok (.getfield 28, 3) := by decide +kernel
theorem d_St_widthOf_26 : decode c_St_widthOf 26 = .ok (.if_icmp .ge 40, 3) := by decide +kernel
theorem d_St_widthOf_29 : decode c_St_widthOf 29 = .ok (.lload_n 1, 1) := by decide +kernel
theorem d_St_widthOf_30 : decode c_St_widthOf 30 = .ok (.iload 4, 2) := by decide +kernel
theorem d_St_widthOf_32 : decode c_St_widthOf 32 = .ok (.invokestatic 47, 3) := by decide +kernel
theorem d_St_widthOf_35 : decode c_St_widthOf 35 = .ok (.ifCond .eq 25, 3) := by decide +kernel
theorem d_St_widthOf_38 : decode c_St_widthOf 38 = .ok (.lload_n 1, 1) := by decide +kernel
theorem d_St_widthOf_39 : decode c_St_widthOf 39 = .ok (.iload 5, 2) := by decide +kernel
theorem d_St_widthOf_41 : decode c_St_widthOf 41 = .ok (.invokestatic 47, 3) := by decide +kernel
theorem d_St_widthOf_44 : decode c_St_widthOf 44 = .ok (.ifCond .eq 16, 3) := by decide +kernel
theorem d_St_widthOf_47 : decode c_St_widthOf 47 = .ok (.iload_n 3, 1) := by decide +kernel
theorem d_St_widthOf_48 : decode c_St_widthOf 48 = .ok (.aload_n 0, 1) := by decide +kernel
theorem d_St_widthOf_49 : decode c_St_widthOf 49 = .ok (.iload 4, 2) := by decide +kernel
theorem d_St_widthOf_51 : decode c_St_widthOf 51 = .ok (.iload 5, 2) := by decide +kernel
theorem d_St_widthOf_53 : decode c_St_widthOf 53 = .ok (.invokevirtual 51, 3) := by decide +kernel
theorem d_St_widthOf_56 : decode c_St_widthOf 56 = .ok (.invokestatic 55, 3) := by decide +kernel
theorem d_St_widthOf_59 : decode c_St_widthOf 59 = .ok (.istore_n 3, 1) := by decide +kernel
theorem d_St_widthOf_60 : decode c_St_widthOf 60 = .ok (.iinc 5 1, 3) := by decide +kernel
theorem d_St_widthOf_63 : decode c_St_widthOf 63 = .ok (.goto (-43), 3) := by decide +kernel
theorem d_St_widthOf_66 : decode c_St_widthOf 66 = .ok (.iinc 4 1, 3) := by decide +kernel
theorem d_St_widthOf_69 : decode c_St_widthOf 69 = .ok (.goto (-64), 3) := by decide +kernel
theorem d_St_widthOf_72 : decode c_St_widthOf 72 = .ok (.iload_n 3, 1) := by decide +kernel
theorem d_St_widthOf_73 : decode c_St_widthOf 73 = .ok (.ireturn, 1) := by decide +kernel
theorem d_Lg_bitCount_0 : decode c_Lg_bitCount 0 = .ok (.lload_n 0, 1) := by decide +kernel
theorem d_Lg_bitCount_1 : decode c_Lg_bitCount 1 = .ok (.lload_n 0, 1) := by decide +kernel
theorem d_Lg_bitCount_2 : decode c_Lg_bitCount 2 = .ok (.iconst 1, 1) := by decide +kernel
theorem d_Lg_bitCount_3 : decode c_Lg_bitCount 3 = .ok (.lushr, 1) := by decide +kernel
theorem d_Lg_bitCount_4 : decode c_Lg_bitCount 4 = .ok (.ldc2_w 314, 3) := by decide +kernel
theorem d_Lg_bitCount_7 : decode c_Lg_bitCount 7 = .ok (.land, 1) := by decide +kernel
theorem d_Lg_bitCount_8 : decode c_Lg_bitCount 8 = .ok (.lsub, 1) := by decide +kernel
theorem d_Lg_bitCount_9 : decode c_Lg_bitCount 9 = .ok (.lstore_n 0, 1) := by decide +kernel
theorem d_Lg_bitCount_10 : decode c_Lg_bitCount 10 = .ok (.lload_n 0, 1) := by decide +kernel
theorem d_Lg_bitCount_11 : decode c_Lg_bitCount 11 = .ok (.ldc2_w 316, 3) := by decide +kernel
theorem d_Lg_bitCount_14 : decode c_Lg_bitCount 14 = .ok (.land, 1) := by decide +kernel
theorem d_Lg_bitCount_15 : decode c_Lg_bitCount 15 = .ok (.lload_n 0, 1) := by decide +kernel
theorem d_Lg_bitCount_16 : decode c_Lg_bitCount 16 = .ok (.iconst 2, 1) := by decide +kernel
theorem d_Lg_bitCount_17 : decode c_Lg_bitCount 17 = .ok (.lushr, 1) := by decide +kernel
theorem d_Lg_bitCount_18 : decode c_Lg_bitCount 18 = .ok (.ldc2_w 316, 3) := by decide +kernel
theorem d_Lg_bitCount_21 : decode c_Lg_bitCount 21 = .ok (.land, 1) := by decide +kernel
theorem d_Lg_bitCount_22 : decode c_Lg_bitCount 22 = .ok (.ladd, 1) := by decide +kernel
theorem d_Lg_bitCount_23 : decode c_Lg_bitCount 23 = .ok (.lstore_n 0, 1) := by decide +kernel
theorem d_Lg_bitCount_24 : decode c_Lg_bitCount 24 = .ok (.lload_n 0, 1) := by decide +kernel
theorem d_Lg_bitCount_25 : decode c_Lg_bitCount 25 = .ok (.lload_n 0, 1) := by decide +kernel
theorem d_Lg_bitCount_26 : decode c_Lg_bitCount 26 = .ok (.iconst 4, 1) := by decide +kernel
theorem d_Lg_bitCount_27 : decode c_Lg_bitCount 27 = .ok (.lushr, 1) := by decide +kernel
theorem d_Lg_bitCount_28 : decode c_Lg_bitCount 28 = .ok (.ladd, 1) := by decide +kernel
theorem d_Lg_bitCount_29 : decode c_Lg_bitCount 29 = .ok (.ldc2_w 318, 3) := by decide +kernel
theorem d_Lg_bitCount_32 : decode c_Lg_bitCount 32 = .ok (.land, 1) := by decide +kernel
theorem d_Lg_bitCount_33 : decode c_Lg_bitCount 33 = .ok (.lstore_n 0, 1) := by decide +kernel
theorem d_Lg_bitCount_34 : decode c_Lg_bitCount 34 = .ok (.lload_n 0, 1) := by decide +kernel
theorem d_Lg_bitCount_35 : decode c_Lg_bitCount 35 = .ok (.lload_n 0, 1) := by decide +kernel
theorem d_Lg_bitCount_36 : decode c_Lg_bitCount 36 = .ok (.bipush 8, 2) := by decide +kernel
theorem d_Lg_bitCount_38 : decode c_Lg_bitCount 38 = .ok (.lushr, 1) := by decide +kernel
theorem d_Lg_bitCount_39 : decode c_Lg_bitCount 39 = .ok (.ladd, 1) := by decide +kernel
theorem d_Lg_bitCount_40 : decode c_Lg_bitCount 40 = .ok (.lstore_n 0, 1) := by decide +kernel
theorem d_Lg_bitCount_41 : decode c_Lg_bitCount 41 = .ok (.lload_n 0, 1) := by decide +kernel
theorem d_Lg_bitCount_42 : decode c_Lg_bitCount 42 = .ok (.lload_n 0, 1) := by decide +kernel
theorem d_Lg_bitCount_43 : decode c_Lg_bitCount 43 = .ok (.bipush 16, 2) := by decide +kernel
theorem d_Lg_bitCount_45 : decode c_Lg_bitCount 45 = .ok (.lushr, 1) := by decide +kernel
theorem d_Lg_bitCount_46 : decode c_Lg_bitCount 46 = .ok (.ladd, 1) := by decide +kernel
theorem d_Lg_bitCount_47 : decode c_Lg_bitCount 47 = .ok (.lstore_n 0, 1) := by decide +kernel
theorem d_Lg_bitCount_48 : decode c_Lg_bitCount 48 = .ok (.lload_n 0, 1) := by decide +kernel
theorem d_Lg_bitCount_49 : decode c_Lg_bitCount 49 = .ok (.lload_n 0, 1) := by decide +kernel
theorem d_Lg_bitCount_50 : decode c_Lg_bitCount 50 = .ok (.bipush 32, 2) := by decide +kernel
theorem d_Lg_bitCount_52 : decode c_Lg_bitCount 52 = .ok (.lushr, 1) := by decide +kernel
theorem d_Lg_bitCount_53 : decode c_Lg_bitCount 53 = .ok (.ladd, 1) := by decide +kernel
theorem d_Lg_bitCount_54 : decode c_Lg_bitCount 54 = .ok (.lstore_n 0, 1) := by decide +kernel
theorem d_Lg_bitCount_55 : decode c_Lg_bitCount 55 = .ok (.lload_n 0, 1) := by decide +kernel
theorem d_Lg_bitCount_56 : decode c_Lg_bitCount 56 = .ok (.l2i, 1) := by decide +kernel
theorem d_Lg_bitCount_57 : decode c_Lg_bitCount 57 = .ok (.bipush 127, 2) := by decide +kernel
theorem d_Lg_bitCount_59 : decode c_Lg_bitCount 59 = .ok (.iand, 1) := by decide +kernel
theorem d_Lg_bitCount_60 : decode c_Lg_bitCount 60 = .ok (.ireturn, 1) := by decide +kernel
theorem d_Ma_max_0 : decode c_Ma_max 0 = .ok (.iload_n 0, 1) := by decide +kernel
theorem d_Ma_max_1 : decode c_Ma_max 1 = .ok (.iload_n 1, 1) := by decide +kernel
theorem d_Ma_max_2 : decode c_Ma_max 2 = .ok (.if_icmp .lt 7, 3) := by decide +kernel
theorem d_Ma_max_5 : decode c_Ma_max 5 = .ok (.iload_n 0, 1) := by decide +kernel
theorem d_Ma_max_6 : decode c_Ma_max 6 = .ok (.goto 4, 3) := by decide +kernel
theorem d_Ma_max_9 : decode c_Ma_max 9 = .ok (.iload_n 1, 1) := by decide +kernel
theorem d_Ma_max_10 : decode c_Ma_max 10 = .ok (.ireturn, 1) := by decide +kernel
theorem d_Ma_min_0 : decode c_Ma_min 0 = .ok (.iload_n 0, 1) := by decide +kernel
theorem d_Ma_min_1 : decode c_Ma_min 1 = .ok (.iload_n 1, 1) := by decide +kernel
theorem d_Ma_min_2 : decode c_Ma_min 2 = .ok (.if_icmp .gt 7, 3) := by decide +kernel
theorem d_Ma_min_5 : decode c_Ma_min 5 = .ok (.iload_n 0, 1) := by decide +kernel
theorem d_Ma_min_6 : decode c_Ma_min 6 = .ok (.goto 4, 3) := by decide +kernel
theorem d_Ma_min_9 : decode c_Ma_min 9 = .ok (.iload_n 1, 1) := by decide +kernel
theorem d_Ma_min_10 : decode c_Ma_min 10 = .ok (.ireturn, 1) := by decide +kernel
end
section
theorem d_Mo_init_0 : decode c_Mo_init 0 = .ok (.aload_n 0, 1) := by decide +kernel
theorem d_Mo_init_1 : decode c_Mo_init 1 = .ok (.invokespecial 1, 3) := by decide +kernel
theorem d_Mo_init_4 : decode c_Mo_init 4 = .ok (.aload_n 0, 1) := by decide +kernel
theorem d_Mo_init_5 : decode c_Mo_init 5 = .ok (.bipush 43, 2) := by decide +kernel
theorem d_Mo_init_7 : decode c_Mo_init 7 = .ok (.newarray .long, 2) := by decide +kernel
theorem d_Mo_init_9 : decode c_Mo_init 9 = .ok (.putfield 7, 3) := by decide +kernel
theorem d_Mo_init_12 : decode c_Mo_init 12 = .ok (.aload_n 0, 1) := by decide +kernel
theorem d_Mo_init_13 : decode c_Mo_init 13 = .ok (.bipush 40, 2) := by decide +kernel
theorem d_Mo_init_15 : decode c_Mo_init 15 = .ok (.newarray .int, 2) := by decide +kernel
theorem d_Mo_init_17 : decode c_Mo_init 17 = .ok (.putfield 13, 3) := by decide +kernel
theorem d_Mo_init_20 : decode c_Mo_init 20 = .ok (.aload_n 0, 1) := by decide +kernel
theorem d_Mo_init_21 : decode c_Mo_init 21 = .ok (.sipush 860, 3) := by decide +kernel
theorem d_Mo_init_24 : decode c_Mo_init 24 = .ok (.newarray .long, 2) := by decide +kernel
theorem d_Mo_init_26 : decode c_Mo_init 26 = .ok (.putfield 17, 3) := by decide +kernel
theorem d_Mo_init_29 : decode c_Mo_init 29 = .ok (.aload_n 0, 1) := by decide +kernel
theorem d_Mo_init_30 : decode c_Mo_init 30 = .ok (.sipush 800, 3) := by decide +kernel
theorem d_Mo_init_33 : decode c_Mo_init 33 = .ok (.newarray .int, 2) := by decide +kernel
theorem d_Mo_init_35 : decode c_Mo_init 35 = .ok (.putfield 20, 3) := by decide +kernel
theorem d_Mo_init_38 : decode c_Mo_init 38 = .ok (.aload_n 0, 1) := by decide +kernel
theorem d_Mo_init_39 : decode c_Mo_init 39 = .ok (.bipush 86, 2) := by decide +kernel
theorem d_Mo_init_41 : decode c_Mo_init 41 = .ok (.newarray .long, 2) := by decide +kernel
theorem d_Mo_init_43 : decode c_Mo_init 43 = .ok (.putfield 23, 3) := by decide +kernel
theorem d_Mo_init_46 : decode c_Mo_init 46 = .ok (.aload_n 0, 1) := by decide +kernel
theorem d_Mo_init_47 : decode c_Mo_init 47 = .ok (.bipush 80, 2) := by decide +kernel
theorem d_Mo_init_49 : decode c_Mo_init 49 = .ok (.newarray .int, 2) := by decide +kernel
theorem d_Mo_init_51 : decode c_Mo_init 51 = .ok (.putfield 26, 3) := by decide +kernel
theorem d_Mo_init_54 : decode c_Mo_init 54 = .ok (.aload_n 0, 1) := by decide +kernel
theorem d_Mo_init_55 : decode c_Mo_init 55 = .ok (.iconst 2, 1) := by decide +kernel
theorem d_Mo_init_56 : decode c_Mo_init 56 = .ok (.newarray .int, 2) := by decide +kernel
theorem d_Mo_init_58 : decode c_Mo_init 58 = .ok (.putfield 29, 3) := by decide +kernel
theorem d_Mo_init_61 : decode c_Mo_init 61 = .ok (.aload_n 0, 1) := by decide +kernel
theorem d_Mo_init_62 : decode c_Mo_init 62 = .ok (.iconst 2, 1) := by decide +kernel
theorem d_Mo_init_63 : decode c_Mo_init 63 = .ok (.newarray .boolean, 2) := by decide +kernel
theorem d_Mo_init_65 : decode c_Mo_init 65 = .ok (.putfield 32, 3) := by decide +kernel
theorem d_Mo_init_68 : decode c_Mo_init 68 = .ok (.aload_n 0, 1) := by decide +kernel
theorem d_Mo_init_69 : decode c_Mo_init 69 = .ok (.bipush 6, 2) := by decide +kernel
theorem d_Mo_init_71 : decode c_Mo_init 71 = .ok (.newarray .long, 2) := by decide +kernel
theorem d_Mo_init_73 : decode c_Mo_init 73 = .ok (.putfield 36, 3) := by decide +kernel
theorem d_Mo_init_76 : decode c_Mo_init 76 = .ok (.aload_n 0, 1) := by decide +kernel
theorem d_Mo_init_77 : decode c_Mo_init 77 = .ok (.bipush 6, 2) := by decide +kernel
theorem d_Mo_init_79 : decode c_Mo_init 79 = .ok (.newarray .int, 2) := by decide +kernel
theorem d_Mo_init_81 : decode c_Mo_init 81 = .ok (.putfield 39, 3) := by decide +kernel
theorem d_Mo_init_84 : decode c_Mo_init 84 = .ok (.aload_n 0, 1) := by decide +kernel
theorem d_Mo_init_85 : decode c_Mo_init 85 = .ok (.bipush 20, 2) := by decide +kernel
theorem d_Mo_init_87 : decode c_Mo_init 87 = .ok (.newarray .int, 2) := by decide +kernel
theorem d_Mo_init_89 : decode c_Mo_init 89 = .ok (.putfield 42, 3) := by decide +kernel
theorem d_Mo_init_92 : decode c_Mo_init 92 = .ok (.aload_n 0, 1) := by decide +kernel
theorem d_Mo_init_93 : decode c_Mo_init 93 = .ok (.bipush 20, 2) := by decide +kernel
theorem d_Mo_init_95 : decode c_Mo_init 95 = .ok (.newarray .int, 2) := by decide +kernel
theorem d_Mo_init_97 : decode c_Mo_init 97 = .ok (.putfield 45, 3) := by decide +kernel
theorem d_Mo_init_100 : decode c_Mo_init 100 = .ok (.aload_n 0, 1) := by decide +kernel
theorem d_Mo_init_101 : decode c_Mo_init 101 = .ok (.bipush 20, 2) := by decide +kernel
theorem d_Mo_init_103 : decode c_Mo_init 103 = .ok (.newarray .int, 2) := by decide +kernel
theorem d_Mo_init_105 : decode c_Mo_init 105 = .ok (.putfield 48, 3) := by decide +kernel
theorem d_Mo_init_108 : decode c_Mo_init 108 = .ok (.aload_n 0, 1) := by decide +kernel
theorem d_Mo_init_109 : decode c_Mo_init 109 = .ok (.bipush 40, 2) := by decide +kernel
theorem d_Mo_init_111 : decode c_Mo_init 111 = .ok (.newarray .int, 2) := by decide +kernel
theorem d_Mo_init_113 : decode c_Mo_init 113 = .ok (.putfield 51, 3) := by decide +kernel
theorem d_Mo_init_116 : decode c_Mo_init 116 = .ok (.aload_n 0, 1) := by decide +kernel
theorem d_Mo_init_117 : decode c_Mo_init 117 = .ok (.bipush 65, 2) := by decide +kernel
theorem d_Mo_init_119 : decode c_Mo_init 119 = .ok (.newarray .int, 2) := by decide +kernel
theorem d_Mo_init_121 : decode c_Mo_init 121 = .ok (.putfield 54, 3) := by decide +kernel
theorem d_Mo_init_124 : decode c_Mo_init 124 = .ok (.aload_n 0, 1) := by decide +kernel
theorem d_Mo_init_125 : decode c_Mo_init 125 = .ok (.getfield 7, 3) := by decide +kernel
theorem d_Mo_init_128 : decode c_Mo_init 128 = .ok (.iconst 1, 1) := by decide +kernel
theorem d_Mo_init_129 : decode c_Mo_init 129 = .ok (.ldc2_w 57, 3) := by decide +kernel
theorem d_Mo_init_132 : decode c_Mo_init 132 = .ok (.lastore, 1) := by decide +kernel
theorem d_Mo_init_133 : decode c_Mo_init 133 = .ok (.return_, 1) := by decide +kernel
theorem d_Mo_in_0 : decode c_Mo_in 0 = .ok (.lload_n 0, 1) := by decide +kernel
theorem d_Mo_in_1 : decode c_Mo_in 1 = .ok (.lload_n 2, 1) := by decide +kernel
theorem d_Mo_in_2 : decode c_Mo_in 2 = .ok (.lcmp, 1) := by decide +kernel
theorem d_Mo_in_3 : decode c_Mo_in 3 = .ok (.ifCond .lt 14, 3) := by decide +kernel
theorem d_Mo_in_6 : decode c_Mo_in 6 = .ok (.lload_n 0, 1) := by decide +kernel
theorem d_Mo_in_7 : decode c_Mo_in 7 = .ok (.lload 4, 2) := by decide +kernel
theorem d_Mo_in_9 : decode c_Mo_in 9 = .ok (.lcmp, 1) := by decide +kernel
theorem d_Mo_in_10 : decode c_Mo_in 10 = .ok (.ifCond .gt 7, 3) := by decide +kernel
theorem d_Mo_in_13 : decode c_Mo_in 13 = .ok (.iconst 1, 1) := by decide +kernel
theorem d_Mo_in_14 : decode c_Mo_in 14 = .ok (.goto 4, 3) := by decide +kernel
theorem d_Mo_in_17 : decode c_Mo_in 17 = .ok (.iconst 0, 1) := by decide +kernel
theorem d_Mo_in_18 : decode c_Mo_in 18 = .ok (.ireturn, 1) := by decide +kernel
theorem d_Mo_ones_0 : decode c_Mo_ones 0 = .ok (.iconst 0, 1) := by decide +kernel
theorem d_Mo_ones_1 : decode c_Mo_ones 1 = .ok (.istore_n 2, 1) := by decide +kernel
theorem d_Mo_ones_2 : decode c_Mo_ones 2 = .ok (.iconst 0, 1) := by decide +kernel
theorem d_Mo_ones_3 : decode c_Mo_ones 3 = .ok (.istore_n 3, 1) := by decide +kernel
theorem d_Mo_ones_4 : decode c_Mo_ones 4 = .ok (.iload_n 3, 1) := by decide +kernel
theorem d_Mo_ones_5 : decode c_Mo_ones 5 = .ok (.bipush 64, 2) := by decide +kernel
theorem d_Mo_ones_7 : decode c_Mo_ones 7 = .ok (.if_icmp .ge 27, 3) := by decide +kernel
theorem d_Mo_ones_10 : decode c_Mo_ones 10 = .ok (.iload_n 2, 1) := by decide +kernel
theorem d_Mo_ones_11 : decode c_Mo_ones 11 = .ok (.lload_n 0, 1) := by decide +kernel
theorem d_Mo_ones_12 : decode c_Mo_ones 12 = .ok (.iload_n 3, 1) := by decide +kernel
theorem d_Mo_ones_13 : decode c_Mo_ones 13 = .ok (.lshr, 1) := by decide +kernel
theorem d_Mo_ones_14 : decode c_Mo_ones 14 = .ok (.lconst 1, 1) := by decide +kernel
theorem d_Mo_ones_15 : decode c_Mo_ones 15 = .ok (.land, 1) := by decide +kernel
theorem d_Mo_ones_16 : decode c_Mo_ones 16 = .ok (.lconst 1, 1) := by decide +kernel
theorem d_Mo_ones_17 : decode c_Mo_ones 17 = .ok (.lcmp, 1) := by decide +kernel
theorem d_Mo_ones_18 : decode c_Mo_ones 18 = .ok (.ifCond .ne 7, 3) := by decide +kernel
theorem d_Mo_ones_21 : decode c_Mo_ones 21 = .ok (.iconst 1, 1) := by decide +kernel
theorem d_Mo_ones_22 : decode c_Mo_ones 22 = .ok (.goto 4, 3) := by decide +kernel
theorem d_Mo_ones_25 : decode c_Mo_ones 25 = .ok (.iconst 0, 1) := by decide +kernel
theorem d_Mo_ones_26 : decode c_Mo_ones 26 = .ok (.iadd, 1) := by decide +kernel
theorem d_Mo_ones_27 : decode c_Mo_ones 27 = .ok (.istore_n 2, 1) := by decide +kernel
theorem d_Mo_ones_28 : decode c_Mo_ones 28 = .ok (.iinc 3 1, 3) := by decide +kernel
theorem d_Mo_ones_31 : decode c_Mo_ones 31 = .ok (.goto (-27), 3) := by decide +kernel
theorem d_Mo_ones_34 : decode c_Mo_ones 34 = .ok (.iload_n 2, 1) := by decide +kernel
theorem d_Mo_ones_35 : decode c_Mo_ones 35 = .ok (.ireturn, 1) := by decide +kernel
theorem d_Mo_has_0 : decode c_Mo_has 0 = .ok (.lload_n 0, 1) := by decide +kernel
theorem d_Mo_has_1 : decode c_Mo_has 1 = .ok (.iload_n 2, 1) := by decide +kernel
theorem d_Mo_has_2 : decode c_Mo_has 2 = .ok (.lshr, 1) := by decide +kernel
theorem d_Mo_has_3 : decode c_Mo_has 3 = .ok (.lconst 1, 1) := by decide +kernel
theorem d_Mo_has_4 : decode c_Mo_has 4 = .ok (.land, 1) := by decide +kernel
theorem d_Mo_has_5 : decode c_Mo_has 5 = .ok (.lconst 1, 1) := by decide +kernel
theorem d_Mo_has_6 : decode c_Mo_has 6 = .ok (.lcmp, 1) := by decide +kernel
theorem d_Mo_has_7 : decode c_Mo_has 7 = .ok (.ifCond .ne 7, 3) := by decide +kernel
theorem d_Mo_has_10 : decode c_Mo_has 10 = .ok (.iconst 1, 1) := by decide +kernel
theorem d_Mo_has_11 : decode c_Mo_has 11 = .ok (.goto 4, 3) := by decide +kernel
theorem d_Mo_has_14 : decode c_Mo_has 14 = .ok (.iconst 0, 1) := by decide +kernel
theorem d_Mo_has_15 : decode c_Mo_has 15 = .ok (.ireturn, 1) := by decide +kernel
theorem d_Mo_marks_0 : decode c_Mo_marks 0 = .ok (.aload_n 0, 1) := by decide +kernel
theorem d_Mo_marks_1 : decode c_Mo_marks 1 = .ok (.getfield 7, 3) := by decide +kernel
theorem d_Mo_marks_4 : decode c_Mo_marks 4 = .ok (.iconst 2, 1) := by decide +kernel
theorem d_Mo_marks_5 : decode c_Mo_marks 5 = .ok (.laload, 1) := by decide +kernel
theorem d_Mo_marks_6 : decode c_Mo_marks 6 = .ok (.l2i, 1) := by decide +kernel
theorem d_Mo_marks_7 : decode c_Mo_marks 7 = .ok (.ireturn, 1) := by decide +kernel
theorem d_Mo_own_0 : decode c_Mo_own 0 = .ok (.aload_n 0, 1) := by decide +kernel
theorem d_Mo_own_1 : decode c_Mo_own 1 = .ok (.getfield 7, 3) := by decide +kernel
theorem d_Mo_own_4 : decode c_Mo_own 4 = .ok (.iconst 3, 1) := by decide +kernel
theorem d_Mo_own_5 : decode c_Mo_own 5 = .ok (.iload_n 1, 1) := by decide +kernel
theorem d_Mo_own_6 : decode c_Mo_own 6 = .ok (.iadd, 1) := by decide +kernel
theorem d_Mo_own_7 : decode c_Mo_own 7 = .ok (.laload, 1) := by decide +kernel
theorem d_Mo_own_8 : decode c_Mo_own 8 = .ok (.lreturn, 1) := by decide +kernel
theorem d_Mo_isMark_0 : decode c_Mo_isMark 0 = .ok (.iload_n 1, 1) := by decide +kernel
theorem d_Mo_isMark_1 : decode c_Mo_isMark 1 = .ok (.i2l, 1) := by decide +kernel
theorem d_Mo_isMark_2 : decode c_Mo_isMark 2 = .ok (.lconst 0, 1) := by decide +kernel
theorem d_Mo_isMark_3 : decode c_Mo_isMark 3 = .ok (.aload_n 0, 1) := by decide +kernel
theorem d_Mo_isMark_4 : decode c_Mo_isMark 4 = .ok (.invokevirtual 59, 3) := by decide +kernel
theorem d_Mo_isMark_7 : decode c_Mo_isMark 7 = .ok (.iconst 1, 1) := by decide +kernel
theorem d_Mo_isMark_8 : decode c_Mo_isMark 8 = .ok (.isub, 1) := by decide +kernel
theorem d_Mo_isMark_9 : decode c_Mo_isMark 9 = .ok (.i2l, 1) := by decide +kernel
theorem d_Mo_isMark_10 : decode c_Mo_isMark 10 = .ok (.invokestatic 63, 3) := by decide +kernel
theorem d_Mo_isMark_13 : decode c_Mo_isMark 13 = .ok (.ireturn, 1) := by decide +kernel
theorem d_Mo_off_0 : decode c_Mo_off 0 = .ok (.aload_n 0, 1) := by decide +kernel
theorem d_Mo_off_1 : decode c_Mo_off 1 = .ok (.iload_n 1, 1) := by decide +kernel
theorem d_Mo_off_2 : decode c_Mo_off 2 = .ok (.invokevirtual 67, 3) := by decide +kernel
theorem d_Mo_off_5 : decode c_Mo_off 5 = .ok (.aload_n 0, 1) := by decide +kernel
theorem d_Mo_off_6 : decode c_Mo_off 6 = .ok (.getfield 7, 3) := by decide +kernel
theorem d_Mo_off_9 : decode c_Mo_off 9 = .ok (.iconst 0, 1) := by decide +kernel
theorem d_Mo_off_10 : decode c_Mo_off 10 = .ok (.laload, 1) := by decide +kernel
theorem d_Mo_off_11 : decode c_Mo_off 11 = .ok (.lxor, 1) := by decide +kernel
theorem d_Mo_off_12 : decode c_Mo_off 12 = .ok (.invokestatic 71, 3) := by decide +kernel
theorem d_Mo_off_15 : decode c_Mo_off 15 = .ok (.ireturn, 1) := by decide +kernel
theorem d_Mo_parts_0 : decode c_Mo_parts 0 = .ok (.aload_n 0, 1) := by decide +kernel
theorem d_Mo_parts_1 : decode c_Mo_parts 1 = .ok (.getfield 7, 3) := by decide +kernel
theorem d_Mo_parts_4 : decode c_Mo_parts 4 = .ok (.iconst 1, 1) := by decide +kernel
theorem d_Mo_parts_5 : decode c_Mo_parts 5 = .ok (.laload, 1) := by decide +kernel
theorem d_Mo_parts_6 : decode c_Mo_parts 6 = .ok (.invokestatic 71, 3) := by decide +kernel
theorem d_Mo_parts_9 : decode c_Mo_parts 9 = .ok (.ireturn, 1) := by decide +kernel
theorem d_Mo_isLooked_0 : decode c_Mo_isLooked 0 = .ok (.lload_n 0, 1) := by decide +kernel
theorem d_Mo_isLooked_1 : decode c_Mo_isLooked 1 = .ok (.lload_n 2, 1) := by decide +kernel
theorem d_Mo_isLooked_2 : decode c_Mo_isLooked 2 = .ok (.lxor, 1) := by decide +kernel
theorem d_Mo_isLooked_3 : decode c_Mo_isLooked 3 = .ok (.lstore 6, 2) := by decide +kernel
theorem d_Mo_isLooked_5 : decode c_Mo_isLooked 5 = .ok (.iconst 0, 1) := by decide +kernel
theorem d_Mo_isLooked_6 : decode c_Mo_isLooked 6 = .ok (.istore 8, 2) := by decide +kernel
theorem d_Mo_isLooked_8 : decode c_Mo_isLooked 8 = .ok (.iconst 0, 1) := by decide +kernel
theorem d_Mo_isLooked_9 : decode c_Mo_isLooked 9 = .ok (.istore 9, 2) := by decide +kernel
theorem d_Mo_isLooked_11 : decode c_Mo_isLooked 11 = .ok (.iconst 0, 1) := by decide +kernel
theorem d_Mo_isLooked_12 : decode c_Mo_isLooked 12 = .ok (.istore 10, 2) := by decide +kernel
theorem d_Mo_isLooked_14 : decode c_Mo_isLooked 14 = .ok (.iload 10, 2) := by decide +kernel
theorem d_Mo_isLooked_16 : decode c_Mo_isLooked 16 = .ok (.bipush 64, 2) := by decide +kernel
theorem d_Mo_isLooked_18 : decode c_Mo_isLooked 18 = .ok (.if_icmp .ge 73, 3) := by decide +kernel
theorem d_Mo_isLooked_21 : decode c_Mo_isLooked 21 = .ok (.iload 8, 2) := by decide +kernel
theorem d_Mo_isLooked_23 : decode c_Mo_isLooked 23 = .ok (.ifCond .ne 23, 3) := by decide +kernel
theorem d_Mo_isLooked_26 : decode c_Mo_isLooked 26 = .ok (.iload 10, 2) := by decide +kernel
theorem d_Mo_isLooked_28 : decode c_Mo_isLooked 28 = .ok (.ifCond .le 22, 3) := by decide +kernel
theorem d_Mo_isLooked_31 : decode c_Mo_isLooked 31 = .ok (.lload 4, 2) := by decide +kernel
theorem d_Mo_isLooked_33 : decode c_Mo_isLooked 33 = .ok (.iload 10, 2) := by decide +kernel
theorem d_Mo_isLooked_35 : decode c_Mo_isLooked 35 = .ok (.invokestatic 75, 3) := by decide +kernel
theorem d_Mo_isLooked_38 : decode c_Mo_isLooked 38 = .ok (.ifCond .eq 12, 3) := by decide +kernel
theorem d_Mo_isLooked_41 : decode c_Mo_isLooked 41 = .ok (.iload 9, 2) := by decide +kernel
theorem d_Mo_isLooked_43 : decode c_Mo_isLooked 43 = .ok (.ifCond .eq 7, 3) := by decide +kernel
theorem d_Mo_isLooked_46 : decode c_Mo_isLooked 46 = .ok (.iconst 1, 1) := by decide +kernel
theorem d_Mo_isLooked_47 : decode c_Mo_isLooked 47 = .ok (.goto 4, 3) := by decide +kernel
theorem d_Mo_isLooked_50 : decode c_Mo_isLooked 50 = .ok (.iconst 0, 1) := by decide +kernel
theorem d_Mo_isLooked_51 : decode c_Mo_isLooked 51 = .ok (.istore 8, 2) := by decide +kernel
theorem d_Mo_isLooked_53 : decode c_Mo_isLooked 53 = .ok (.lload 4, 2) := by decide +kernel
theorem d_Mo_isLooked_55 : decode c_Mo_isLooked 55 = .ok (.iload 10, 2) := by decide +kernel
theorem d_Mo_isLooked_57 : decode c_Mo_isLooked 57 = .ok (.invokestatic 75, 3) := by decide +kernel
theorem d_Mo_isLooked_60 : decode c_Mo_isLooked 60 = .ok (.ifCond .ne 8, 3) := by decide +kernel
theorem d_Mo_isLooked_63 : decode c_Mo_isLooked 63 = .ok (.iload 9, 2) := by decide +kernel
theorem d_Mo_isLooked_65 : decode c_Mo_isLooked 65 = .ok (.ifCond .eq 17, 3) := by decide +kernel
theorem d_Mo_isLooked_68 : decode c_Mo_isLooked 68 = .ok (.lload 6, 2) := by decide +kernel
theorem d_Mo_isLooked_70 : decode c_Mo_isLooked 70 = .ok (.iload 10, 2) := by decide +kernel
theorem d_Mo_isLooked_72 : decode c_Mo_isLooked 72 = .ok (.invokestatic 75, 3) := by decide +kernel
theorem d_Mo_isLooked_75 : decode c_Mo_isLooked 75 = .ok (.ifCond .ne 7, 3) := by decide +kernel
theorem d_Mo_isLooked_78 : decode c_Mo_isLooked 78 = .ok (.iconst 1, 1) := by decide +kernel
theorem d_Mo_isLooked_79 : decode c_Mo_isLooked 79 = .ok (.goto 4, 3) := by decide +kernel
theorem d_Mo_isLooked_82 : decode c_Mo_isLooked 82 = .ok (.iconst 0, 1) := by decide +kernel
theorem d_Mo_isLooked_83 : decode c_Mo_isLooked 83 = .ok (.istore 9, 2) := by decide +kernel
theorem d_Mo_isLooked_85 : decode c_Mo_isLooked 85 = .ok (.iinc 10 1, 3) := by decide +kernel
theorem d_Mo_isLooked_88 : decode c_Mo_isLooked 88 = .ok (.goto (-74), 3) := by decide +kernel
theorem d_Mo_isLooked_91 : decode c_Mo_isLooked 91 = .ok (.iload 8, 2) := by decide +kernel
theorem d_Mo_isLooked_93 : decode c_Mo_isLooked 93 = .ok (.ifCond .ne 8, 3) := by decide +kernel
theorem d_Mo_isLooked_96 : decode c_Mo_isLooked 96 = .ok (.iload 9, 2) := by decide +kernel
theorem d_Mo_isLooked_98 : decode c_Mo_isLooked 98 = .ok (.ifCond .eq 7, 3) := by decide +kernel
theorem d_Mo_isLooked_101 : decode c_Mo_isLooked 101 = .ok (.iconst 1, 1) := by decide +kernel
theorem d_Mo_isLooked_102 : decode c_Mo_isLooked 102 = .ok (.goto 4, 3) := by decide +kernel
theorem d_Mo_isLooked_105 : decode c_Mo_isLooked 105 = .ok (.iconst 0, 1) := by decide +kernel
theorem d_Mo_isLooked_106 : decode c_Mo_isLooked 106 = .ok (.ireturn, 1) := by decide +kernel
theorem d_Mo_like_0 : decode c_Mo_like 0 = .ok (.iconst (-1), 1) := by decide +kernel
theorem d_Mo_like_1 : decode c_Mo_like 1 = .ok (.istore_n 3, 1) := by decide +kernel
theorem d_Mo_like_2 : decode c_Mo_like 2 = .ok (.iconst 0, 1) := by decide +kernel
theorem d_Mo_like_3 : decode c_Mo_like 3 = .ok (.istore 4, 2) := by decide +kernel
theorem d_Mo_like_5 : decode c_Mo_like 5 = .ok (.iload 4, 2) := by decide +kernel
theorem d_Mo_like_7 : decode c_Mo_like 7 = .ok (.aload_n 0, 1) := by decide +kernel
theorem d_Mo_like_8 : decode c_Mo_like 8 = .ok (.invokevirtual 59, 3) := by decide +kernel
theorem d_Mo_like_11 : decode c_Mo_like 11 = .ok (.if_icmp .ge 27, 3) := by decide +kernel
theorem d_Mo_like_14 : decode c_Mo_like 14 = .ok (.aload_n 0, 1) := by decide +kernel
theorem d_Mo_like_15 : decode c_Mo_like 15 = .ok (.iload 4, 2) := by decide +kernel
theorem d_Mo_like_17 : decode c_Mo_like 17 = .ok (.invokevirtual 67, 3) := by decide +kernel
theorem d_Mo_like_20 : decode c_Mo_like 20 = .ok (.lload_n 1, 1) := by decide +kernel
theorem d_Mo_like_21 : decode c_Mo_like 21 = .ok (.lcmp, 1) := by decide +kernel
theorem d_Mo_like_22 : decode c_Mo_like 22 = .ok (.ifCond .ne 8, 3) := by decide +kernel
theorem d_Mo_like_25 : decode c_Mo_like 25 = .ok (.iload 4, 2) := by decide +kernel
theorem d_Mo_like_27 : decode c_Mo_like 27 = .ok (.goto 4, 3) := by decide +kernel
theorem d_Mo_like_30 : decode c_Mo_like 30 = .ok (.iload_n 3, 1) := by decide +kernel
theorem d_Mo_like_31 : decode c_Mo_like 31 = .ok (.istore_n 3, 1) := by decide +kernel
theorem d_Mo_like_32 : decode c_Mo_like 32 = .ok (.iinc 4 1, 3) := by decide +kernel
theorem d_Mo_like_35 : decode c_Mo_like 35 = .ok (.goto (-30), 3) := by decide +kernel
theorem d_Mo_like_38 : decode c_Mo_like 38 = .ok (.iload_n 3, 1) := by decide +kernel
theorem d_Mo_like_39 : decode c_Mo_like 39 = .ok (.ireturn, 1) := by decide +kernel
theorem d_Mo_looked_0 : decode c_Mo_looked 0 = .ok (.iconst 0, 1) := by decide +kernel
theorem d_Mo_looked_1 : decode c_Mo_looked 1 = .ok (.istore_n 2, 1) := by decide +kernel
theorem d_Mo_looked_2 : decode c_Mo_looked 2 = .ok (.iconst 0, 1) := by decide +kernel
theorem d_Mo_looked_3 : decode c_Mo_looked 3 = .ok (.istore_n 3, 1) := by decide +kernel
theorem d_Mo_looked_4 : decode c_Mo_looked 4 = .ok (.iload_n 3, 1) := by decide +kernel
theorem d_Mo_looked_5 : decode c_Mo_looked 5 = .ok (.aload_n 0, 1) := by decide +kernel
theorem d_Mo_looked_6 : decode c_Mo_looked 6 = .ok (.invokevirtual 59, 3) := by decide +kernel
theorem d_Mo_looked_9 : decode c_Mo_looked 9 = .ok (.if_icmp .ge 60, 3) := by decide +kernel
theorem d_Mo_looked_12 : decode c_Mo_looked 12 = .ok (.aload_n 0, 1) := by decide +kernel
theorem d_Mo_looked_13 : decode c_Mo_looked 13 = .ok (.iload_n 3, 1) := by decide +kernel
theorem d_Mo_looked_14 : decode c_Mo_looked 14 = .ok (.invokevirtual 67, 3) := by decide +kernel
theorem d_Mo_looked_17 : decode c_Mo_looked 17 = .ok (.aload_n 0, 1) := by decide +kernel
theorem d_Mo_looked_18 : decode c_Mo_looked 18 = .ok (.getfield 7, 3) := by decide +kernel
theorem d_Mo_looked_21 : decode c_Mo_looked 21 = .ok (.iconst 0, 1) := by decide +kernel
theorem d_Mo_looked_22 : decode c_Mo_looked 22 = .ok (.laload, 1) := by decide +kernel
theorem d_Mo_looked_23 : decode c_Mo_looked 23 = .ok (.aload_n 0, 1) := by decide +kernel
theorem d_Mo_looked_24 : decode c_Mo_looked 24 = .ok (.getfield 7, 3) := by decide +kernel
theorem d_Mo_looked_27 : decode c_Mo_looked 27 = .ok (.iconst 1, 1) := by decide +kernel
theorem d_Mo_looked_28 : decode c_Mo_looked 28 = .ok (.laload, 1) := by decide +kernel
theorem d_Mo_looked_29 : decode c_Mo_looked 29 = .ok (.invokestatic 79, 3) := by decide +kernel
theorem d_Mo_looked_32 : decode c_Mo_looked 32 = .ok (.istore 4, 2) := by decide +kernel
theorem d_Mo_looked_34 : decode c_Mo_looked 34 = .ok (.iload_n 2, 1) := by decide +kernel
theorem d_Mo_looked_35 : decode c_Mo_looked 35 = .ok (.iload 4, 2) := by decide +kernel
theorem d_Mo_looked_37 : decode c_Mo_looked 37 = .ok (.ifCond .eq 23, 3) := by decide +kernel
theorem d_Mo_looked_40 : decode c_Mo_looked 40 = .ok (.iload_n 1, 1) := by decide +kernel
theorem d_Mo_looked_41 : decode c_Mo_looked 41 = .ok (.ifCond .eq 15, 3) := by decide +kernel
theorem d_Mo_looked_44 : decode c_Mo_looked 44 = .ok (.aload_n 0, 1) := by decide +kernel
theorem d_Mo_looked_45 : decode c_Mo_looked 45 = .ok (.iload_n 3, 1) := by decide +kernel
theorem d_Mo_looked_46 : decode c_Mo_looked 46 = .ok (.invokevirtual 82, 3) := by decide +kernel
theorem d_Mo_looked_49 : decode c_Mo_looked 49 = .ok (.aload_n 0, 1) := by decide +kernel
theorem d_Mo_looked_50 : decode c_Mo_looked 50 = .ok (.invokevirtual 86, 3) := by decide +kernel
theorem d_Mo_looked_53 : decode c_Mo_looked 53 = .ok (.if_icmp .lt 7, 3) := by decide +kernel
theorem d_Mo_looked_56 : decode c_Mo_looked 56 = .ok (.iconst 1, 1) := by decide +kernel
theorem d_Mo_looked_57 : decode c_Mo_looked 57 = .ok (.goto 4, 3) := by decide +kernel
theorem d_Mo_looked_60 : decode c_Mo_looked 60 = .ok (.iconst 0, 1) := by decide +kernel
theorem d_Mo_looked_61 : decode c_Mo_looked 61 = .ok (.iadd, 1) := by decide +kernel
theorem d_Mo_looked_62 : decode c_Mo_looked 62 = .ok (.istore_n 2, 1) := by decide +kernel
theorem d_Mo_looked_63 : decode c_Mo_looked 63 = .ok (.iinc 3 1, 3) := by decide +kernel
theorem d_Mo_looked_66 : decode c_Mo_looked 66 = .ok (.goto (-62), 3) := by decide +kernel
theorem d_Mo_looked_69 : decode c_Mo_looked 69 = .ok (.iload_n 2, 1) := by decide +kernel
theorem d_Mo_looked_70 : decode c_Mo_looked 70 = .ok (.ireturn, 1) := by decide +kernel
theorem d_Mo_ahead_0 : decode c_Mo_ahead 0 = .ok (.iconst 0, 1) := by decide +kernel
theorem d_Mo_ahead_1 : decode c_Mo_ahead 1 = .ok (.istore_n 2, 1) := by decide +kernel
theorem d_Mo_ahead_2 : decode c_Mo_ahead 2 = .ok (.iconst 0, 1) := by decide +kernel
theorem d_Mo_ahead_3 : decode c_Mo_ahead 3 = .ok (.istore_n 3, 1) := by decide +kernel
theorem d_Mo_ahead_4 : decode c_Mo_ahead 4 = .ok (.iload_n 3, 1) := by decide +kernel
theorem d_Mo_ahead_5 : decode c_Mo_ahead 5 = .ok (.aload_n 0, 1) := by decide +kernel
theorem d_Mo_ahead_6 : decode c_Mo_ahead 6 = .ok (.invokevirtual 59, 3) := by decide +kernel
theorem d_Mo_ahead_9 : decode c_Mo_ahead 9 = .ok (.if_icmp .ge 48, 3) := by decide +kernel
theorem d_Mo_ahead_12 : decode c_Mo_ahead 12 = .ok (.iload_n 2, 1) := by decide +kernel
theorem d_Mo_ahead_13 : decode c_Mo_ahead 13 = .ok (.aload_n 0, 1) := by decide +kernel
theorem d_Mo_ahead_14 : decode c_Mo_ahead 14 = .ok (.iload_n 3, 1) := by decide +kernel
theorem d_Mo_ahead_15 : decode c_Mo_ahead 15 = .ok (.invokevirtual 82, 3) := by decide +kernel
theorem d_Mo_ahead_18 : decode c_Mo_ahead 18 = .ok (.aload_n 0, 1) := by decide +kernel
theorem d_Mo_ahead_19 : decode c_Mo_ahead 19 = .ok (.iload_n 1, 1) := by decide +kernel
theorem d_Mo_ahead_20 : decode c_Mo_ahead 20 = .ok (.invokevirtual 82, 3) := by decide +kernel
theorem d_Mo_ahead_23 : decode c_Mo_ahead 23 = .ok (.if_icmp .lt 21, 3) := by decide +kernel
theorem d_Mo_ahead_26 : decode c_Mo_ahead 26 = .ok (.aload_n 0, 1) := by decide +kernel
theorem d_Mo_ahead_27 : decode c_Mo_ahead 27 = .ok (.iload_n 3, 1) := by decide +kernel
theorem d_Mo_ahead_28 : decode c_Mo_ahead 28 = .ok (.invokevirtual 82, 3) := by decide +kernel
theorem d_Mo_ahead_31 : decode c_Mo_ahead 31 = .ok (.aload_n 0, 1) := by decide +kernel
theorem d_Mo_ahead_32 : decode c_Mo_ahead 32 = .ok (.iload_n 1, 1) := by decide +kernel
theorem d_Mo_ahead_33 : decode c_Mo_ahead 33 = .ok (.invokevirtual 82, 3) := by decide +kernel
theorem d_Mo_ahead_36 : decode c_Mo_ahead 36 = .ok (.if_icmp .ne 12, 3) := by decide +kernel
theorem d_Mo_ahead_39 : decode c_Mo_ahead 39 = .ok (.iload_n 3, 1) := by decide +kernel
theorem d_Mo_ahead_40 : decode c_Mo_ahead 40 = .ok (.iload_n 1, 1) := by decide +kernel
theorem d_Mo_ahead_41 : decode c_Mo_ahead 41 = .ok (.if_icmp .ge 7, 3) := by decide +kernel
theorem d_Mo_ahead_44 : decode c_Mo_ahead 44 = .ok (.iconst 1, 1) := by decide +kernel
theorem d_Mo_ahead_45 : decode c_Mo_ahead 45 = .ok (.goto 4, 3) := by decide +kernel
theorem d_Mo_ahead_48 : decode c_Mo_ahead 48 = .ok (.iconst 0, 1) := by decide +kernel
theorem d_Mo_ahead_49 : decode c_Mo_ahead 49 = .ok (.iadd, 1) := by decide +kernel
theorem d_Mo_ahead_50 : decode c_Mo_ahead 50 = .ok (.istore_n 2, 1) := by decide +kernel
theorem d_Mo_ahead_51 : decode c_Mo_ahead 51 = .ok (.iinc 3 1, 3) := by decide +kernel
theorem d_Mo_ahead_54 : decode c_Mo_ahead 54 = .ok (.goto (-50), 3) := by decide +kernel
theorem d_Mo_ahead_57 : decode c_Mo_ahead 57 = .ok (.iload_n 2, 1) := by decide +kernel
theorem d_Mo_ahead_58 : decode c_Mo_ahead 58 = .ok (.ireturn, 1) := by decide +kernel
theorem d_Mo_nearestOf_0 : decode c_Mo_nearestOf 0 = .ok (.iconst (-1), 1) := by decide +kernel
theorem d_Mo_nearestOf_1 : decode c_Mo_nearestOf 1 = .ok (.istore_n 2, 1) := by decide +kernel
theorem d_Mo_nearestOf_2 : decode c_Mo_nearestOf 2 = .ok (.iconst 0, 1) := by decide +kernel
theorem d_Mo_nearestOf_3 : decode c_Mo_nearestOf 3 = .ok (.istore_n 3, 1) := by decide +kernel
theorem d_Mo_nearestOf_4 : decode c_Mo_nearestOf 4 = .ok (.iload_n 3, 1) := by decide +kernel
theorem d_Mo_nearestOf_5 : decode c_Mo_nearestOf 5 = .ok (.aload_n 0, 1) := by decide +kernel
theorem d_Mo_nearestOf_6 : decode c_Mo_nearestOf 6 = .ok (.invokevirtual 59, 3) := by decide +kernel
theorem d_Mo_nearestOf_9 : decode c_Mo_nearestOf 9 = .ok (.if_icmp .ge 24, 3) := by decide +kernel
theorem d_Mo_nearestOf_12 : decode c_Mo_nearestOf 12 = .ok (.aload_n 0, 1) := by decide +kernel
theorem d_Mo_nearestOf_13 : decode c_Mo_nearestOf 13 = .ok (.iload_n 3, 1) := by decide +kernel
theorem d_Mo_nearestOf_14 : decode c_Mo_nearestOf 14 = .ok (.invokevirtual 89, 3) := by decide +kernel
theorem d_Mo_nearestOf_17 : decode c_Mo_nearestOf 17 = .ok (.iload_n 1, 1) := by decide +kernel
theorem d_Mo_nearestOf_18 : decode c_Mo_nearestOf 18 = .ok (.if_icmp .ne 7, 3) := by decide +kernel
theorem d_Mo_nearestOf_21 : decode c_Mo_nearestOf 21 = .ok (.iload_n 3, 1) := by decide +kernel
theorem d_Mo_nearestOf_22 : decode c_Mo_nearestOf 22 = .ok (.goto 4, 3) := by decide +kernel
theorem d_Mo_nearestOf_25 : decode c_Mo_nearestOf 25 = .ok (.iload_n 2, 1) := by decide +kernel
theorem d_Mo_nearestOf_26 : decode c_Mo_nearestOf 26 = .ok (.istore_n 2, 1) := by decide +kernel
theorem d_Mo_nearestOf_27 : decode c_Mo_nearestOf 27 = .ok (.iinc 3 1, 3) := by decide +kernel
theorem d_Mo_nearestOf_30 : decode c_Mo_nearestOf 30 = .ok (.goto (-26), 3) := by decide +kernel
theorem d_Mo_nearestOf_33 : decode c_Mo_nearestOf 33 = .ok (.iload_n 2, 1) := by decide +kernel
theorem d_Mo_nearestOf_34 : decode c_Mo_nearestOf 34 = .ok (.ireturn, 1) := by decide +kernel
theorem d_Mo_isDead_0 : decode c_Mo_isDead 0 = .ok (.iconst 1, 1) := by decide +kernel
theorem d_Mo_isDead_1 : decode c_Mo_isDead 1 = .ok (.istore_n 2, 1) := by decide +kernel
theorem d_Mo_isDead_2 : decode c_Mo_isDead 2 = .ok (.iconst 1, 1) := by decide +kernel
theorem d_Mo_isDead_3 : decode c_Mo_isDead 3 = .ok (.istore_n 3, 1) := by decide +kernel
theorem d_Mo_isDead_4 : decode c_Mo_isDead 4 = .ok (.iload_n 3, 1) := by decide +kernel
theorem d_Mo_isDead_5 : decode c_Mo_isDead 5 = .ok (.aload_n 0, 1) := by decide +kernel
theorem d_Mo_isDead_6 : decode c_Mo_isDead 6 = .ok (.invokevirtual 59, 3) := by decide +kernel
theorem d_Mo_isDead_9 : decode c_Mo_isDead 9 = .ok (.if_icmp .ge 40, 3) := by decide +kernel
theorem d_Mo_isDead_12 : decode c_Mo_isDead 12 = .ok (.iload_n 2, 1) := by decide +kernel
theorem d_Mo_isDead_13 : decode c_Mo_isDead 13 = .ok (.ifCond .eq 36, 3) := by decide +kernel
theorem d_Mo_isDead_16 : decode c_Mo_isDead 16 = .ok (.aload_n 0, 1) := by decide +kernel
theorem d_Mo_isDead_17 : decode c_Mo_isDead 17 = .ok (.iload_n 3, 1) := by decide +kernel
theorem d_Mo_isDead_18 : decode c_Mo_isDead 18 = .ok (.invokevirtual 67, 3) := by decide +kernel
theorem d_Mo_isDead_21 : decode c_Mo_isDead 21 = .ok (.iload_n 1, 1) := by decide +kernel
theorem d_Mo_isDead_22 : decode c_Mo_isDead 22 = .ok (.invokestatic 75, 3) := by decide +kernel
theorem d_Mo_isDead_25 : decode c_Mo_isDead 25 = .ok (.aload_n 0, 1) := by decide +kernel
theorem d_Mo_isDead_26 : decode c_Mo_isDead 26 = .ok (.iconst 0, 1) := by decide +kernel
theorem d_Mo_isDead_27 : decode c_Mo_isDead 27 = .ok (.invokevirtual 67, 3) := by decide +kernel
theorem d_Mo_isDead_30 : decode c_Mo_isDead 30 = .ok (.iload_n 1, 1) := by decide +kernel
theorem d_Mo_isDead_31 : decode c_Mo_isDead 31 = .ok (.invokestatic 75, 3) := by decide +kernel
theorem d_Mo_isDead_34 : decode c_Mo_isDead 34 = .ok (.if_icmp .ne 7, 3) := by decide +kernel
theorem d_Mo_isDead_37 : decode c_Mo_isDead 37 = .ok (.iconst 1, 1) := by decide +kernel
theorem d_Mo_isDead_38 : decode c_Mo_isDead 38 = .ok (.goto 4, 3) := by decide +kernel
theorem d_Mo_isDead_41 : decode c_Mo_isDead 41 = .ok (.iconst 0, 1) := by decide +kernel
theorem d_Mo_isDead_42 : decode c_Mo_isDead 42 = .ok (.istore_n 2, 1) := by decide +kernel
theorem d_Mo_isDead_43 : decode c_Mo_isDead 43 = .ok (.iinc 3 1, 3) := by decide +kernel
theorem d_Mo_isDead_46 : decode c_Mo_isDead 46 = .ok (.goto (-42), 3) := by decide +kernel
theorem d_Mo_isDead_49 : decode c_Mo_isDead 49 = .ok (.iload_n 2, 1) := by decide +kernel
theorem d_Mo_isDead_50 : decode c_Mo_isDead 50 = .ok (.ireturn, 1) := by decide +kernel
theorem d_Mo_dead_0 : decode c_Mo_dead 0 = .ok (.iconst 0, 1) := by decide +kernel
theorem d_Mo_dead_1 : decode c_Mo_dead 1 = .ok (.istore_n 1, 1) := by decide +kernel
theorem d_Mo_dead_2 : decode c_Mo_dead 2 = .ok (.iconst 0, 1) := by decide +kernel
theorem d_Mo_dead_3 : decode c_Mo_dead 3 = .ok (.istore_n 2, 1) := by decide +kernel
theorem d_Mo_dead_4 : decode c_Mo_dead 4 = .ok (.iload_n 2, 1) := by decide +kernel
theorem d_Mo_dead_5 : decode c_Mo_dead 5 = .ok (.bipush 64, 2) := by decide +kernel
theorem d_Mo_dead_7 : decode c_Mo_dead 7 = .ok (.if_icmp .ge 25, 3) := by decide +kernel
theorem d_Mo_dead_10 : decode c_Mo_dead 10 = .ok (.iload_n 1, 1) := by decide +kernel
theorem d_Mo_dead_11 : decode c_Mo_dead 11 = .ok (.aload_n 0, 1) := by decide +kernel
theorem d_Mo_dead_12 : decode c_Mo_dead 12 = .ok (.iload_n 2, 1) := by decide +kernel
theorem d_Mo_dead_13 : decode c_Mo_dead 13 = .ok (.invokevirtual 92, 3) := by decide +kernel
theorem d_Mo_dead_16 : decode c_Mo_dead 16 = .ok (.ifCond .eq 7, 3) := by decide +kernel
theorem d_Mo_dead_19 : decode c_Mo_dead 19 = .ok (.iconst 1, 1) := by decide +kernel
theorem d_Mo_dead_20 : decode c_Mo_dead 20 = .ok (.goto 4, 3) := by decide +kernel
theorem d_Mo_dead_23 : decode c_Mo_dead 23 = .ok (.iconst 0, 1) := by decide +kernel
theorem d_Mo_dead_24 : decode c_Mo_dead 24 = .ok (.iadd, 1) := by decide +kernel
theorem d_Mo_dead_25 : decode c_Mo_dead 25 = .ok (.istore_n 1, 1) := by decide +kernel
theorem d_Mo_dead_26 : decode c_Mo_dead 26 = .ok (.iinc 2 1, 3) := by decide +kernel
theorem d_Mo_dead_29 : decode c_Mo_dead 29 = .ok (.goto (-25), 3) := by decide +kernel
theorem d_Mo_dead_32 : decode c_Mo_dead 32 = .ok (.iload_n 1, 1) := by decide +kernel
theorem d_Mo_dead_33 : decode c_Mo_dead 33 = .ok (.ireturn, 1) := by decide +kernel
theorem d_Mo_areTogether_0 : decode c_Mo_areTogether 0 = .ok (.iconst 1, 1) := by decide +kernel
theorem d_Mo_areTogether_1 : decode c_Mo_areTogether 1 = .ok (.istore_n 3, 1) := by decide +kernel
theorem d_Mo_areTogether_2 : decode c_Mo_areTogether 2 = .ok (.iconst 1, 1) := by decide +kernel
theorem d_Mo_areTogether_3 : decode c_Mo_areTogether 3 = .ok (.istore 4, 2) := by decide +kernel
theorem d_Mo_areTogether_5 : decode c_Mo_areTogether 5 = .ok (.iconst 0, 1) := by decide +kernel
theorem d_Mo_areTogether_6 : decode c_Mo_areTogether 6 = .ok (.istore 5, 2) := by decide +kernel
theorem d_Mo_areTogether_8 : decode c_Mo_areTogether 8 = .ok (.iload 5, 2) := by decide +kernel
theorem d_Mo_areTogether_10 : decode c_Mo_areTogether 10 = .ok (.aload_n 0, 1) := by decide +kernel
theorem d_Mo_areTogether_11 : decode c_Mo_areTogether 11 = .ok (.invokevirtual 59, 3) := by decide +kernel
theorem d_Mo_areTogether_14 : decode c_Mo_areTogether 14 = .ok (.if_icmp .ge 71, 3) := by decide +kernel
theorem d_Mo_areTogether_17 : decode c_Mo_areTogether 17 = .ok (.aload_n 0, 1) := by decide +kernel
theorem d_Mo_areTogether_18 : decode c_Mo_areTogether 18 = .ok (.iload 5, 2) := by decide +kernel
theorem d_Mo_areTogether_20 : decode c_Mo_areTogether 20 = .ok (.invokevirtual 67, 3) := by decide +kernel
theorem d_Mo_areTogether_23 : decode c_Mo_areTogether 23 = .ok (.iload_n 1, 1) := by decide +kernel
theorem d_Mo_areTogether_24 : decode c_Mo_areTogether 24 = .ok (.invokestatic 75, 3) := by decide +kernel
theorem d_Mo_areTogether_27 : decode c_Mo_areTogether 27 = .ok (.aload_n 0, 1) := by decide +kernel
theorem d_Mo_areTogether_28 : decode c_Mo_areTogether 28 = .ok (.iload 5, 2) := by decide +kernel
theorem d_Mo_areTogether_30 : decode c_Mo_areTogether 30 = .ok (.invokevirtual 67, 3) := by decide +kernel
theorem d_Mo_areTogether_33 : decode c_Mo_areTogether 33 = .ok (.iload_n 2, 1) := by decide +kernel
theorem d_Mo_areTogether_34 : decode c_Mo_areTogether 34 = .ok (.invokestatic 75, 3) := by decide +kernel
theorem d_Mo_areTogether_37 : decode c_Mo_areTogether 37 = .ok (.if_icmp .ne 7, 3) := by decide +kernel
theorem d_Mo_areTogether_40 : decode c_Mo_areTogether 40 = .ok (.iconst 1, 1) := by decide +kernel
theorem d_Mo_areTogether_41 : decode c_Mo_areTogether 41 = .ok (.goto 4, 3) := by decide +kernel
theorem d_Mo_areTogether_44 : decode c_Mo_areTogether 44 = .ok (.iconst 0, 1) := by decide +kernel
theorem d_Mo_areTogether_45 : decode c_Mo_areTogether 45 = .ok (.istore 6, 2) := by decide +kernel
theorem d_Mo_areTogether_47 : decode c_Mo_areTogether 47 = .ok (.iload_n 3, 1) := by decide +kernel
theorem d_Mo_areTogether_48 : decode c_Mo_areTogether 48 = .ok (.ifCond .eq 12, 3) := by decide +kernel
theorem d_Mo_areTogether_51 : decode c_Mo_areTogether 51 = .ok (.iload 6, 2) := by decide +kernel
theorem d_Mo_areTogether_53 : decode c_Mo_areTogether 53 = .ok (.ifCond .eq 7, 3) := by decide +kernel
theorem d_Mo_areTogether_56 : decode c_Mo_areTogether 56 = .ok (.iconst 1, 1) := by decide +kernel
theorem d_Mo_areTogether_57 : decode c_Mo_areTogether 57 = .ok (.goto 4, 3) := by decide +kernel
theorem d_Mo_areTogether_60 : decode c_Mo_areTogether 60 = .ok (.iconst 0, 1) := by decide +kernel
theorem d_Mo_areTogether_61 : decode c_Mo_areTogether 61 = .ok (.istore_n 3, 1) := by decide +kernel
theorem d_Mo_areTogether_62 : decode c_Mo_areTogether 62 = .ok (.iload 4, 2) := by decide +kernel
theorem d_Mo_areTogether_64 : decode c_Mo_areTogether 64 = .ok (.ifCond .eq 12, 3) := by decide +kernel
theorem d_Mo_areTogether_67 : decode c_Mo_areTogether 67 = .ok (.iload 6, 2) := by decide +kernel
theorem d_Mo_areTogether_69 : decode c_Mo_areTogether 69 = .ok (.ifCond .ne 7, 3) := by decide +kernel
theorem d_Mo_areTogether_72 : decode c_Mo_areTogether 72 = .ok (.iconst 1, 1) := by decide +kernel
theorem d_Mo_areTogether_73 : decode c_Mo_areTogether 73 = .ok (.goto 4, 3) := by decide +kernel
theorem d_Mo_areTogether_76 : decode c_Mo_areTogether 76 = .ok (.iconst 0, 1) := by decide +kernel
theorem d_Mo_areTogether_77 : decode c_Mo_areTogether 77 = .ok (.istore 4, 2) := by decide +kernel
theorem d_Mo_areTogether_79 : decode c_Mo_areTogether 79 = .ok (.iinc 5 1, 3) := by decide +kernel
theorem d_Mo_areTogether_82 : decode c_Mo_areTogether 82 = .ok (.goto (-74), 3) := by decide +kernel
theorem d_Mo_areTogether_85 : decode c_Mo_areTogether 85 = .ok (.iload_n 3, 1) := by decide +kernel
theorem d_Mo_areTogether_86 : decode c_Mo_areTogether 86 = .ok (.ifCond .ne 8, 3) := by decide +kernel
theorem d_Mo_areTogether_89 : decode c_Mo_areTogether 89 = .ok (.iload 4, 2) := by decide +kernel
theorem d_Mo_areTogether_91 : decode c_Mo_areTogether 91 = .ok (.ifCond .eq 7, 3) := by decide +kernel
theorem d_Mo_areTogether_94 : decode c_Mo_areTogether 94 = .ok (.iconst 1, 1) := by decide +kernel
theorem d_Mo_areTogether_95 : decode c_Mo_areTogether 95 = .ok (.goto 4, 3) := by decide +kernel
theorem d_Mo_areTogether_98 : decode c_Mo_areTogether 98 = .ok (.iconst 0, 1) := by decide +kernel
theorem d_Mo_areTogether_99 : decode c_Mo_areTogether 99 = .ok (.ireturn, 1) := by decide +kernel
theorem d_Mo_together_0 : decode c_Mo_together 0 = .ok (.iconst 0, 1) := by decide +kernel
theorem d_Mo_together_1 : decode c_Mo_together 1 = .ok (.istore_n 1, 1) := by decide +kernel
theorem d_Mo_together_2 : decode c_Mo_together 2 = .ok (.iload_n 1, 1) := by decide +kernel
theorem d_Mo_together_3 : decode c_Mo_together 3 = .ok (.bipush 64, 2) := by decide +kernel
theorem d_Mo_together_5 : decode c_Mo_together 5 = .ok (.if_icmp .ge 57, 3) := by decide +kernel
theorem d_Mo_together_8 : decode c_Mo_together 8 = .ok (.iload_n 1, 1) := by decide +kernel
theorem d_Mo_together_9 : decode c_Mo_together 9 = .ok (.iconst 1, 1) := by decide +kernel
theorem d_Mo_together_10 : decode c_Mo_together 10 = .ok (.iadd, 1) := by decide +kernel
theorem d_Mo_together_11 : decode c_Mo_together 11 = .ok (.istore_n 2, 1) := by decide +kernel
theorem d_Mo_together_12 : decode c_Mo_together 12 = .ok (.iload_n 2, 1) := by decide +kernel
theorem d_Mo_together_13 : decode c_Mo_together 13 = .ok (.bipush 64, 2) := by decide +kernel
theorem d_Mo_together_15 : decode c_Mo_together 15 = .ok (.if_icmp .ge 41, 3) := by decide +kernel
theorem d_Mo_together_18 : decode c_Mo_together 18 = .ok (.aload_n 0, 1) := by decide +kernel
theorem d_Mo_together_19 : decode c_Mo_together 19 = .ok (.iload_n 1, 1) := by decide +kernel
theorem d_Mo_together_20 : decode c_Mo_together 20 = .ok (.invokevirtual 92, 3) := by decide +kernel
theorem d_Mo_together_23 : decode c_Mo_together 23 = .ok (.ifCond .ne 33, 3) := by decide +kernel
theorem d_Mo_together_26 : decode c_Mo_together 26 = .ok (.aload_n 0, 1) := by decide +kernel
theorem d_Mo_together_27 : decode c_Mo_together 27 = .ok (.iload_n 2, 1) := by decide +kernel
theorem d_Mo_together_28 : decode c_Mo_together 28 = .ok (.invokevirtual 92, 3) := by decide +kernel
theorem d_Mo_together_31 : decode c_Mo_together 31 = .ok (.ifCond .ne 19, 3) := by decide +kernel
theorem d_Mo_together_34 : decode c_Mo_together 34 = .ok (.aload_n 0, 1) := by decide +kernel
theorem d_Mo_together_35 : decode c_Mo_together 35 = .ok (.iload_n 1, 1) := by decide +kernel
theorem d_Mo_together_36 : decode c_Mo_together 36 = .ok (.iload_n 2, 1) := by decide +kernel
theorem d_Mo_together_37 : decode c_Mo_together 37 = .ok (.invokevirtual 96, 3) := by decide +kernel
theorem d_Mo_together_40 : decode c_Mo_together 40 = .ok (.ifCond .eq 10, 3) := by decide +kernel
theorem d_Mo_together_43 : decode c_Mo_together 43 = .ok (.bipush 64, 2) := by decide +kernel
theorem d_Mo_together_45 : decode c_Mo_together 45 = .ok (.iload_n 1, 1) := by decide +kernel
theorem d_Mo_together_46 : decode c_Mo_together 46 = .ok (.imul, 1) := by decide +kernel
theorem d_Mo_together_47 : decode c_Mo_together 47 = .ok (.iload_n 2, 1) := by decide +kernel
theorem d_Mo_together_48 : decode c_Mo_together 48 = .ok (.iadd, 1) := by decide +kernel
theorem d_Mo_together_49 : decode c_Mo_together 49 = .ok (.ireturn, 1) := by decide +kernel
theorem d_Mo_together_50 : decode c_Mo_together 50 = .ok (.iinc 2 1, 3) := by decide +kernel
theorem d_Mo_together_53 : decode c_Mo_together 53 = .ok (.goto (-41), 3) := by decide +kernel
theorem d_Mo_together_56 : decode c_Mo_together 56 = .ok (.iinc 1 1, 3) := by decide +kernel
theorem d_Mo_together_59 : decode c_Mo_together 59 = .ok (.goto (-57), 3) := by decide +kernel
theorem d_Mo_together_62 : decode c_Mo_together 62 = .ok (.iconst (-1), 1) := by decide +kernel
theorem d_Mo_together_63 : decode c_Mo_together 63 = .ok (.ireturn, 1) := by decide +kernel
theorem d_Mo_couldBe_0 : decode c_Mo_couldBe 0 = .ok (.iconst 1, 1) := by decide +kernel
theorem d_Mo_couldBe_1 : decode c_Mo_couldBe 1 = .ok (.istore_n 2, 1) := by decide +kernel
theorem d_Mo_couldBe_2 : decode c_Mo_couldBe 2 = .ok (.iconst 0, 1) := by decide +kernel
theorem d_Mo_couldBe_3 : decode c_Mo_couldBe 3 = .ok (.istore_n 3, 1) := by decide +kernel
theorem d_Mo_couldBe_4 : decode c_Mo_couldBe 4 = .ok (.iload_n 3, 1) := by decide +kernel
theorem d_Mo_couldBe_5 : decode c_Mo_couldBe 5 = .ok (.aload_n 0, 1) := by decide +kernel
theorem d_Mo_couldBe_6 : decode c_Mo_couldBe 6 = .ok (.getfield 100, 3) := by decide +kernel
theorem d_Mo_couldBe_9 : decode c_Mo_couldBe 9 = .ok (.if_icmp .ge 43, 3) := by decide +kernel
theorem d_Mo_couldBe_12 : decode c_Mo_couldBe 12 = .ok (.iload_n 2, 1) := by decide +kernel
theorem d_Mo_couldBe_13 : decode c_Mo_couldBe 13 = .ok (.ifCond .eq 31, 3) := by decide +kernel
theorem d_Mo_couldBe_16 : decode c_Mo_couldBe 16 = .ok (.aload_n 0, 1) := by decide +kernel
theorem d_Mo_couldBe_17 : decode c_Mo_couldBe 17 = .ok (.iload_n 1, 1) := by decide +kernel
theorem d_Mo_couldBe_18 : decode c_Mo_couldBe 18 = .ok (.invokevirtual 67, 3) := by decide +kernel
theorem d_Mo_couldBe_21 : decode c_Mo_couldBe 21 = .ok (.aload_n 0, 1) := by decide +kernel
theorem d_Mo_couldBe_22 : decode c_Mo_couldBe 22 = .ok (.getfield 36, 3) := by decide +kernel
theorem d_Mo_couldBe_25 : decode c_Mo_couldBe 25 = .ok (.iload_n 3, 1) := by decide +kernel
theorem d_Mo_couldBe_26 : decode c_Mo_couldBe 26 = .ok (.laload, 1) := by decide +kernel
theorem d_Mo_couldBe_27 : decode c_Mo_couldBe 27 = .ok (.lxor, 1) := by decide +kernel
theorem d_Mo_couldBe_28 : decode c_Mo_couldBe 28 = .ok (.invokestatic 71, 3) := by decide +kernel
theorem d_Mo_couldBe_31 : decode c_Mo_couldBe 31 = .ok (.aload_n 0, 1) := by decide +kernel
theorem d_Mo_couldBe_32 : decode c_Mo_couldBe 32 = .ok (.getfield 39, 3) := by decide +kernel
theorem d_Mo_couldBe_35 : decode c_Mo_couldBe 35 = .ok (.iload_n 3, 1) := by decide +kernel
theorem d_Mo_couldBe_36 : decode c_Mo_couldBe 36 = .ok (.iaload, 1) := by decide +kernel
theorem d_Mo_couldBe_37 : decode c_Mo_couldBe 37 = .ok (.if_icmp .ne 7, 3) := by decide +kernel
theorem d_Mo_couldBe_40 : decode c_Mo_couldBe 40 = .ok (.iconst 1, 1) := by decide +kernel
theorem d_Mo_couldBe_41 : decode c_Mo_couldBe 41 = .ok (.goto 4, 3) := by decide +kernel
theorem d_Mo_couldBe_44 : decode c_Mo_couldBe 44 = .ok (.iconst 0, 1) := by decide +kernel
theorem d_Mo_couldBe_45 : decode c_Mo_couldBe 45 = .ok (.istore_n 2, 1) := by decide +kernel
theorem d_Mo_couldBe_46 : decode c_Mo_couldBe 46 = .ok (.iinc 3 1, 3) := by decide +kernel
theorem d_Mo_couldBe_49 : decode c_Mo_couldBe 49 = .ok (.goto (-45), 3) := by decide +kernel
theorem d_Mo_couldBe_52 : decode c_Mo_couldBe 52 = .ok (.iload_n 2, 1) := by decide +kernel
theorem d_Mo_couldBe_53 : decode c_Mo_couldBe 53 = .ok (.ireturn, 1) := by decide +kernel
theorem d_Mo_could_0 : decode c_Mo_could 0 = .ok (.iconst 0, 1) := by decide +kernel
theorem d_Mo_could_1 : decode c_Mo_could 1 = .ok (.istore_n 2, 1) := by decide +kernel
theorem d_Mo_could_2 : decode c_Mo_could 2 = .ok (.iconst (-1), 1) := by decide +kernel
theorem d_Mo_could_3 : decode c_Mo_could 3 = .ok (.istore_n 3, 1) := by decide +kernel
theorem d_Mo_could_4 : decode c_Mo_could 4 = .ok (.aload_n 0, 1) := by decide +kernel
theorem d_Mo_could_5 : decode c_Mo_could 5 = .ok (.invokevirtual 59, 3) := by decide +kernel
theorem d_Mo_could_8 : decode c_Mo_could 8 = .ok (.iconst 1, 1) := by decide +kernel
theorem d_Mo_could_9 : decode c_Mo_could 9 = .ok (.isub, 1) := by decide +kernel
theorem d_Mo_could_10 : decode c_Mo_could 10 = .ok (.istore 4, 2) := by decide +kernel
theorem d_Mo_could_12 : decode c_Mo_could 12 = .ok (.iload 4, 2) := by decide +kernel
theorem d_Mo_could_14 : decode c_Mo_could 14 = .ok (.ifCond .lt 42, 3) := by decide +kernel
theorem d_Mo_could_17 : decode c_Mo_could 17 = .ok (.iload_n 2, 1) := by decide +kernel
theorem d_Mo_could_18 : decode c_Mo_could 18 = .ok (.aload_n 0, 1) := by decide +kernel
theorem d_Mo_could_19 : decode c_Mo_could 19 = .ok (.iload 4, 2) := by decide +kernel
theorem d_Mo_could_21 : decode c_Mo_could 21 = .ok (.invokevirtual 104, 3) := by decide +kernel
theorem d_Mo_could_24 : decode c_Mo_could 24 = .ok (.ifCond .eq 7, 3) := by decide +kernel
theorem d_Mo_could_27 : decode c_Mo_could 27 = .ok (.iconst 1, 1) := by decide +kernel
theorem d_Mo_could_28 : decode c_Mo_could 28 = .ok (.goto 4, 3) := by decide +kernel
theorem d_Mo_could_31 : decode c_Mo_could 31 = .ok (.iconst 0, 1) := by decide +kernel
theorem d_Mo_could_32 : decode c_Mo_could 32 = .ok (.iadd, 1) := by decide +kernel
theorem d_Mo_could_33 : decode c_Mo_could 33 = .ok (.istore_n 2, 1) := by decide +kernel
theorem d_Mo_could_34 : decode c_Mo_could 34 = .ok (.aload_n 0, 1) := by decide +kernel
theorem d_Mo_could_35 : decode c_Mo_could 35 = .ok (.iload 4, 2) := by decide +kernel
theorem d_Mo_could_37 : decode c_Mo_could 37 = .ok (.invokevirtual 104, 3) := by decide +kernel
theorem d_Mo_could_40 : decode c_Mo_could 40 = .ok (.ifCond .eq 8, 3) := by decide +kernel
theorem d_Mo_could_43 : decode c_Mo_could 43 = .ok (.iload 4, 2) := by decide +kernel
theorem d_Mo_could_45 : decode c_Mo_could 45 = .ok (.goto 4, 3) := by decide +kernel
theorem d_Mo_could_48 : decode c_Mo_could 48 = .ok (.iload_n 3, 1) := by decide +kernel
theorem d_Mo_could_49 : decode c_Mo_could 49 = .ok (.istore_n 3, 1) := by decide +kernel
theorem d_Mo_could_50 : decode c_Mo_could 50 = .ok (.iinc 4 (-1), 3) := by decide +kernel
theorem d_Mo_could_53 : decode c_Mo_could 53 = .ok (.goto (-41), 3) := by decide +kernel
theorem d_Mo_could_56 : decode c_Mo_could 56 = .ok (.iload_n 1, 1) := by decide +kernel
theorem d_Mo_could_57 : decode c_Mo_could 57 = .ok (.ifCond .eq 7, 3) := by decide +kernel
theorem d_Mo_could_60 : decode c_Mo_could 60 = .ok (.iload_n 3, 1) := by decide +kernel
theorem d_Mo_could_61 : decode c_Mo_could 61 = .ok (.goto 4, 3) := by decide +kernel
theorem d_Mo_could_64 : decode c_Mo_could 64 = .ok (.iload_n 2, 1) := by decide +kernel
theorem d_Mo_could_65 : decode c_Mo_could 65 = .ok (.ireturn, 1) := by decide +kernel
theorem d_Mo_asked_0 : decode c_Mo_asked 0 = .ok (.aload_n 0, 1) := by decide +kernel
theorem d_Mo_asked_1 : decode c_Mo_asked 1 = .ok (.iconst 0, 1) := by decide +kernel
theorem d_Mo_asked_2 : decode c_Mo_asked 2 = .ok (.invokevirtual 107, 3) := by decide +kernel
theorem d_Mo_asked_5 : decode c_Mo_asked 5 = .ok (.istore_n 1, 1) := by decide +kernel
theorem d_Mo_asked_6 : decode c_Mo_asked 6 = .ok (.iconst (-1), 1) := by decide +kernel
theorem d_Mo_asked_7 : decode c_Mo_asked 7 = .ok (.istore_n 2, 1) := by decide +kernel
theorem d_Mo_asked_8 : decode c_Mo_asked 8 = .ok (.iconst 0, 1) := by decide +kernel
theorem d_Mo_asked_9 : decode c_Mo_asked 9 = .ok (.istore_n 3, 1) := by decide +kernel
theorem d_Mo_asked_10 : decode c_Mo_asked 10 = .ok (.iload_n 3, 1) := by decide +kernel
theorem d_Mo_asked_11 : decode c_Mo_asked 11 = .ok (.aload_n 0, 1) := by decide +kernel
theorem d_Mo_asked_12 : decode c_Mo_asked 12 = .ok (.invokevirtual 59, 3) := by decide +kernel
theorem d_Mo_asked_15 : decode c_Mo_asked 15 = .ok (.if_icmp .ge 142, 3) := by decide +kernel
theorem d_Mo_asked_18 : decode c_Mo_asked 18 = .ok (.iconst 0, 1) := by decide +kernel
theorem d_Mo_asked_19 : decode c_Mo_asked 19 = .ok (.istore 4, 2) := by decide +kernel
theorem d_Mo_asked_21 : decode c_Mo_asked 21 = .ok (.iload 4, 2) := by decide +kernel
theorem d_Mo_asked_23 : decode c_Mo_asked 23 = .ok (.bipush 64, 2) := by decide +kernel
theorem d_Mo_asked_25 : decode c_Mo_asked 25 = .ok (.if_icmp .gt 17, 3) := by decide +kernel
theorem d_Mo_asked_28 : decode c_Mo_asked 28 = .ok (.aload_n 0, 1) := by decide +kernel
theorem d_Mo_asked_29 : decode c_Mo_asked 29 = .ok (.getfield 54, 3) := by decide +kernel
theorem d_Mo_asked_32 : decode c_Mo_asked 32 = .ok (.iload 4, 2) := by decide +kernel
theorem d_Mo_asked_34 : decode c_Mo_asked 34 = .ok (.iconst 0, 1) := by decide +kernel
theorem d_Mo_asked_35 : decode c_Mo_asked 35 = .ok (.iastore, 1) := by decide +kernel
theorem d_Mo_asked_36 : decode c_Mo_asked 36 = .ok (.iinc 4 1, 3) := by decide +kernel
theorem d_Mo_asked_39 : decode c_Mo_asked 39 = .ok (.goto (-18), 3) := by decide +kernel
theorem d_Mo_asked_42 : decode c_Mo_asked 42 = .ok (.iconst 0, 1) := by decide +kernel
theorem d_Mo_asked_43 : decode c_Mo_asked 43 = .ok (.istore 4, 2) := by decide +kernel
theorem d_Mo_asked_45 : decode c_Mo_asked 45 = .ok (.iconst 0, 1) := by decide +kernel
theorem d_Mo_asked_46 : decode c_Mo_asked 46 = .ok (.istore 5, 2) := by decide +kernel
theorem d_Mo_asked_48 : decode c_Mo_asked 48 = .ok (.iload 5, 2) := by decide +kernel
theorem d_Mo_asked_50 : decode c_Mo_asked 50 = .ok (.aload_n 0, 1) := by decide +kernel
theorem d_Mo_asked_51 : decode c_Mo_asked 51 = .ok (.invokevirtual 59, 3) := by decide +kernel
theorem d_Mo_asked_54 : decode c_Mo_asked 54 = .ok (.if_icmp .ge 72, 3) := by decide +kernel
theorem d_Mo_asked_57 : decode c_Mo_asked 57 = .ok (.aload_n 0, 1) := by decide +kernel
theorem d_Mo_asked_58 : decode c_Mo_asked 58 = .ok (.iload 5, 2) := by decide +kernel
theorem d_Mo_asked_60 : decode c_Mo_asked 60 = .ok (.invokevirtual 104, 3) := by decide +kernel
theorem d_Mo_asked_63 : decode c_Mo_asked 63 = .ok (.ifCond .eq 57, 3) := by decide +kernel
theorem d_Mo_asked_66 : decode c_Mo_asked 66 = .ok (.aload_n 0, 1) := by decide +kernel
theorem d_Mo_asked_67 : decode c_Mo_asked 67 = .ok (.iload 5, 2) := by decide +kernel
theorem d_Mo_asked_69 : decode c_Mo_asked 69 = .ok (.invokevirtual 67, 3) := by decide +kernel
theorem d_Mo_asked_72 : decode c_Mo_asked 72 = .ok (.aload_n 0, 1) := by decide +kernel
theorem d_Mo_asked_73 : decode c_Mo_asked 73 = .ok (.iload_n 3, 1) := by decide +kernel
theorem d_Mo_asked_74 : decode c_Mo_asked 74 = .ok (.invokevirtual 67, 3) := by decide +kernel
theorem d_Mo_asked_77 : decode c_Mo_asked 77 = .ok (.lxor, 1) := by decide +kernel
theorem d_Mo_asked_78 : decode c_Mo_asked 78 = .ok (.invokestatic 71, 3) := by decide +kernel
theorem d_Mo_asked_81 : decode c_Mo_asked 81 = .ok (.istore 6, 2) := by decide +kernel
theorem d_Mo_asked_83 : decode c_Mo_asked 83 = .ok (.aload_n 0, 1) := by decide +kernel
theorem d_Mo_asked_84 : decode c_Mo_asked 84 = .ok (.getfield 54, 3) := by decide +kernel
theorem d_Mo_asked_87 : decode c_Mo_asked 87 = .ok (.iload 6, 2) := by decide +kernel
theorem d_Mo_asked_89 : decode c_Mo_asked 89 = .ok (.dup2, 1) := by decide +kernel
theorem d_Mo_asked_90 : decode c_Mo_asked 90 = .ok (.iaload, 1) := by decide +kernel
theorem d_Mo_asked_91 : decode c_Mo_asked 91 = .ok (.iconst 1, 1) := by decide +kernel
theorem d_Mo_asked_92 : decode c_Mo_asked 92 = .ok (.iadd, 1) := by decide +kernel
theorem d_Mo_asked_93 : decode c_Mo_asked 93 = .ok (.iastore, 1) := by decide +kernel
theorem d_Mo_asked_94 : decode c_Mo_asked 94 = .ok (.aload_n 0, 1) := by decide +kernel
theorem d_Mo_asked_95 : decode c_Mo_asked 95 = .ok (.getfield 54, 3) := by decide +kernel
theorem d_Mo_asked_98 : decode c_Mo_asked 98 = .ok (.iload 6, 2) := by decide +kernel
theorem d_Mo_asked_100 : decode c_Mo_asked 100 = .ok (.iaload, 1) := by decide +kernel
theorem d_Mo_asked_101 : decode c_Mo_asked 101 = .ok (.iload 4, 2) := by decide +kernel
theorem d_Mo_asked_103 : decode c_Mo_asked 103 = .ok (.if_icmp .le 13, 3) := by decide +kernel
theorem d_Mo_asked_106 : decode c_Mo_asked 106 = .ok (.aload_n 0, 1) := by decide +kernel
theorem d_Mo_asked_107 : decode c_Mo_asked 107 = .ok (.getfield 54, 3) := by decide +kernel
theorem d_Mo_asked_110 : decode c_Mo_asked 110 = .ok (.iload 6, 2) := by decide +kernel
theorem d_Mo_asked_112 : decode c_Mo_asked 112 = .ok (.iaload, 1) := by decide +kernel
theorem d_Mo_asked_113 : decode c_Mo_asked 113 = .ok (.goto 5, 3) := by decide +kernel
theorem d_Mo_asked_116 : decode c_Mo_asked 116 = .ok (.iload 4, 2) := by decide +kernel
theorem d_Mo_asked_118 : decode c_Mo_asked 118 = .ok (.istore 4, 2) := by decide +kernel
theorem d_Mo_asked_120 : decode c_Mo_asked 120 = .ok (.iinc 5 1, 3) := by decide +kernel
theorem d_Mo_asked_123 : decode c_Mo_asked 123 = .ok (.goto (-75), 3) := by decide +kernel
theorem d_Mo_asked_126 : decode c_Mo_asked 126 = .ok (.iload 4, 2) := by decide +kernel
theorem d_Mo_asked_128 : decode c_Mo_asked 128 = .ok (.iload_n 1, 1) := by decide +kernel
theorem d_Mo_asked_129 : decode c_Mo_asked 129 = .ok (.if_icmp .ge 7, 3) := by decide +kernel
theorem d_Mo_asked_132 : decode c_Mo_asked 132 = .ok (.iload_n 3, 1) := by decide +kernel
theorem d_Mo_asked_133 : decode c_Mo_asked 133 = .ok (.goto 4, 3) := by decide +kernel
theorem d_Mo_asked_136 : decode c_Mo_asked 136 = .ok (.iload_n 2, 1) := by decide +kernel
theorem d_Mo_asked_137 : decode c_Mo_asked 137 = .ok (.istore_n 2, 1) := by decide +kernel
theorem d_Mo_asked_138 : decode c_Mo_asked 138 = .ok (.iload 4, 2) := by decide +kernel
theorem d_Mo_asked_140 : decode c_Mo_asked 140 = .ok (.iload_n 1, 1) := by decide +kernel
theorem d_Mo_asked_141 : decode c_Mo_asked 141 = .ok (.if_icmp .ge 8, 3) := by decide +kernel
theorem d_Mo_asked_144 : decode c_Mo_asked 144 = .ok (.iload 4, 2) := by decide +kernel
theorem d_Mo_asked_146 : decode c_Mo_asked 146 = .ok (.goto 4, 3) := by decide +kernel
theorem d_Mo_asked_149 : decode c_Mo_asked 149 = .ok (.iload_n 1, 1) := by decide +kernel
theorem d_Mo_asked_150 : decode c_Mo_asked 150 = .ok (.istore_n 1, 1) := by decide +kernel
theorem d_Mo_asked_151 : decode c_Mo_asked 151 = .ok (.iinc 3 1, 3) := by decide +kernel
theorem d_Mo_asked_154 : decode c_Mo_asked 154 = .ok (.goto (-144), 3) := by decide +kernel
theorem d_Mo_asked_157 : decode c_Mo_asked 157 = .ok (.iload_n 2, 1) := by decide +kernel
theorem d_Mo_asked_158 : decode c_Mo_asked 158 = .ok (.ireturn, 1) := by decide +kernel
theorem d_Mo_wrong_0 : decode c_Mo_wrong 0 = .ok (.iconst 0, 1) := by decide +kernel
theorem d_Mo_wrong_1 : decode c_Mo_wrong 1 = .ok (.istore_n 1, 1) := by decide +kernel
theorem d_Mo_wrong_2 : decode c_Mo_wrong 2 = .ok (.iload_n 1, 1) := by decide +kernel
theorem d_Mo_wrong_3 : decode c_Mo_wrong 3 = .ok (.aload_n 0, 1) := by decide +kernel
theorem d_Mo_wrong_4 : decode c_Mo_wrong 4 = .ok (.getfield 111, 3) := by decide +kernel
theorem d_Mo_wrong_7 : decode c_Mo_wrong 7 = .ok (.if_icmp .ge 80, 3) := by decide +kernel
theorem d_Mo_wrong_10 : decode c_Mo_wrong 10 = .ok (.aload_n 0, 1) := by decide +kernel
theorem d_Mo_wrong_11 : decode c_Mo_wrong 11 = .ok (.aload_n 0, 1) := by decide +kernel
theorem d_Mo_wrong_12 : decode c_Mo_wrong 12 = .ok (.getfield 42, 3) := by decide +kernel
theorem d_Mo_wrong_15 : decode c_Mo_wrong 15 = .ok (.iload_n 1, 1) := by decide +kernel
theorem d_Mo_wrong_16 : decode c_Mo_wrong 16 = .ok (.iaload, 1) := by decide +kernel
theorem d_Mo_wrong_17 : decode c_Mo_wrong 17 = .ok (.invokevirtual 114, 3) := by decide +kernel
theorem d_Mo_wrong_20 : decode c_Mo_wrong 20 = .ok (.ifCond .eq 20, 3) := by decide +kernel
theorem d_Mo_wrong_23 : decode c_Mo_wrong 23 = .ok (.aload_n 0, 1) := by decide +kernel
theorem d_Mo_wrong_24 : decode c_Mo_wrong 24 = .ok (.aload_n 0, 1) := by decide +kernel
theorem d_Mo_wrong_25 : decode c_Mo_wrong 25 = .ok (.getfield 45, 3) := by decide +kernel
theorem d_Mo_wrong_28 : decode c_Mo_wrong 28 = .ok (.iload_n 1, 1) := by decide +kernel
theorem d_Mo_wrong_29 : decode c_Mo_wrong 29 = .ok (.iaload, 1) := by decide +kernel
theorem d_Mo_wrong_30 : decode c_Mo_wrong 30 = .ok (.invokevirtual 114, 3) := by decide +kernel
theorem d_Mo_wrong_33 : decode c_Mo_wrong 33 = .ok (.ifCond .eq 7, 3) := by decide +kernel
theorem d_Mo_wrong_36 : decode c_Mo_wrong 36 = .ok (.iconst 1, 1) := by decide +kernel
theorem d_Mo_wrong_37 : decode c_Mo_wrong 37 = .ok (.goto 4, 3) := by decide +kernel
theorem d_Mo_wrong_40 : decode c_Mo_wrong 40 = .ok (.iconst 0, 1) := by decide +kernel
theorem d_Mo_wrong_41 : decode c_Mo_wrong 41 = .ok (.istore_n 2, 1) := by decide +kernel
theorem d_Mo_wrong_42 : decode c_Mo_wrong 42 = .ok (.iload_n 2, 1) := by decide +kernel
theorem d_Mo_wrong_43 : decode c_Mo_wrong 43 = .ok (.ifCond .eq 36, 3) := by decide +kernel
theorem d_Mo_wrong_46 : decode c_Mo_wrong 46 = .ok (.aload_n 0, 1) := by decide +kernel
theorem d_Mo_wrong_47 : decode c_Mo_wrong 47 = .ok (.aload_n 0, 1) := by decide +kernel
theorem d_Mo_wrong_48 : decode c_Mo_wrong 48 = .ok (.getfield 42, 3) := by decide +kernel
theorem d_Mo_wrong_51 : decode c_Mo_wrong 51 = .ok (.iload_n 1, 1) := by decide +kernel
theorem d_Mo_wrong_52 : decode c_Mo_wrong 52 = .ok (.iaload, 1) := by decide +kernel
theorem d_Mo_wrong_53 : decode c_Mo_wrong 53 = .ok (.invokevirtual 67, 3) := by decide +kernel
theorem d_Mo_wrong_56 : decode c_Mo_wrong 56 = .ok (.aload_n 0, 1) := by decide +kernel
theorem d_Mo_wrong_57 : decode c_Mo_wrong 57 = .ok (.aload_n 0, 1) := by decide +kernel
theorem d_Mo_wrong_58 : decode c_Mo_wrong 58 = .ok (.getfield 45, 3) := by decide +kernel
theorem d_Mo_wrong_61 : decode c_Mo_wrong 61 = .ok (.iload_n 1, 1) := by decide +kernel
theorem d_Mo_wrong_62 : decode c_Mo_wrong 62 = .ok (.iaload, 1) := by decide +kernel
theorem d_Mo_wrong_63 : decode c_Mo_wrong 63 = .ok (.invokevirtual 67, 3) := by decide +kernel
theorem d_Mo_wrong_66 : decode c_Mo_wrong 66 = .ok (.lxor, 1) := by decide +kernel
theorem d_Mo_wrong_67 : decode c_Mo_wrong 67 = .ok (.invokestatic 71, 3) := by decide +kernel
theorem d_Mo_wrong_70 : decode c_Mo_wrong 70 = .ok (.aload_n 0, 1) := by decide +kernel
theorem d_Mo_wrong_71 : decode c_Mo_wrong 71 = .ok (.getfield 48, 3) := by decide +kernel
theorem d_Mo_wrong_74 : decode c_Mo_wrong 74 = .ok (.iload_n 1, 1) := by decide +kernel
theorem d_Mo_wrong_75 : decode c_Mo_wrong 75 = .ok (.iaload, 1) := by decide +kernel
theorem d_Mo_wrong_76 : decode c_Mo_wrong 76 = .ok (.if_icmp .eq 5, 3) := by decide +kernel
theorem d_Mo_wrong_79 : decode c_Mo_wrong 79 = .ok (.iload_n 1, 1) := by decide +kernel
theorem d_Mo_wrong_80 : decode c_Mo_wrong 80 = .ok (.ireturn, 1) := by decide +kernel
theorem d_Mo_wrong_81 : decode c_Mo_wrong 81 = .ok (.iinc 1 1, 3) := by decide +kernel
theorem d_Mo_wrong_84 : decode c_Mo_wrong 84 = .ok (.goto (-82), 3) := by decide +kernel
theorem d_Mo_wrong_87 : decode c_Mo_wrong 87 = .ok (.iconst (-1), 1) := by decide +kernel
theorem d_Mo_wrong_88 : decode c_Mo_wrong 88 = .ok (.ireturn, 1) := by decide +kernel
theorem d_Mo_first_0 : decode c_Mo_first 0 = .ok (.aload_n 0, 1) := by decide +kernel
theorem d_Mo_first_1 : decode c_Mo_first 1 = .ok (.iconst 0, 1) := by decide +kernel
theorem d_Mo_first_2 : decode c_Mo_first 2 = .ok (.invokevirtual 117, 3) := by decide +kernel
theorem d_Mo_first_5 : decode c_Mo_first 5 = .ok (.istore_n 2, 1) := by decide +kernel
theorem d_Mo_first_6 : decode c_Mo_first 6 = .ok (.iload_n 2, 1) := by decide +kernel
theorem d_Mo_first_7 : decode c_Mo_first 7 = .ok (.iconst (-1), 1) := by decide +kernel
theorem d_Mo_first_8 : decode c_Mo_first 8 = .ok (.if_icmp .eq 7, 3) := by decide +kernel
theorem d_Mo_first_11 : decode c_Mo_first 11 = .ok (.iload_n 1, 1) := by decide +kernel
theorem d_Mo_first_12 : decode c_Mo_first 12 = .ok (.ifCond .ne 7, 3) := by decide +kernel
theorem d_Mo_first_15 : decode c_Mo_first 15 = .ok (.iload_n 2, 1) := by decide +kernel
theorem d_Mo_first_16 : decode c_Mo_first 16 = .ok (.goto 8, 3) := by decide +kernel
theorem d_Mo_first_19 : decode c_Mo_first 19 = .ok (.aload_n 0, 1) := by decide +kernel
theorem d_Mo_first_20 : decode c_Mo_first 20 = .ok (.iload_n 2, 1) := by decide +kernel
theorem d_Mo_first_21 : decode c_Mo_first 21 = .ok (.invokevirtual 82, 3) := by decide +kernel
theorem d_Mo_first_24 : decode c_Mo_first 24 = .ok (.ireturn, 1) := by decide +kernel
theorem d_Mo_told_0 : decode c_Mo_told 0 = .ok (.iload_n 1, 1) := by decide +kernel
theorem d_Mo_told_1 : decode c_Mo_told 1 = .ok (.tableswitch 196 0 16 #[83, 88, 93, 103, 114, 114, 129, 129, 145, 150, 155, 160, 160, 176, 181, 186, 191], 83) := by decide +kernel
theorem d_Mo_told_84 : decode c_Mo_told 84 = .ok (.aload_n 0, 1) := by decide +kernel
theorem d_Mo_told_85 : decode c_Mo_told 85 = .ok (.invokevirtual 59, 3) := by decide +kernel
theorem d_Mo_told_88 : decode c_Mo_told 88 = .ok (.ireturn, 1) := by decide +kernel
theorem d_Mo_told_89 : decode c_Mo_told 89 = .ok (.aload_n 0, 1) := by decide +kernel
theorem d_Mo_told_90 : decode c_Mo_told 90 = .ok (.invokevirtual 86, 3) := by decide +kernel
theorem d_Mo_told_93 : decode c_Mo_told 93 = .ok (.ireturn, 1) := by decide +kernel
theorem d_Mo_told_94 : decode c_Mo_told 94 = .ok (.aload_n 0, 1) := by decide +kernel
theorem d_Mo_told_95 : decode c_Mo_told 95 = .ok (.getfield 7, 3) := by decide +kernel
theorem d_Mo_told_98 : decode c_Mo_told 98 = .ok (.iconst 0, 1) := by decide +kernel
theorem d_Mo_told_99 : decode c_Mo_told 99 = .ok (.laload, 1) := by decide +kernel
theorem d_Mo_told_100 : decode c_Mo_told 100 = .ok (.invokestatic 71, 3) := by decide +kernel
theorem d_Mo_told_103 : decode c_Mo_told 103 = .ok (.ireturn, 1) := by decide +kernel
theorem d_Mo_told_104 : decode c_Mo_told 104 = .ok (.aload_n 0, 1) := by decide +kernel
theorem d_Mo_told_105 : decode c_Mo_told 105 = .ok (.aload_n 0, 1) := by decide +kernel
theorem d_Mo_told_106 : decode c_Mo_told 106 = .ok (.getfield 7, 3) := by decide +kernel
theorem d_Mo_told_109 : decode c_Mo_told 109 = .ok (.iconst 0, 1) := by decide +kernel
theorem d_Mo_told_110 : decode c_Mo_told 110 = .ok (.laload, 1) := by decide +kernel
theorem d_Mo_told_111 : decode c_Mo_told 111 = .ok (.invokevirtual 120, 3) := by decide +kernel
theorem d_Mo_told_114 : decode c_Mo_told 114 = .ok (.ireturn, 1) := by decide +kernel
theorem d_Mo_told_115 : decode c_Mo_told 115 = .ok (.aload_n 0, 1) := by decide +kernel
theorem d_Mo_told_116 : decode c_Mo_told 116 = .ok (.iload_n 1, 1) := by decide +kernel
theorem d_Mo_told_117 : decode c_Mo_told 117 = .ok (.iconst 5, 1) := by decide +kernel
theorem d_Mo_told_118 : decode c_Mo_told 118 = .ok (.if_icmp .ne 7, 3) := by decide +kernel
theorem d_Mo_told_121 : decode c_Mo_told 121 = .ok (.iconst 1, 1) := by decide +kernel
theorem d_Mo_told_122 : decode c_Mo_told 122 = .ok (.goto 4, 3) := by decide +kernel
theorem d_Mo_told_125 : decode c_Mo_told 125 = .ok (.iconst 0, 1) := by decide +kernel
theorem d_Mo_told_126 : decode c_Mo_told 126 = .ok (.invokevirtual 123, 3) := by decide +kernel
theorem d_Mo_told_129 : decode c_Mo_told 129 = .ok (.ireturn, 1) := by decide +kernel
theorem d_Mo_told_130 : decode c_Mo_told 130 = .ok (.aload_n 0, 1) := by decide +kernel
theorem d_Mo_told_131 : decode c_Mo_told 131 = .ok (.iload_n 1, 1) := by decide +kernel
theorem d_Mo_told_132 : decode c_Mo_told 132 = .ok (.bipush 7, 2) := by decide +kernel
theorem d_Mo_told_134 : decode c_Mo_told 134 = .ok (.if_icmp .ne 7, 3) := by decide +kernel
theorem d_Mo_told_137 : decode c_Mo_told 137 = .ok (.iconst 1, 1) := by decide +kernel
theorem d_Mo_told_138 : decode c_Mo_told 138 = .ok (.goto 4, 3) := by decide +kernel
theorem d_Mo_told_141 : decode c_Mo_told 141 = .ok (.iconst 0, 1) := by decide +kernel
theorem d_Mo_told_142 : decode c_Mo_told 142 = .ok (.invokevirtual 126, 3) := by decide +kernel
theorem d_Mo_told_145 : decode c_Mo_told 145 = .ok (.ireturn, 1) := by decide +kernel
theorem d_Mo_told_146 : decode c_Mo_told 146 = .ok (.aload_n 0, 1) := by decide +kernel
theorem d_Mo_told_147 : decode c_Mo_told 147 = .ok (.invokevirtual 129, 3) := by decide +kernel
theorem d_Mo_told_150 : decode c_Mo_told 150 = .ok (.ireturn, 1) := by decide +kernel
theorem d_Mo_told_151 : decode c_Mo_told 151 = .ok (.aload_n 0, 1) := by decide +kernel
theorem d_Mo_told_152 : decode c_Mo_told 152 = .ok (.invokevirtual 132, 3) := by decide +kernel
theorem d_Mo_told_155 : decode c_Mo_told 155 = .ok (.ireturn, 1) := by decide +kernel
theorem d_Mo_told_156 : decode c_Mo_told 156 = .ok (.aload_n 0, 1) := by decide +kernel
theorem d_Mo_told_157 : decode c_Mo_told 157 = .ok (.getfield 100, 3) := by decide +kernel
theorem d_Mo_told_160 : decode c_Mo_told 160 = .ok (.ireturn, 1) := by decide +kernel
theorem d_Mo_told_161 : decode c_Mo_told 161 = .ok (.aload_n 0, 1) := by decide +kernel
theorem d_Mo_told_162 : decode c_Mo_told 162 = .ok (.iload_n 1, 1) := by decide +kernel
theorem d_Mo_told_163 : decode c_Mo_told 163 = .ok (.bipush 12, 2) := by decide +kernel
theorem d_Mo_told_165 : decode c_Mo_told 165 = .ok (.if_icmp .ne 7, 3) := by decide +kernel
theorem d_Mo_told_168 : decode c_Mo_told 168 = .ok (.iconst 1, 1) := by decide +kernel
theorem d_Mo_told_169 : decode c_Mo_told 169 = .ok (.goto 4, 3) := by decide +kernel
theorem d_Mo_told_172 : decode c_Mo_told 172 = .ok (.iconst 0, 1) := by decide +kernel
theorem d_Mo_told_173 : decode c_Mo_told 173 = .ok (.invokevirtual 107, 3) := by decide +kernel
theorem d_Mo_told_176 : decode c_Mo_told 176 = .ok (.ireturn, 1) := by decide +kernel
theorem d_Mo_told_177 : decode c_Mo_told 177 = .ok (.aload_n 0, 1) := by decide +kernel
theorem d_Mo_told_178 : decode c_Mo_told 178 = .ok (.invokevirtual 135, 3) := by decide +kernel
theorem d_Mo_told_181 : decode c_Mo_told 181 = .ok (.ireturn, 1) := by decide +kernel
theorem d_Mo_told_182 : decode c_Mo_told 182 = .ok (.aload_n 0, 1) := by decide +kernel
theorem d_Mo_told_183 : decode c_Mo_told 183 = .ok (.getfield 111, 3) := by decide +kernel
theorem d_Mo_told_186 : decode c_Mo_told 186 = .ok (.ireturn, 1) := by decide +kernel
theorem d_Mo_told_187 : decode c_Mo_told 187 = .ok (.aload_n 0, 1) := by decide +kernel
theorem d_Mo_told_188 : decode c_Mo_told 188 = .ok (.invokevirtual 138, 3) := by decide +kernel
theorem d_Mo_told_191 : decode c_Mo_told 191 = .ok (.ireturn, 1) := by decide +kernel
theorem d_Mo_told_192 : decode c_Mo_told 192 = .ok (.aload_n 0, 1) := by decide +kernel
theorem d_Mo_told_193 : decode c_Mo_told 193 = .ok (.getfield 141, 3) := by decide +kernel
theorem d_Mo_told_196 : decode c_Mo_told 196 = .ok (.ireturn, 1) := by decide +kernel
theorem d_Mo_told_197 : decode c_Mo_told 197 = .ok (.ldc 144, 2) := by decide +kernel
theorem d_Mo_told_199 : decode c_Mo_told 199 = .ok (.ireturn, 1) := by decide +kernel
theorem d_Mo_hand_0 : decode c_Mo_hand 0 = .ok (.aload_n 0, 1) := by decide +kernel
theorem d_Mo_hand_1 : decode c_Mo_hand 1 = .ok (.getfield 7, 3) := by decide +kernel
theorem d_Mo_hand_4 : decode c_Mo_hand 4 = .ok (.iconst 0, 1) := by decide +kernel
theorem d_Mo_hand_5 : decode c_Mo_hand 5 = .ok (.laload, 1) := by decide +kernel
theorem d_Mo_hand_6 : decode c_Mo_hand 6 = .ok (.lreturn, 1) := by decide +kernel
theorem d_Mo_markAt_0 : decode c_Mo_markAt 0 = .ok (.aload_n 0, 1) := by decide +kernel
theorem d_Mo_markAt_1 : decode c_Mo_markAt 1 = .ok (.iload_n 1, 1) := by decide +kernel
theorem d_Mo_markAt_2 : decode c_Mo_markAt 2 = .ok (.invokevirtual 114, 3) := by decide +kernel
theorem d_Mo_markAt_5 : decode c_Mo_markAt 5 = .ok (.ifCond .eq 11, 3) := by decide +kernel
theorem d_Mo_markAt_8 : decode c_Mo_markAt 8 = .ok (.aload_n 0, 1) := by decide +kernel
theorem d_Mo_markAt_9 : decode c_Mo_markAt 9 = .ok (.iload_n 1, 1) := by decide +kernel
theorem d_Mo_markAt_10 : decode c_Mo_markAt 10 = .ok (.invokevirtual 67, 3) := by decide +kernel
theorem d_Mo_markAt_13 : decode c_Mo_markAt 13 = .ok (.goto 4, 3) := by decide +kernel
theorem d_Mo_markAt_16 : decode c_Mo_markAt 16 = .ok (.lconst 0, 1) := by decide +kernel
theorem d_Mo_markAt_17 : decode c_Mo_markAt 17 = .ok (.lreturn, 1) := by decide +kernel
theorem d_Mo_mark_0 : decode c_Mo_mark 0 = .ok (.aload_n 0, 1) := by decide +kernel
theorem d_Mo_mark_1 : decode c_Mo_mark 1 = .ok (.iload_n 1, 1) := by decide +kernel
theorem d_Mo_mark_2 : decode c_Mo_mark 2 = .ok (.invokevirtual 114, 3) := by decide +kernel
theorem d_Mo_mark_5 : decode c_Mo_mark 5 = .ok (.ifCond .ne 6, 3) := by decide +kernel
theorem d_Mo_mark_8 : decode c_Mo_mark 8 = .ok (.ldc 145, 2) := by decide +kernel
theorem d_Mo_mark_10 : decode c_Mo_mark 10 = .ok (.ireturn, 1) := by decide +kernel
theorem d_Mo_mark_11 : decode c_Mo_mark 11 = .ok (.iload_n 2, 1) := by decide +kernel
theorem d_Mo_mark_12 : decode c_Mo_mark 12 = .ok (.tableswitch 145 0 4 #[36, 43, 52, 58, 116], 36) := by decide +kernel
theorem d_Mo_mark_48 : decode c_Mo_mark 48 = .ok (.aload_n 0, 1) := by decide +kernel
theorem d_Mo_mark_49 : decode c_Mo_mark 49 = .ok (.getfield 13, 3) := by decide +kernel
theorem d_Mo_mark_52 : decode c_Mo_mark 52 = .ok (.iload_n 1, 1) := by decide +kernel
theorem d_Mo_mark_53 : decode c_Mo_mark 53 = .ok (.iaload, 1) := by decide +kernel
theorem d_Mo_mark_54 : decode c_Mo_mark 54 = .ok (.ireturn, 1) := by decide +kernel
theorem d_Mo_mark_55 : decode c_Mo_mark 55 = .ok (.aload_n 0, 1) := by decide +kernel
theorem d_Mo_mark_56 : decode c_Mo_mark 56 = .ok (.iload_n 1, 1) := by decide +kernel
theorem d_Mo_mark_57 : decode c_Mo_mark 57 = .ok (.invokevirtual 67, 3) := by decide +kernel
theorem d_Mo_mark_60 : decode c_Mo_mark 60 = .ok (.invokestatic 71, 3) := by decide +kernel
theorem d_Mo_mark_63 : decode c_Mo_mark 63 = .ok (.ireturn, 1) := by decide +kernel
theorem d_Mo_mark_64 : decode c_Mo_mark 64 = .ok (.aload_n 0, 1) := by decide +kernel
theorem d_Mo_mark_65 : decode c_Mo_mark 65 = .ok (.iload_n 1, 1) := by decide +kernel
theorem d_Mo_mark_66 : decode c_Mo_mark 66 = .ok (.invokevirtual 82, 3) := by decide +kernel
theorem d_Mo_mark_69 : decode c_Mo_mark 69 = .ok (.ireturn, 1) := by decide +kernel
theorem d_Mo_mark_70 : decode c_Mo_mark 70 = .ok (.iconst 0, 1) := by decide +kernel
theorem d_Mo_mark_71 : decode c_Mo_mark 71 = .ok (.istore_n 3, 1) := by decide +kernel
theorem d_Mo_mark_72 : decode c_Mo_mark 72 = .ok (.iconst 0, 1) := by decide +kernel
theorem d_Mo_mark_73 : decode c_Mo_mark 73 = .ok (.istore 4, 2) := by decide +kernel
theorem d_Mo_mark_75 : decode c_Mo_mark 75 = .ok (.iload 4, 2) := by decide +kernel
theorem d_Mo_mark_77 : decode c_Mo_mark 77 = .ok (.aload_n 0, 1) := by decide +kernel
theorem d_Mo_mark_78 : decode c_Mo_mark 78 = .ok (.invokevirtual 59, 3) := by decide +kernel
theorem d_Mo_mark_81 : decode c_Mo_mark 81 = .ok (.if_icmp .ge 45, 3) := by decide +kernel
theorem d_Mo_mark_84 : decode c_Mo_mark 84 = .ok (.iload_n 3, 1) := by decide +kernel
theorem d_Mo_mark_85 : decode c_Mo_mark 85 = .ok (.iload 4, 2) := by decide +kernel
theorem d_Mo_mark_87 : decode c_Mo_mark 87 = .ok (.iload_n 1, 1) := by decide +kernel
theorem d_Mo_mark_88 : decode c_Mo_mark 88 = .ok (.if_icmp .eq 29, 3) := by decide +kernel
theorem d_Mo_mark_91 : decode c_Mo_mark 91 = .ok (.aload_n 0, 1) := by decide +kernel
theorem d_Mo_mark_92 : decode c_Mo_mark 92 = .ok (.iload 4, 2) := by decide +kernel
theorem d_Mo_mark_94 : decode c_Mo_mark 94 = .ok (.invokevirtual 67, 3) := by decide +kernel
theorem d_Mo_mark_97 : decode c_Mo_mark 97 = .ok (.aload_n 0, 1) := by decide +kernel
theorem d_Mo_mark_98 : decode c_Mo_mark 98 = .ok (.iload_n 1, 1) := by decide +kernel
theorem d_Mo_mark_99 : decode c_Mo_mark 99 = .ok (.invokevirtual 67, 3) := by decide +kernel
theorem d_Mo_mark_102 : decode c_Mo_mark 102 = .ok (.lxor, 1) := by decide +kernel
theorem d_Mo_mark_103 : decode c_Mo_mark 103 = .ok (.invokestatic 71, 3) := by decide +kernel
theorem d_Mo_mark_106 : decode c_Mo_mark 106 = .ok (.aload_n 0, 1) := by decide +kernel
theorem d_Mo_mark_107 : decode c_Mo_mark 107 = .ok (.invokevirtual 86, 3) := by decide +kernel
theorem d_Mo_mark_110 : decode c_Mo_mark 110 = .ok (.if_icmp .ge 7, 3) := by decide +kernel
theorem d_Mo_mark_113 : decode c_Mo_mark 113 = .ok (.iconst 1, 1) := by decide +kernel
theorem d_Mo_mark_114 : decode c_Mo_mark 114 = .ok (.goto 4, 3) := by decide +kernel
theorem d_Mo_mark_117 : decode c_Mo_mark 117 = .ok (.iconst 0, 1) := by decide +kernel
theorem d_Mo_mark_118 : decode c_Mo_mark 118 = .ok (.iadd, 1) := by decide +kernel
theorem d_Mo_mark_119 : decode c_Mo_mark 119 = .ok (.istore_n 3, 1) := by decide +kernel
theorem d_Mo_mark_120 : decode c_Mo_mark 120 = .ok (.iinc 4 1, 3) := by decide +kernel
theorem d_Mo_mark_123 : decode c_Mo_mark 123 = .ok (.goto (-48), 3) := by decide +kernel
theorem d_Mo_mark_126 : decode c_Mo_mark 126 = .ok (.iload_n 3, 1) := by decide +kernel
theorem d_Mo_mark_127 : decode c_Mo_mark 127 = .ok (.ireturn, 1) := by decide +kernel
theorem d_Mo_mark_128 : decode c_Mo_mark 128 = .ok (.aload_n 0, 1) := by decide +kernel
theorem d_Mo_mark_129 : decode c_Mo_mark 129 = .ok (.iload_n 1, 1) := by decide +kernel
theorem d_Mo_mark_130 : decode c_Mo_mark 130 = .ok (.invokevirtual 67, 3) := by decide +kernel
theorem d_Mo_mark_133 : decode c_Mo_mark 133 = .ok (.aload_n 0, 1) := by decide +kernel
theorem d_Mo_mark_134 : decode c_Mo_mark 134 = .ok (.getfield 7, 3) := by decide +kernel
theorem d_Mo_mark_137 : decode c_Mo_mark 137 = .ok (.iconst 0, 1) := by decide +kernel
theorem d_Mo_mark_138 : decode c_Mo_mark 138 = .ok (.laload, 1) := by decide +kernel
theorem d_Mo_mark_139 : decode c_Mo_mark 139 = .ok (.aload_n 0, 1) := by decide +kernel
theorem d_Mo_mark_140 : decode c_Mo_mark 140 = .ok (.getfield 7, 3) := by decide +kernel
theorem d_Mo_mark_143 : decode c_Mo_mark 143 = .ok (.iconst 1, 1) := by decide +kernel
theorem d_Mo_mark_144 : decode c_Mo_mark 144 = .ok (.laload, 1) := by decide +kernel
theorem d_Mo_mark_145 : decode c_Mo_mark 145 = .ok (.invokestatic 79, 3) := by decide +kernel
theorem d_Mo_mark_148 : decode c_Mo_mark 148 = .ok (.ifCond .eq 7, 3) := by decide +kernel
theorem d_Mo_mark_151 : decode c_Mo_mark 151 = .ok (.iconst 1, 1) := by decide +kernel
theorem d_Mo_mark_152 : decode c_Mo_mark 152 = .ok (.goto 4, 3) := by decide +kernel
theorem d_Mo_mark_155 : decode c_Mo_mark 155 = .ok (.iconst 0, 1) := by decide +kernel
theorem d_Mo_mark_156 : decode c_Mo_mark 156 = .ok (.ireturn, 1) := by decide +kernel
theorem d_Mo_mark_157 : decode c_Mo_mark 157 = .ok (.ldc 144, 2) := by decide +kernel
theorem d_Mo_mark_159 : decode c_Mo_mark 159 = .ok (.ireturn, 1) := by decide +kernel
theorem d_Mo_beginOf_0 : decode c_Mo_beginOf 0 = .ok (.iload_n 1, 1) := by decide +kernel
theorem d_Mo_beginOf_1 : decode c_Mo_beginOf 1 = .ok (.istore_n 2, 1) := by decide +kernel
theorem d_Mo_beginOf_2 : decode c_Mo_beginOf 2 = .ok (.iconst 0, 1) := by decide +kernel
theorem d_Mo_beginOf_3 : decode c_Mo_beginOf 3 = .ok (.istore_n 3, 1) := by decide +kernel
theorem d_Mo_beginOf_4 : decode c_Mo_beginOf 4 = .ok (.aload_n 0, 1) := by decide +kernel
theorem d_Mo_beginOf_5 : decode c_Mo_beginOf 5 = .ok (.getfield 7, 3) := by decide +kernel
theorem d_Mo_beginOf_8 : decode c_Mo_beginOf 8 = .ok (.iconst 1, 1) := by decide +kernel
theorem d_Mo_beginOf_9 : decode c_Mo_beginOf 9 = .ok (.laload, 1) := by decide +kernel
theorem d_Mo_beginOf_10 : decode c_Mo_beginOf 10 = .ok (.iload_n 3, 1) := by decide +kernel
theorem d_Mo_beginOf_11 : decode c_Mo_beginOf 11 = .ok (.invokestatic 75, 3) := by decide +kernel
theorem d_Mo_beginOf_14 : decode c_Mo_beginOf 14 = .ok (.ifCond .eq 7, 3) := by decide +kernel
theorem d_Mo_beginOf_17 : decode c_Mo_beginOf 17 = .ok (.iload_n 2, 1) := by decide +kernel
theorem d_Mo_beginOf_18 : decode c_Mo_beginOf 18 = .ok (.ifCond .le 30, 3) := by decide +kernel
theorem d_Mo_beginOf_21 : decode c_Mo_beginOf 21 = .ok (.iload_n 2, 1) := by decide +kernel
theorem d_Mo_beginOf_22 : decode c_Mo_beginOf 22 = .ok (.aload_n 0, 1) := by decide +kernel
theorem d_Mo_beginOf_23 : decode c_Mo_beginOf 23 = .ok (.getfield 7, 3) := by decide +kernel
theorem d_Mo_beginOf_26 : decode c_Mo_beginOf 26 = .ok (.iconst 1, 1) := by decide +kernel
theorem d_Mo_beginOf_27 : decode c_Mo_beginOf 27 = .ok (.laload, 1) := by decide +kernel
theorem d_Mo_beginOf_28 : decode c_Mo_beginOf 28 = .ok (.iload_n 3, 1) := by decide +kernel
theorem d_Mo_beginOf_29 : decode c_Mo_beginOf 29 = .ok (.invokestatic 75, 3) := by decide +kernel
theorem d_Mo_beginOf_32 : decode c_Mo_beginOf 32 = .ok (.ifCond .eq 7, 3) := by decide +kernel
theorem d_Mo_beginOf_35 : decode c_Mo_beginOf 35 = .ok (.iconst 1, 1) := by decide +kernel
theorem d_Mo_beginOf_36 : decode c_Mo_beginOf 36 = .ok (.goto 4, 3) := by decide +kernel
theorem d_Mo_beginOf_39 : decode c_Mo_beginOf 39 = .ok (.iconst 0, 1) := by decide +kernel
theorem d_Mo_beginOf_40 : decode c_Mo_beginOf 40 = .ok (.isub, 1) := by decide +kernel
theorem d_Mo_beginOf_41 : decode c_Mo_beginOf 41 = .ok (.istore_n 2, 1) := by decide +kernel
theorem d_Mo_beginOf_42 : decode c_Mo_beginOf 42 = .ok (.iinc 3 1, 3) := by decide +kernel
theorem d_Mo_beginOf_45 : decode c_Mo_beginOf 45 = .ok (.goto (-41), 3) := by decide +kernel
theorem d_Mo_beginOf_48 : decode c_Mo_beginOf 48 = .ok (.iload_n 3, 1) := by decide +kernel
theorem d_Mo_beginOf_49 : decode c_Mo_beginOf 49 = .ok (.ireturn, 1) := by decide +kernel
theorem d_Mo_endOf_0 : decode c_Mo_endOf 0 = .ok (.iload_n 1, 1) := by decide +kernel
theorem d_Mo_endOf_1 : decode c_Mo_endOf 1 = .ok (.iconst 1, 1) := by decide +kernel
theorem d_Mo_endOf_2 : decode c_Mo_endOf 2 = .ok (.iadd, 1) := by decide +kernel
theorem d_Mo_endOf_3 : decode c_Mo_endOf 3 = .ok (.aload_n 0, 1) := by decide +kernel
theorem d_Mo_endOf_4 : decode c_Mo_endOf 4 = .ok (.invokevirtual 86, 3) := by decide +kernel
theorem d_Mo_endOf_7 : decode c_Mo_endOf 7 = .ok (.if_icmp .ge 13, 3) := by decide +kernel
theorem d_Mo_endOf_10 : decode c_Mo_endOf 10 = .ok (.aload_n 0, 1) := by decide +kernel
theorem d_Mo_endOf_11 : decode c_Mo_endOf 11 = .ok (.iload_n 1, 1) := by decide +kernel
theorem d_Mo_endOf_12 : decode c_Mo_endOf 12 = .ok (.iconst 1, 1) := by decide +kernel
theorem d_Mo_endOf_13 : decode c_Mo_endOf 13 = .ok (.iadd, 1) := by decide +kernel
theorem d_Mo_endOf_14 : decode c_Mo_endOf 14 = .ok (.invokevirtual 146, 3) := by decide +kernel
theorem d_Mo_endOf_17 : decode c_Mo_endOf 17 = .ok (.goto 5, 3) := by decide +kernel
theorem d_Mo_endOf_20 : decode c_Mo_endOf 20 = .ok (.bipush 64, 2) := by decide +kernel
theorem d_Mo_endOf_22 : decode c_Mo_endOf 22 = .ok (.ireturn, 1) := by decide +kernel
theorem d_Mo_have_0 : decode c_Mo_have 0 = .ok (.iconst 0, 1) := by decide +kernel
theorem d_Mo_have_1 : decode c_Mo_have 1 = .ok (.istore_n 2, 1) := by decide +kernel
theorem d_Mo_have_2 : decode c_Mo_have 2 = .ok (.iconst 0, 1) := by decide +kernel
theorem d_Mo_have_3 : decode c_Mo_have 3 = .ok (.istore_n 3, 1) := by decide +kernel
theorem d_Mo_have_4 : decode c_Mo_have 4 = .ok (.iload_n 3, 1) := by decide +kernel
theorem d_Mo_have_5 : decode c_Mo_have 5 = .ok (.aload_n 0, 1) := by decide +kernel
theorem d_Mo_have_6 : decode c_Mo_have 6 = .ok (.invokevirtual 59, 3) := by decide +kernel
theorem d_Mo_have_9 : decode c_Mo_have 9 = .ok (.if_icmp .ge 84, 3) := by decide +kernel
theorem d_Mo_have_12 : decode c_Mo_have 12 = .ok (.iconst 1, 1) := by decide +kernel
theorem d_Mo_have_13 : decode c_Mo_have 13 = .ok (.istore 4, 2) := by decide +kernel
theorem d_Mo_have_15 : decode c_Mo_have 15 = .ok (.aload_n 0, 1) := by decide +kernel
theorem d_Mo_have_16 : decode c_Mo_have 16 = .ok (.iload_n 1, 1) := by decide +kernel
theorem d_Mo_have_17 : decode c_Mo_have 17 = .ok (.invokevirtual 146, 3) := by decide +kernel
theorem d_Mo_have_20 : decode c_Mo_have 20 = .ok (.istore 5, 2) := by decide +kernel
theorem d_Mo_have_22 : decode c_Mo_have 22 = .ok (.iload 5, 2) := by decide +kernel
theorem d_Mo_have_24 : decode c_Mo_have 24 = .ok (.aload_n 0, 1) := by decide +kernel
theorem d_Mo_have_25 : decode c_Mo_have 25 = .ok (.iload_n 1, 1) := by decide +kernel
theorem d_Mo_have_26 : decode c_Mo_have 26 = .ok (.invokevirtual 149, 3) := by decide +kernel
theorem d_Mo_have_29 : decode c_Mo_have 29 = .ok (.if_icmp .ge 45, 3) := by decide +kernel
theorem d_Mo_have_32 : decode c_Mo_have 32 = .ok (.iload 4, 2) := by decide +kernel
theorem d_Mo_have_34 : decode c_Mo_have 34 = .ok (.ifCond .eq 31, 3) := by decide +kernel
theorem d_Mo_have_37 : decode c_Mo_have 37 = .ok (.aload_n 0, 1) := by decide +kernel
theorem d_Mo_have_38 : decode c_Mo_have 38 = .ok (.iload_n 3, 1) := by decide +kernel
theorem d_Mo_have_39 : decode c_Mo_have 39 = .ok (.invokevirtual 67, 3) := by decide +kernel
theorem d_Mo_have_42 : decode c_Mo_have 42 = .ok (.iload 5, 2) := by decide +kernel
theorem d_Mo_have_44 : decode c_Mo_have 44 = .ok (.invokestatic 75, 3) := by decide +kernel
theorem d_Mo_have_47 : decode c_Mo_have 47 = .ok (.aload_n 0, 1) := by decide +kernel
theorem d_Mo_have_48 : decode c_Mo_have 48 = .ok (.getfield 7, 3) := by decide +kernel
theorem d_Mo_have_51 : decode c_Mo_have 51 = .ok (.iconst 0, 1) := by decide +kernel
theorem d_Mo_have_52 : decode c_Mo_have 52 = .ok (.laload, 1) := by decide +kernel
theorem d_Mo_have_53 : decode c_Mo_have 53 = .ok (.iload 5, 2) := by decide +kernel
theorem d_Mo_have_55 : decode c_Mo_have 55 = .ok (.invokestatic 75, 3) := by decide +kernel
theorem d_Mo_have_58 : decode c_Mo_have 58 = .ok (.if_icmp .ne 7, 3) := by decide +kernel
theorem d_Mo_have_61 : decode c_Mo_have 61 = .ok (.iconst 1, 1) := by decide +kernel
theorem d_Mo_have_62 : decode c_Mo_have 62 = .ok (.goto 4, 3) := by decide +kernel
theorem d_Mo_have_65 : decode c_Mo_have 65 = .ok (.iconst 0, 1) := by decide +kernel
theorem d_Mo_have_66 : decode c_Mo_have 66 = .ok (.istore 4, 2) := by decide +kernel
theorem d_Mo_have_68 : decode c_Mo_have 68 = .ok (.iinc 5 1, 3) := by decide +kernel
theorem d_Mo_have_71 : decode c_Mo_have 71 = .ok (.goto (-49), 3) := by decide +kernel
theorem d_Mo_have_74 : decode c_Mo_have 74 = .ok (.iload_n 2, 1) := by decide +kernel
theorem d_Mo_have_75 : decode c_Mo_have 75 = .ok (.iload 4, 2) := by decide +kernel
theorem d_Mo_have_77 : decode c_Mo_have 77 = .ok (.ifCond .eq 7, 3) := by decide +kernel
theorem d_Mo_have_80 : decode c_Mo_have 80 = .ok (.iconst 1, 1) := by decide +kernel
theorem d_Mo_have_81 : decode c_Mo_have 81 = .ok (.goto 4, 3) := by decide +kernel
theorem d_Mo_have_84 : decode c_Mo_have 84 = .ok (.iconst 0, 1) := by decide +kernel
theorem d_Mo_have_85 : decode c_Mo_have 85 = .ok (.iadd, 1) := by decide +kernel
theorem d_Mo_have_86 : decode c_Mo_have 86 = .ok (.istore_n 2, 1) := by decide +kernel
theorem d_Mo_have_87 : decode c_Mo_have 87 = .ok (.iinc 3 1, 3) := by decide +kernel
theorem d_Mo_have_90 : decode c_Mo_have 90 = .ok (.goto (-86), 3) := by decide +kernel
theorem d_Mo_have_93 : decode c_Mo_have 93 = .ok (.iload_n 2, 1) := by decide +kernel
theorem d_Mo_have_94 : decode c_Mo_have 94 = .ok (.ireturn, 1) := by decide +kernel
theorem d_Mo_part_0 : decode c_Mo_part 0 = .ok (.iload_n 1, 1) := by decide +kernel
theorem d_Mo_part_1 : decode c_Mo_part 1 = .ok (.i2l, 1) := by decide +kernel
theorem d_Mo_part_2 : decode c_Mo_part 2 = .ok (.lconst 0, 1) := by decide +kernel
theorem d_Mo_part_3 : decode c_Mo_part 3 = .ok (.aload_n 0, 1) := by decide +kernel
theorem d_Mo_part_4 : decode c_Mo_part 4 = .ok (.invokevirtual 86, 3) := by decide +kernel
theorem d_Mo_part_7 : decode c_Mo_part 7 = .ok (.iconst 1, 1) := by decide +kernel
theorem d_Mo_part_8 : decode c_Mo_part 8 = .ok (.isub, 1) := by decide +kernel
theorem d_Mo_part_9 : decode c_Mo_part 9 = .ok (.i2l, 1) := by decide +kernel
theorem d_Mo_part_10 : decode c_Mo_part 10 = .ok (.invokestatic 63, 3) := by decide +kernel
theorem d_Mo_part_13 : decode c_Mo_part 13 = .ok (.ifCond .ne 6, 3) := by decide +kernel
theorem d_Mo_part_16 : decode c_Mo_part 16 = .ok (.ldc 145, 2) := by decide +kernel
theorem d_Mo_part_18 : decode c_Mo_part 18 = .ok (.ireturn, 1) := by decide +kernel
theorem d_Mo_part_19 : decode c_Mo_part 19 = .ok (.iload_n 2, 1) := by decide +kernel
theorem d_Mo_part_20 : decode c_Mo_part 20 = .ok (.tableswitch 52 0 2 #[28, 34, 46], 28) := by decide +kernel
theorem d_Mo_part_48 : decode c_Mo_part 48 = .ok (.aload_n 0, 1) := by decide +kernel
theorem d_Mo_part_49 : decode c_Mo_part 49 = .ok (.iload_n 1, 1) := by decide +kernel
theorem d_Mo_part_50 : decode c_Mo_part 50 = .ok (.invokevirtual 146, 3) := by decide +kernel
theorem d_Mo_part_53 : decode c_Mo_part 53 = .ok (.ireturn, 1) := by decide +kernel
theorem d_Mo_part_54 : decode c_Mo_part 54 = .ok (.aload_n 0, 1) := by decide +kernel
theorem d_Mo_part_55 : decode c_Mo_part 55 = .ok (.iload_n 1, 1) := by decide +kernel
theorem d_Mo_part_56 : decode c_Mo_part 56 = .ok (.invokevirtual 149, 3) := by decide +kernel
theorem d_Mo_part_59 : decode c_Mo_part 59 = .ok (.aload_n 0, 1) := by decide +kernel
theorem d_Mo_part_60 : decode c_Mo_part 60 = .ok (.iload_n 1, 1) := by decide +kernel
theorem d_Mo_part_61 : decode c_Mo_part 61 = .ok (.invokevirtual 146, 3) := by decide +kernel
theorem d_Mo_part_64 : decode c_Mo_part 64 = .ok (.isub, 1) := by decide +kernel
theorem d_Mo_part_65 : decode c_Mo_part 65 = .ok (.ireturn, 1) := by decide +kernel
theorem d_Mo_part_66 : decode c_Mo_part 66 = .ok (.aload_n 0, 1) := by decide +kernel
theorem d_Mo_part_67 : decode c_Mo_part 67 = .ok (.iload_n 1, 1) := by decide +kernel
theorem d_Mo_part_68 : decode c_Mo_part 68 = .ok (.invokevirtual 152, 3) := by decide +kernel
theorem d_Mo_part_71 : decode c_Mo_part 71 = .ok (.ireturn, 1) := by decide +kernel
theorem d_Mo_part_72 : decode c_Mo_part 72 = .ok (.ldc 144, 2) := by decide +kernel
theorem d_Mo_part_74 : decode c_Mo_part 74 = .ok (.ireturn, 1) := by decide +kernel
theorem d_Mo_note_0 : decode c_Mo_note 0 = .ok (.aload_n 0, 1) := by decide +kernel
theorem d_Mo_note_1 : decode c_Mo_note 1 = .ok (.getfield 141, 3) := by decide +kernel
theorem d_Mo_note_4 : decode c_Mo_note 4 = .ok (.bipush 20, 2) := by decide +kernel
theorem d_Mo_note_6 : decode c_Mo_note 6 = .ok (.if_icmp .ne 73, 3) := by decide +kernel
theorem d_Mo_note_9 : decode c_Mo_note 9 = .ok (.iconst 0, 1) := by decide +kernel
theorem d_Mo_note_10 : decode c_Mo_note 10 = .ok (.istore_n 1, 1) := by decide +kernel
theorem d_Mo_note_11 : decode c_Mo_note 11 = .ok (.iload_n 1, 1) := by decide +kernel
theorem d_Mo_note_12 : decode c_Mo_note 12 = .ok (.sipush 817, 3) := by decide +kernel
theorem d_Mo_note_15 : decode c_Mo_note 15 = .ok (.if_icmp .ge 24, 3) := by decide +kernel
theorem d_Mo_note_18 : decode c_Mo_note 18 = .ok (.aload_n 0, 1) := by decide +kernel
theorem d_Mo_note_19 : decode c_Mo_note 19 = .ok (.getfield 17, 3) := by decide +kernel
theorem d_Mo_note_22 : decode c_Mo_note 22 = .ok (.iload_n 1, 1) := by decide +kernel
theorem d_Mo_note_23 : decode c_Mo_note 23 = .ok (.aload_n 0, 1) := by decide +kernel
theorem d_Mo_note_24 : decode c_Mo_note 24 = .ok (.getfield 17, 3) := by decide +kernel
theorem d_Mo_note_27 : decode c_Mo_note 27 = .ok (.iload_n 1, 1) := by decide +kernel
theorem d_Mo_note_28 : decode c_Mo_note 28 = .ok (.bipush 43, 2) := by decide +kernel
theorem d_Mo_note_30 : decode c_Mo_note 30 = .ok (.iadd, 1) := by decide +kernel
theorem d_Mo_note_31 : decode c_Mo_note 31 = .ok (.laload, 1) := by decide +kernel
theorem d_Mo_note_32 : decode c_Mo_note 32 = .ok (.lastore, 1) := by decide +kernel
theorem d_Mo_note_33 : decode c_Mo_note 33 = .ok (.iinc 1 1, 3) := by decide +kernel
theorem d_Mo_note_36 : decode c_Mo_note 36 = .ok (.goto (-25), 3) := by decide +kernel
theorem d_Mo_note_39 : decode c_Mo_note 39 = .ok (.iconst 0, 1) := by decide +kernel
theorem d_Mo_note_40 : decode c_Mo_note 40 = .ok (.istore_n 1, 1) := by decide +kernel
theorem d_Mo_note_41 : decode c_Mo_note 41 = .ok (.iload_n 1, 1) := by decide +kernel
theorem d_Mo_note_42 : decode c_Mo_note 42 = .ok (.sipush 760, 3) := by decide +kernel
theorem d_Mo_note_45 : decode c_Mo_note 45 = .ok (.if_icmp .ge 24, 3) := by decide +kernel
theorem d_Mo_note_48 : decode c_Mo_note 48 = .ok (.aload_n 0, 1) := by decide +kernel
theorem d_Mo_note_49 : decode c_Mo_note 49 = .ok (.getfield 20, 3) := by decide +kernel
theorem d_Mo_note_52 : decode c_Mo_note 52 = .ok (.iload_n 1, 1) := by decide +kernel
theorem d_Mo_note_53 : decode c_Mo_note 53 = .ok (.aload_n 0, 1) := by decide +kernel
theorem d_Mo_note_54 : decode c_Mo_note 54 = .ok (.getfield 20, 3) := by decide +kernel
theorem d_Mo_note_57 : decode c_Mo_note 57 = .ok (.iload_n 1, 1) := by decide +kernel
theorem d_Mo_note_58 : decode c_Mo_note 58 = .ok (.bipush 40, 2) := by decide +kernel
theorem d_Mo_note_60 : decode c_Mo_note 60 = .ok (.iadd, 1) := by decide +kernel
theorem d_Mo_note_61 : decode c_Mo_note 61 = .ok (.iaload, 1) := by decide +kernel
theorem d_Mo_note_62 : decode c_Mo_note 62 = .ok (.iastore, 1) := by decide +kernel
theorem d_Mo_note_63 : decode c_Mo_note 63 = .ok (.iinc 1 1, 3) := by decide +kernel
theorem d_Mo_note_66 : decode c_Mo_note 66 = .ok (.goto (-25), 3) := by decide +kernel
theorem d_Mo_note_69 : decode c_Mo_note 69 = .ok (.aload_n 0, 1) := by decide +kernel
theorem d_Mo_note_70 : decode c_Mo_note 70 = .ok (.dup, 1) := by decide +kernel
theorem d_Mo_note_71 : decode c_Mo_note 71 = .ok (.getfield 141, 3) := by decide +kernel
theorem d_Mo_note_74 : decode c_Mo_note 74 = .ok (.iconst 1, 1) := by decide +kernel
theorem d_Mo_note_75 : decode c_Mo_note 75 = .ok (.isub, 1) := by decide +kernel
theorem d_Mo_note_76 : decode c_Mo_note 76 = .ok (.putfield 141, 3) := by decide +kernel
theorem d_Mo_note_79 : decode c_Mo_note 79 = .ok (.aload_n 0, 1) := by decide +kernel
theorem d_Mo_note_80 : decode c_Mo_note 80 = .ok (.aload_n 0, 1) := by decide +kernel
theorem d_Mo_note_81 : decode c_Mo_note 81 = .ok (.getfield 17, 3) := by decide +kernel
theorem d_Mo_note_84 : decode c_Mo_note 84 = .ok (.aload_n 0, 1) := by decide +kernel
theorem d_Mo_note_85 : decode c_Mo_note 85 = .ok (.getfield 20, 3) := by decide +kernel
theorem d_Mo_note_88 : decode c_Mo_note 88 = .ok (.aload_n 0, 1) := by decide +kernel
theorem d_Mo_note_89 : decode c_Mo_note 89 = .ok (.getfield 141, 3) := by decide +kernel
theorem d_Mo_note_92 : decode c_Mo_note 92 = .ok (.invokevirtual 155, 3) := by decide +kernel
theorem d_Mo_note_95 : decode c_Mo_note 95 = .ok (.aload_n 0, 1) := by decide +kernel
theorem d_Mo_note_96 : decode c_Mo_note 96 = .ok (.dup, 1) := by decide +kernel
theorem d_Mo_note_97 : decode c_Mo_note 97 = .ok (.getfield 141, 3) := by decide +kernel
theorem d_Mo_note_100 : decode c_Mo_note 100 = .ok (.iconst 1, 1) := by decide +kernel
theorem d_Mo_note_101 : decode c_Mo_note 101 = .ok (.iadd, 1) := by decide +kernel
theorem d_Mo_note_102 : decode c_Mo_note 102 = .ok (.putfield 141, 3) := by decide +kernel
theorem d_Mo_note_105 : decode c_Mo_note 105 = .ok (.return_, 1) := by decide +kernel
theorem d_Mo_lay_0 : decode c_Mo_lay 0 = .ok (.iconst 0, 1) := by decide +kernel
theorem d_Mo_lay_1 : decode c_Mo_lay 1 = .ok (.istore 4, 2) := by decide +kernel
theorem d_Mo_lay_3 : decode c_Mo_lay 3 = .ok (.iload 4, 2) := by decide +kernel
theorem d_Mo_lay_5 : decode c_Mo_lay 5 = .ok (.bipush 43, 2) := by decide +kernel
theorem d_Mo_lay_7 : decode c_Mo_lay 7 = .ok (.if_icmp .ge 25, 3) := by decide +kernel
theorem d_Mo_lay_10 : decode c_Mo_lay 10 = .ok (.aload_n 1, 1) := by decide +kernel
theorem d_Mo_lay_11 : decode c_Mo_lay 11 = .ok (.bipush 43, 2) := by decide +kernel
theorem d_Mo_lay_13 : decode c_Mo_lay 13 = .ok (.iload_n 3, 1) := by decide +kernel
theorem d_Mo_lay_14 : decode c_Mo_lay 14 = .ok (.imul, 1) := by decide +kernel
theorem d_Mo_lay_15 : decode c_Mo_lay 15 = .ok (.iload 4, 2) := by decide +kernel
theorem d_Mo_lay_17 : decode c_Mo_lay 17 = .ok (.iadd, 1) := by decide +kernel
theorem d_Mo_lay_18 : decode c_Mo_lay 18 = .ok (.aload_n 0, 1) := by decide +kernel
theorem d_Mo_lay_19 : decode c_Mo_lay 19 = .ok (.getfield 7, 3) := by decide +kernel
theorem d_Mo_lay_22 : decode c_Mo_lay 22 = .ok (.iload 4, 2) := by decide +kernel
theorem d_Mo_lay_24 : decode c_Mo_lay 24 = .ok (.laload, 1) := by decide +kernel
theorem d_Mo_lay_25 : decode c_Mo_lay 25 = .ok (.lastore, 1) := by decide +kernel
theorem d_Mo_lay_26 : decode c_Mo_lay 26 = .ok (.iinc 4 1, 3) := by decide +kernel
theorem d_Mo_lay_29 : decode c_Mo_lay 29 = .ok (.goto (-26), 3) := by decide +kernel
theorem d_Mo_lay_32 : decode c_Mo_lay 32 = .ok (.iconst 0, 1) := by decide +kernel
theorem d_Mo_lay_33 : decode c_Mo_lay 33 = .ok (.istore 4, 2) := by decide +kernel
theorem d_Mo_lay_35 : decode c_Mo_lay 35 = .ok (.iload 4, 2) := by decide +kernel
theorem d_Mo_lay_37 : decode c_Mo_lay 37 = .ok (.bipush 40, 2) := by decide +kernel
theorem d_Mo_lay_39 : decode c_Mo_lay 39 = .ok (.if_icmp .ge 25, 3) := by decide +kernel
theorem d_Mo_lay_42 : decode c_Mo_lay 42 = .ok (.aload_n 2, 1) := by decide +kernel
theorem d_Mo_lay_43 : decode c_Mo_lay 43 = .ok (.bipush 40, 2) := by decide +kernel
theorem d_Mo_lay_45 : decode c_Mo_lay 45 = .ok (.iload_n 3, 1) := by decide +kernel
theorem d_Mo_lay_46 : decode c_Mo_lay 46 = .ok (.imul, 1) := by decide +kernel
theorem d_Mo_lay_47 : decode c_Mo_lay 47 = .ok (.iload 4, 2) := by decide +kernel
theorem d_Mo_lay_49 : decode c_Mo_lay 49 = .ok (.iadd, 1) := by decide +kernel
theorem d_Mo_lay_50 : decode c_Mo_lay 50 = .ok (.aload_n 0, 1) := by decide +kernel
theorem d_Mo_lay_51 : decode c_Mo_lay 51 = .ok (.getfield 13, 3) := by decide +kernel
theorem d_Mo_lay_54 : decode c_Mo_lay 54 = .ok (.iload 4, 2) := by decide +kernel
theorem d_Mo_lay_56 : decode c_Mo_lay 56 = .ok (.iaload, 1) := by decide +kernel
theorem d_Mo_lay_57 : decode c_Mo_lay 57 = .ok (.iastore, 1) := by decide +kernel
theorem d_Mo_lay_58 : decode c_Mo_lay 58 = .ok (.iinc 4 1, 3) := by decide +kernel
theorem d_Mo_lay_61 : decode c_Mo_lay 61 = .ok (.goto (-26), 3) := by decide +kernel
theorem d_Mo_lay_64 : decode c_Mo_lay 64 = .ok (.return_, 1) := by decide +kernel
theorem d_Mo_become_0 : decode c_Mo_become 0 = .ok (.iconst 0, 1) := by decide +kernel
theorem d_Mo_become_1 : decode c_Mo_become 1 = .ok (.istore 4, 2) := by decide +kernel
theorem d_Mo_become_3 : decode c_Mo_become 3 = .ok (.iload 4, 2) := by decide +kernel
theorem d_Mo_become_5 : decode c_Mo_become 5 = .ok (.bipush 43, 2) := by decide +kernel
theorem d_Mo_become_7 : decode c_Mo_become 7 = .ok (.if_icmp .ge 25, 3) := by decide +kernel
theorem d_Mo_become_10 : decode c_Mo_become 10 = .ok (.aload_n 0, 1) := by decide +kernel
theorem d_Mo_become_11 : decode c_Mo_become 11 = .ok (.getfield 7, 3) := by decide +kernel
theorem d_Mo_become_14 : decode c_Mo_become 14 = .ok (.iload 4, 2) := by decide +kernel
theorem d_Mo_become_16 : decode c_Mo_become 16 = .ok (.aload_n 1, 1) := by decide +kernel
theorem d_Mo_become_17 : decode c_Mo_become 17 = .ok (.bipush 43, 2) := by decide +kernel
theorem d_Mo_become_19 : decode c_Mo_become 19 = .ok (.iload_n 3, 1) := by decide +kernel
theorem d_Mo_become_20 : decode c_Mo_become 20 = .ok (.imul, 1) := by decide +kernel
theorem d_Mo_become_21 : decode c_Mo_become 21 = .ok (.iload 4, 2) := by decide +kernel
theorem d_Mo_become_23 : decode c_Mo_become 23 = .ok (.iadd, 1) := by decide +kernel
theorem d_Mo_become_24 : decode c_Mo_become 24 = .ok (.laload, 1) := by decide +kernel
theorem d_Mo_become_25 : decode c_Mo_become 25 = .ok (.lastore, 1) := by decide +kernel
theorem d_Mo_become_26 : decode c_Mo_become 26 = .ok (.iinc 4 1, 3) := by decide +kernel
theorem d_Mo_become_29 : decode c_Mo_become 29 = .ok (.goto (-26), 3) := by decide +kernel
theorem d_Mo_become_32 : decode c_Mo_become 32 = .ok (.iconst 0, 1) := by decide +kernel
theorem d_Mo_become_33 : decode c_Mo_become 33 = .ok (.istore 4, 2) := by decide +kernel
theorem d_Mo_become_35 : decode c_Mo_become 35 = .ok (.iload 4, 2) := by decide +kernel
theorem d_Mo_become_37 : decode c_Mo_become 37 = .ok (.bipush 40, 2) := by decide +kernel
theorem d_Mo_become_39 : decode c_Mo_become 39 = .ok (.if_icmp .ge 25, 3) := by decide +kernel
theorem d_Mo_become_42 : decode c_Mo_become 42 = .ok (.aload_n 0, 1) := by decide +kernel
theorem d_Mo_become_43 : decode c_Mo_become 43 = .ok (.getfield 13, 3) := by decide +kernel
theorem d_Mo_become_46 : decode c_Mo_become 46 = .ok (.iload 4, 2) := by decide +kernel
theorem d_Mo_become_48 : decode c_Mo_become 48 = .ok (.aload_n 2, 1) := by decide +kernel
theorem d_Mo_become_49 : decode c_Mo_become 49 = .ok (.bipush 40, 2) := by decide +kernel
theorem d_Mo_become_51 : decode c_Mo_become 51 = .ok (.iload_n 3, 1) := by decide +kernel
theorem d_Mo_become_52 : decode c_Mo_become 52 = .ok (.imul, 1) := by decide +kernel
theorem d_Mo_become_53 : decode c_Mo_become 53 = .ok (.iload 4, 2) := by decide +kernel
theorem d_Mo_become_55 : decode c_Mo_become 55 = .ok (.iadd, 1) := by decide +kernel
theorem d_Mo_become_56 : decode c_Mo_become 56 = .ok (.iaload, 1) := by decide +kernel
theorem d_Mo_become_57 : decode c_Mo_become 57 = .ok (.iastore, 1) := by decide +kernel
theorem d_Mo_become_58 : decode c_Mo_become 58 = .ok (.iinc 4 1, 3) := by decide +kernel
theorem d_Mo_become_61 : decode c_Mo_become 61 = .ok (.goto (-26), 3) := by decide +kernel
theorem d_Mo_become_64 : decode c_Mo_become 64 = .ok (.return_, 1) := by decide +kernel
theorem d_Mo_type_0 : decode c_Mo_type 0 = .ok (.iload_n 1, 1) := by decide +kernel
theorem d_Mo_type_1 : decode c_Mo_type 1 = .ok (.i2l, 1) := by decide +kernel
theorem d_Mo_type_2 : decode c_Mo_type 2 = .ok (.lconst 0, 1) := by decide +kernel
theorem d_Mo_type_3 : decode c_Mo_type 3 = .ok (.ldc2_w 159, 3) := by decide +kernel
theorem d_Mo_type_6 : decode c_Mo_type 6 = .ok (.invokestatic 63, 3) := by decide +kernel
theorem d_Mo_type_9 : decode c_Mo_type 9 = .ok (.ifCond .eq 15, 3) := by decide +kernel
theorem d_Mo_type_12 : decode c_Mo_type 12 = .ok (.iload_n 2, 1) := by decide +kernel
theorem d_Mo_type_13 : decode c_Mo_type 13 = .ok (.i2l, 1) := by decide +kernel
theorem d_Mo_type_14 : decode c_Mo_type 14 = .ok (.lconst 0, 1) := by decide +kernel
theorem d_Mo_type_15 : decode c_Mo_type 15 = .ok (.ldc2_w 161, 3) := by decide +kernel
theorem d_Mo_type_18 : decode c_Mo_type 18 = .ok (.invokestatic 63, 3) := by decide +kernel
theorem d_Mo_type_21 : decode c_Mo_type 21 = .ok (.ifCond .ne 6, 3) := by decide +kernel
theorem d_Mo_type_24 : decode c_Mo_type 24 = .ok (.ldc 144, 2) := by decide +kernel
theorem d_Mo_type_26 : decode c_Mo_type 26 = .ok (.ireturn, 1) := by decide +kernel
theorem d_Mo_type_27 : decode c_Mo_type 27 = .ok (.aload_n 0, 1) := by decide +kernel
theorem d_Mo_type_28 : decode c_Mo_type 28 = .ok (.invokevirtual 163, 3) := by decide +kernel
theorem d_Mo_type_31 : decode c_Mo_type 31 = .ok (.aload_n 0, 1) := by decide +kernel
theorem d_Mo_type_32 : decode c_Mo_type 32 = .ok (.getfield 7, 3) := by decide +kernel
theorem d_Mo_type_35 : decode c_Mo_type 35 = .ok (.iconst 0, 1) := by decide +kernel
theorem d_Mo_type_36 : decode c_Mo_type 36 = .ok (.aload_n 0, 1) := by decide +kernel
theorem d_Mo_type_37 : decode c_Mo_type 37 = .ok (.getfield 7, 3) := by decide +kernel
theorem d_Mo_type_40 : decode c_Mo_type 40 = .ok (.iconst 0, 1) := by decide +kernel
theorem d_Mo_type_41 : decode c_Mo_type 41 = .ok (.laload, 1) := by decide +kernel
theorem d_Mo_type_42 : decode c_Mo_type 42 = .ok (.ldc2_w 161, 3) := by decide +kernel
theorem d_Mo_type_45 : decode c_Mo_type 45 = .ok (.bipush 8, 2) := by decide +kernel
theorem d_Mo_type_47 : decode c_Mo_type 47 = .ok (.iload_n 1, 1) := by decide +kernel
theorem d_Mo_type_48 : decode c_Mo_type 48 = .ok (.imul, 1) := by decide +kernel
theorem d_Mo_type_49 : decode c_Mo_type 49 = .ok (.lshl, 1) := by decide +kernel
theorem d_Mo_type_50 : decode c_Mo_type 50 = .ok (.ldc2_w 166, 3) := by decide +kernel
theorem d_Mo_type_53 : decode c_Mo_type 53 = .ok (.lxor, 1) := by decide +kernel
theorem d_Mo_type_54 : decode c_Mo_type 54 = .ok (.land, 1) := by decide +kernel
theorem d_Mo_type_55 : decode c_Mo_type 55 = .ok (.iload_n 2, 1) := by decide +kernel
theorem d_Mo_type_56 : decode c_Mo_type 56 = .ok (.i2l, 1) := by decide +kernel
theorem d_Mo_type_57 : decode c_Mo_type 57 = .ok (.bipush 8, 2) := by decide +kernel
theorem d_Mo_type_59 : decode c_Mo_type 59 = .ok (.iload_n 1, 1) := by decide +kernel
theorem d_Mo_type_60 : decode c_Mo_type 60 = .ok (.imul, 1) := by decide +kernel
theorem d_Mo_type_61 : decode c_Mo_type 61 = .ok (.lshl, 1) := by decide +kernel
theorem d_Mo_type_62 : decode c_Mo_type 62 = .ok (.lor, 1) := by decide +kernel
theorem d_Mo_type_63 : decode c_Mo_type 63 = .ok (.lastore, 1) := by decide +kernel
theorem d_Mo_type_64 : decode c_Mo_type 64 = .ok (.aload_n 0, 1) := by decide +kernel
theorem d_Mo_type_65 : decode c_Mo_type 65 = .ok (.getfield 7, 3) := by decide +kernel
theorem d_Mo_type_68 : decode c_Mo_type 68 = .ok (.iconst 0, 1) := by decide +kernel
theorem d_Mo_type_69 : decode c_Mo_type 69 = .ok (.laload, 1) := by decide +kernel
theorem d_Mo_type_70 : decode c_Mo_type 70 = .ok (.invokestatic 71, 3) := by decide +kernel
theorem d_Mo_type_73 : decode c_Mo_type 73 = .ok (.ireturn, 1) := by decide +kernel
theorem d_Mo_flip_0 : decode c_Mo_flip 0 = .ok (.iload_n 1, 1) := by decide +kernel
theorem d_Mo_flip_1 : decode c_Mo_flip 1 = .ok (.i2l, 1) := by decide +kernel
theorem d_Mo_flip_2 : decode c_Mo_flip 2 = .ok (.lconst 0, 1) := by decide +kernel
theorem d_Mo_flip_3 : decode c_Mo_flip 3 = .ok (.ldc2_w 168, 3) := by decide +kernel
theorem d_Mo_flip_6 : decode c_Mo_flip 6 = .ok (.invokestatic 63, 3) := by decide +kernel
theorem d_Mo_flip_9 : decode c_Mo_flip 9 = .ok (.ifCond .ne 6, 3) := by decide +kernel
theorem d_Mo_flip_12 : decode c_Mo_flip 12 = .ok (.ldc 144, 2) := by decide +kernel
theorem d_Mo_flip_14 : decode c_Mo_flip 14 = .ok (.ireturn, 1) := by decide +kernel
theorem d_Mo_flip_15 : decode c_Mo_flip 15 = .ok (.aload_n 0, 1) := by decide +kernel
theorem d_Mo_flip_16 : decode c_Mo_flip 16 = .ok (.invokevirtual 163, 3) := by decide +kernel
theorem d_Mo_flip_19 : decode c_Mo_flip 19 = .ok (.aload_n 0, 1) := by decide +kernel
theorem d_Mo_flip_20 : decode c_Mo_flip 20 = .ok (.getfield 7, 3) := by decide +kernel
theorem d_Mo_flip_23 : decode c_Mo_flip 23 = .ok (.iconst 0, 1) := by decide +kernel
theorem d_Mo_flip_24 : decode c_Mo_flip 24 = .ok (.aload_n 0, 1) := by decide +kernel
theorem d_Mo_flip_25 : decode c_Mo_flip 25 = .ok (.getfield 7, 3) := by decide +kernel
theorem d_Mo_flip_28 : decode c_Mo_flip 28 = .ok (.iconst 0, 1) := by decide +kernel
theorem d_Mo_flip_29 : decode c_Mo_flip 29 = .ok (.laload, 1) := by decide +kernel
theorem d_Mo_flip_30 : decode c_Mo_flip 30 = .ok (.lconst 1, 1) := by decide +kernel
theorem d_Mo_flip_31 : decode c_Mo_flip 31 = .ok (.iload_n 1, 1) := by decide +kernel
theorem d_Mo_flip_32 : decode c_Mo_flip 32 = .ok (.lshl, 1) := by decide +kernel
theorem d_Mo_flip_33 : decode c_Mo_flip 33 = .ok (.lxor, 1) := by decide +kernel
theorem d_Mo_flip_34 : decode c_Mo_flip 34 = .ok (.lastore, 1) := by decide +kernel
theorem d_Mo_flip_35 : decode c_Mo_flip 35 = .ok (.aload_n 0, 1) := by decide +kernel
theorem d_Mo_flip_36 : decode c_Mo_flip 36 = .ok (.getfield 7, 3) := by decide +kernel
theorem d_Mo_flip_39 : decode c_Mo_flip 39 = .ok (.iconst 0, 1) := by decide +kernel
theorem d_Mo_flip_40 : decode c_Mo_flip 40 = .ok (.laload, 1) := by decide +kernel
theorem d_Mo_flip_41 : decode c_Mo_flip 41 = .ok (.invokestatic 71, 3) := by decide +kernel
theorem d_Mo_flip_44 : decode c_Mo_flip 44 = .ok (.ireturn, 1) := by decide +kernel
theorem d_Mo_row_0 : decode c_Mo_row 0 = .ok (.aload_n 0, 1) := by decide +kernel
theorem d_Mo_row_1 : decode c_Mo_row 1 = .ok (.getfield 7, 3) := by decide +kernel
theorem d_Mo_row_4 : decode c_Mo_row 4 = .ok (.iconst 0, 1) := by decide +kernel
theorem d_Mo_row_5 : decode c_Mo_row 5 = .ok (.laload, 1) := by decide +kernel
theorem d_Mo_row_6 : decode c_Mo_row 6 = .ok (.ldc2_w 161, 3) := by decide +kernel
theorem d_Mo_row_9 : decode c_Mo_row 9 = .ok (.land, 1) := by decide +kernel
theorem d_Mo_row_10 : decode c_Mo_row 10 = .ok (.l2i, 1) := by decide +kernel
theorem d_Mo_row_11 : decode c_Mo_row 11 = .ok (.ireturn, 1) := by decide +kernel
theorem d_Mo_turn_0 : decode c_Mo_turn 0 = .ok (.aload_n 0, 1) := by decide +kernel
theorem d_Mo_turn_1 : decode c_Mo_turn 1 = .ok (.invokevirtual 163, 3) := by decide +kernel
theorem d_Mo_turn_4 : decode c_Mo_turn 4 = .ok (.lconst 0, 1) := by decide +kernel
theorem d_Mo_turn_5 : decode c_Mo_turn 5 = .ok (.lstore_n 1, 1) := by decide +kernel
theorem d_Mo_turn_6 : decode c_Mo_turn 6 = .ok (.iconst 0, 1) := by decide +kernel
theorem d_Mo_turn_7 : decode c_Mo_turn 7 = .ok (.istore_n 3, 1) := by decide +kernel
theorem d_Mo_turn_8 : decode c_Mo_turn 8 = .ok (.iload_n 3, 1) := by decide +kernel
end
section
theorem d_Mo_turn_9 : decode c_Mo_turn 9 = .ok (.bipush 64, 2) := by decide +kernel
theorem d_Mo_turn_11 : decode c_Mo_turn 11 = .ok (.if_icmp .ge 46, 3) := by decide +kernel
theorem d_Mo_turn_14 : decode c_Mo_turn 14 = .ok (.lload_n 1, 1) := by decide +kernel
theorem d_Mo_turn_15 : decode c_Mo_turn 15 = .ok (.aload_n 0, 1) := by decide +kernel
theorem d_Mo_turn_16 : decode c_Mo_turn 16 = .ok (.getfield 7, 3) := by decide +kernel
theorem d_Mo_turn_19 : decode c_Mo_turn 19 = .ok (.iconst 0, 1) := by decide +kernel
theorem d_Mo_turn_20 : decode c_Mo_turn 20 = .ok (.laload, 1) := by decide +kernel
theorem d_Mo_turn_21 : decode c_Mo_turn 21 = .ok (.iload_n 3, 1) := by decide +kernel
theorem d_Mo_turn_22 : decode c_Mo_turn 22 = .ok (.invokestatic 75, 3) := by decide +kernel
theorem d_Mo_turn_25 : decode c_Mo_turn 25 = .ok (.ifCond .eq 23, 3) := by decide +kernel
theorem d_Mo_turn_28 : decode c_Mo_turn 28 = .ok (.lconst 1, 1) := by decide +kernel
theorem d_Mo_turn_29 : decode c_Mo_turn 29 = .ok (.bipush 8, 2) := by decide +kernel
theorem d_Mo_turn_31 : decode c_Mo_turn 31 = .ok (.iload_n 3, 1) := by decide +kernel
theorem d_Mo_turn_32 : decode c_Mo_turn 32 = .ok (.bipush 8, 2) := by decide +kernel
theorem d_Mo_turn_34 : decode c_Mo_turn 34 = .ok (.irem, 1) := by decide +kernel
theorem d_Mo_turn_35 : decode c_Mo_turn 35 = .ok (.imul, 1) := by decide +kernel
theorem d_Mo_turn_36 : decode c_Mo_turn 36 = .ok (.bipush 7, 2) := by decide +kernel
theorem d_Mo_turn_38 : decode c_Mo_turn 38 = .ok (.iadd, 1) := by decide +kernel
theorem d_Mo_turn_39 : decode c_Mo_turn 39 = .ok (.iload_n 3, 1) := by decide +kernel
theorem d_Mo_turn_40 : decode c_Mo_turn 40 = .ok (.bipush 8, 2) := by decide +kernel
theorem d_Mo_turn_42 : decode c_Mo_turn 42 = .ok (.idiv, 1) := by decide +kernel
theorem d_Mo_turn_43 : decode c_Mo_turn 43 = .ok (.isub, 1) := by decide +kernel
theorem d_Mo_turn_44 : decode c_Mo_turn 44 = .ok (.lshl, 1) := by decide +kernel
theorem d_Mo_turn_45 : decode c_Mo_turn 45 = .ok (.goto 4, 3) := by decide +kernel
theorem d_Mo_turn_48 : decode c_Mo_turn 48 = .ok (.lconst 0, 1) := by decide +kernel
theorem d_Mo_turn_49 : decode c_Mo_turn 49 = .ok (.lor, 1) := by decide +kernel
theorem d_Mo_turn_50 : decode c_Mo_turn 50 = .ok (.lstore_n 1, 1) := by decide +kernel
theorem d_Mo_turn_51 : decode c_Mo_turn 51 = .ok (.iinc 3 1, 3) := by decide +kernel
theorem d_Mo_turn_54 : decode c_Mo_turn 54 = .ok (.goto (-46), 3) := by decide +kernel
theorem d_Mo_turn_57 : decode c_Mo_turn 57 = .ok (.aload_n 0, 1) := by decide +kernel
theorem d_Mo_turn_58 : decode c_Mo_turn 58 = .ok (.getfield 7, 3) := by decide +kernel
theorem d_Mo_turn_61 : decode c_Mo_turn 61 = .ok (.iconst 0, 1) := by decide +kernel
theorem d_Mo_turn_62 : decode c_Mo_turn 62 = .ok (.lload_n 1, 1) := by decide +kernel
theorem d_Mo_turn_63 : decode c_Mo_turn 63 = .ok (.lastore, 1) := by decide +kernel
theorem d_Mo_turn_64 : decode c_Mo_turn 64 = .ok (.aload_n 0, 1) := by decide +kernel
theorem d_Mo_turn_65 : decode c_Mo_turn 65 = .ok (.invokevirtual 170, 3) := by decide +kernel
theorem d_Mo_turn_68 : decode c_Mo_turn 68 = .ok (.ireturn, 1) := by decide +kernel
theorem d_Mo_mirror_0 : decode c_Mo_mirror 0 = .ok (.aload_n 0, 1) := by decide +kernel
theorem d_Mo_mirror_1 : decode c_Mo_mirror 1 = .ok (.invokevirtual 163, 3) := by decide +kernel
theorem d_Mo_mirror_4 : decode c_Mo_mirror 4 = .ok (.lconst 0, 1) := by decide +kernel
theorem d_Mo_mirror_5 : decode c_Mo_mirror 5 = .ok (.lstore_n 1, 1) := by decide +kernel
theorem d_Mo_mirror_6 : decode c_Mo_mirror 6 = .ok (.iconst 0, 1) := by decide +kernel
theorem d_Mo_mirror_7 : decode c_Mo_mirror 7 = .ok (.istore_n 3, 1) := by decide +kernel
theorem d_Mo_mirror_8 : decode c_Mo_mirror 8 = .ok (.iload_n 3, 1) := by decide +kernel
theorem d_Mo_mirror_9 : decode c_Mo_mirror 9 = .ok (.bipush 64, 2) := by decide +kernel
theorem d_Mo_mirror_11 : decode c_Mo_mirror 11 = .ok (.if_icmp .ge 46, 3) := by decide +kernel
theorem d_Mo_mirror_14 : decode c_Mo_mirror 14 = .ok (.lload_n 1, 1) := by decide +kernel
theorem d_Mo_mirror_15 : decode c_Mo_mirror 15 = .ok (.aload_n 0, 1) := by decide +kernel
theorem d_Mo_mirror_16 : decode c_Mo_mirror 16 = .ok (.getfield 7, 3) := by decide +kernel
theorem d_Mo_mirror_19 : decode c_Mo_mirror 19 = .ok (.iconst 0, 1) := by decide +kernel
theorem d_Mo_mirror_20 : decode c_Mo_mirror 20 = .ok (.laload, 1) := by decide +kernel
theorem d_Mo_mirror_21 : decode c_Mo_mirror 21 = .ok (.iload_n 3, 1) := by decide +kernel
theorem d_Mo_mirror_22 : decode c_Mo_mirror 22 = .ok (.invokestatic 75, 3) := by decide +kernel
theorem d_Mo_mirror_25 : decode c_Mo_mirror 25 = .ok (.ifCond .eq 23, 3) := by decide +kernel
theorem d_Mo_mirror_28 : decode c_Mo_mirror 28 = .ok (.lconst 1, 1) := by decide +kernel
theorem d_Mo_mirror_29 : decode c_Mo_mirror 29 = .ok (.iload_n 3, 1) := by decide +kernel
theorem d_Mo_mirror_30 : decode c_Mo_mirror 30 = .ok (.bipush 8, 2) := by decide +kernel
theorem d_Mo_mirror_32 : decode c_Mo_mirror 32 = .ok (.idiv, 1) := by decide +kernel
theorem d_Mo_mirror_33 : decode c_Mo_mirror 33 = .ok (.bipush 8, 2) := by decide +kernel
theorem d_Mo_mirror_35 : decode c_Mo_mirror 35 = .ok (.imul, 1) := by decide +kernel
theorem d_Mo_mirror_36 : decode c_Mo_mirror 36 = .ok (.bipush 7, 2) := by decide +kernel
theorem d_Mo_mirror_38 : decode c_Mo_mirror 38 = .ok (.iadd, 1) := by decide +kernel
theorem d_Mo_mirror_39 : decode c_Mo_mirror 39 = .ok (.iload_n 3, 1) := by decide +kernel
theorem d_Mo_mirror_40 : decode c_Mo_mirror 40 = .ok (.bipush 8, 2) := by decide +kernel
theorem d_Mo_mirror_42 : decode c_Mo_mirror 42 = .ok (.irem, 1) := by decide +kernel
theorem d_Mo_mirror_43 : decode c_Mo_mirror 43 = .ok (.isub, 1) := by decide +kernel
theorem d_Mo_mirror_44 : decode c_Mo_mirror 44 = .ok (.lshl, 1) := by decide +kernel
theorem d_Mo_mirror_45 : decode c_Mo_mirror 45 = .ok (.goto 4, 3) := by decide +kernel
theorem d_Mo_mirror_48 : decode c_Mo_mirror 48 = .ok (.lconst 0, 1) := by decide +kernel
theorem d_Mo_mirror_49 : decode c_Mo_mirror 49 = .ok (.lor, 1) := by decide +kernel
theorem d_Mo_mirror_50 : decode c_Mo_mirror 50 = .ok (.lstore_n 1, 1) := by decide +kernel
theorem d_Mo_mirror_51 : decode c_Mo_mirror 51 = .ok (.iinc 3 1, 3) := by decide +kernel
theorem d_Mo_mirror_54 : decode c_Mo_mirror 54 = .ok (.goto (-46), 3) := by decide +kernel
theorem d_Mo_mirror_57 : decode c_Mo_mirror 57 = .ok (.aload_n 0, 1) := by decide +kernel
theorem d_Mo_mirror_58 : decode c_Mo_mirror 58 = .ok (.getfield 7, 3) := by decide +kernel
theorem d_Mo_mirror_61 : decode c_Mo_mirror 61 = .ok (.iconst 0, 1) := by decide +kernel
theorem d_Mo_mirror_62 : decode c_Mo_mirror 62 = .ok (.lload_n 1, 1) := by decide +kernel
theorem d_Mo_mirror_63 : decode c_Mo_mirror 63 = .ok (.lastore, 1) := by decide +kernel
theorem d_Mo_mirror_64 : decode c_Mo_mirror 64 = .ok (.aload_n 0, 1) := by decide +kernel
theorem d_Mo_mirror_65 : decode c_Mo_mirror 65 = .ok (.invokevirtual 170, 3) := by decide +kernel
theorem d_Mo_mirror_68 : decode c_Mo_mirror 68 = .ok (.ireturn, 1) := by decide +kernel
theorem d_Mo_hold_0 : decode c_Mo_hold 0 = .ok (.aload_n 0, 1) := by decide +kernel
theorem d_Mo_hold_1 : decode c_Mo_hold 1 = .ok (.iload_n 1, 1) := by decide +kernel
theorem d_Mo_hold_2 : decode c_Mo_hold 2 = .ok (.invokevirtual 114, 3) := by decide +kernel
theorem d_Mo_hold_5 : decode c_Mo_hold 5 = .ok (.ifCond .ne 6, 3) := by decide +kernel
theorem d_Mo_hold_8 : decode c_Mo_hold 8 = .ok (.ldc 145, 2) := by decide +kernel
theorem d_Mo_hold_10 : decode c_Mo_hold 10 = .ok (.ireturn, 1) := by decide +kernel
theorem d_Mo_hold_11 : decode c_Mo_hold 11 = .ok (.aload_n 0, 1) := by decide +kernel
theorem d_Mo_hold_12 : decode c_Mo_hold 12 = .ok (.iload_n 1, 1) := by decide +kernel
theorem d_Mo_hold_13 : decode c_Mo_hold 13 = .ok (.invokevirtual 82, 3) := by decide +kernel
theorem d_Mo_hold_16 : decode c_Mo_hold 16 = .ok (.istore_n 2, 1) := by decide +kernel
theorem d_Mo_hold_17 : decode c_Mo_hold 17 = .ok (.aload_n 0, 1) := by decide +kernel
theorem d_Mo_hold_18 : decode c_Mo_hold 18 = .ok (.invokevirtual 163, 3) := by decide +kernel
theorem d_Mo_hold_21 : decode c_Mo_hold 21 = .ok (.aload_n 0, 1) := by decide +kernel
theorem d_Mo_hold_22 : decode c_Mo_hold 22 = .ok (.getfield 7, 3) := by decide +kernel
theorem d_Mo_hold_25 : decode c_Mo_hold 25 = .ok (.iconst 0, 1) := by decide +kernel
theorem d_Mo_hold_26 : decode c_Mo_hold 26 = .ok (.aload_n 0, 1) := by decide +kernel
theorem d_Mo_hold_27 : decode c_Mo_hold 27 = .ok (.iload_n 1, 1) := by decide +kernel
theorem d_Mo_hold_28 : decode c_Mo_hold 28 = .ok (.invokevirtual 67, 3) := by decide +kernel
theorem d_Mo_hold_31 : decode c_Mo_hold 31 = .ok (.lastore, 1) := by decide +kernel
theorem d_Mo_hold_32 : decode c_Mo_hold 32 = .ok (.iload_n 2, 1) := by decide +kernel
theorem d_Mo_hold_33 : decode c_Mo_hold 33 = .ok (.ireturn, 1) := by decide +kernel
theorem d_Mo_add_0 : decode c_Mo_add 0 = .ok (.aload_n 0, 1) := by decide +kernel
theorem d_Mo_add_1 : decode c_Mo_add 1 = .ok (.getfield 7, 3) := by decide +kernel
theorem d_Mo_add_4 : decode c_Mo_add 4 = .ok (.iconst 3, 1) := by decide +kernel
theorem d_Mo_add_5 : decode c_Mo_add 5 = .ok (.aload_n 0, 1) := by decide +kernel
theorem d_Mo_add_6 : decode c_Mo_add 6 = .ok (.invokevirtual 59, 3) := by decide +kernel
theorem d_Mo_add_9 : decode c_Mo_add 9 = .ok (.iadd, 1) := by decide +kernel
theorem d_Mo_add_10 : decode c_Mo_add 10 = .ok (.aload_n 0, 1) := by decide +kernel
theorem d_Mo_add_11 : decode c_Mo_add 11 = .ok (.getfield 7, 3) := by decide +kernel
theorem d_Mo_add_14 : decode c_Mo_add 14 = .ok (.iconst 0, 1) := by decide +kernel
theorem d_Mo_add_15 : decode c_Mo_add 15 = .ok (.laload, 1) := by decide +kernel
theorem d_Mo_add_16 : decode c_Mo_add 16 = .ok (.lastore, 1) := by decide +kernel
theorem d_Mo_add_17 : decode c_Mo_add 17 = .ok (.aload_n 0, 1) := by decide +kernel
theorem d_Mo_add_18 : decode c_Mo_add 18 = .ok (.getfield 13, 3) := by decide +kernel
theorem d_Mo_add_21 : decode c_Mo_add 21 = .ok (.aload_n 0, 1) := by decide +kernel
theorem d_Mo_add_22 : decode c_Mo_add 22 = .ok (.invokevirtual 59, 3) := by decide +kernel
theorem d_Mo_add_25 : decode c_Mo_add 25 = .ok (.iload_n 1, 1) := by decide +kernel
theorem d_Mo_add_26 : decode c_Mo_add 26 = .ok (.iastore, 1) := by decide +kernel
theorem d_Mo_add_27 : decode c_Mo_add 27 = .ok (.aload_n 0, 1) := by decide +kernel
theorem d_Mo_add_28 : decode c_Mo_add 28 = .ok (.getfield 7, 3) := by decide +kernel
theorem d_Mo_add_31 : decode c_Mo_add 31 = .ok (.iconst 2, 1) := by decide +kernel
theorem d_Mo_add_32 : decode c_Mo_add 32 = .ok (.dup2, 1) := by decide +kernel
theorem d_Mo_add_33 : decode c_Mo_add 33 = .ok (.laload, 1) := by decide +kernel
theorem d_Mo_add_34 : decode c_Mo_add 34 = .ok (.lconst 1, 1) := by decide +kernel
theorem d_Mo_add_35 : decode c_Mo_add 35 = .ok (.ladd, 1) := by decide +kernel
theorem d_Mo_add_36 : decode c_Mo_add 36 = .ok (.lastore, 1) := by decide +kernel
theorem d_Mo_add_37 : decode c_Mo_add 37 = .ok (.return_, 1) := by decide +kernel
theorem d_Mo_put_0 : decode c_Mo_put 0 = .ok (.iload_n 1, 1) := by decide +kernel
theorem d_Mo_put_1 : decode c_Mo_put 1 = .ok (.i2l, 1) := by decide +kernel
theorem d_Mo_put_2 : decode c_Mo_put 2 = .ok (.lconst 0, 1) := by decide +kernel
theorem d_Mo_put_3 : decode c_Mo_put 3 = .ok (.ldc2_w 173, 3) := by decide +kernel
theorem d_Mo_put_6 : decode c_Mo_put 6 = .ok (.invokestatic 63, 3) := by decide +kernel
theorem d_Mo_put_9 : decode c_Mo_put 9 = .ok (.ifCond .ne 6, 3) := by decide +kernel
theorem d_Mo_put_12 : decode c_Mo_put 12 = .ok (.ldc 144, 2) := by decide +kernel
theorem d_Mo_put_14 : decode c_Mo_put 14 = .ok (.ireturn, 1) := by decide +kernel
theorem d_Mo_put_15 : decode c_Mo_put 15 = .ok (.aload_n 0, 1) := by decide +kernel
theorem d_Mo_put_16 : decode c_Mo_put 16 = .ok (.aload_n 0, 1) := by decide +kernel
theorem d_Mo_put_17 : decode c_Mo_put 17 = .ok (.getfield 7, 3) := by decide +kernel
theorem d_Mo_put_20 : decode c_Mo_put 20 = .ok (.iconst 0, 1) := by decide +kernel
theorem d_Mo_put_21 : decode c_Mo_put 21 = .ok (.laload, 1) := by decide +kernel
theorem d_Mo_put_22 : decode c_Mo_put 22 = .ok (.invokevirtual 120, 3) := by decide +kernel
theorem d_Mo_put_25 : decode c_Mo_put 25 = .ok (.iconst (-1), 1) := by decide +kernel
theorem d_Mo_put_26 : decode c_Mo_put 26 = .ok (.if_icmp .eq 6, 3) := by decide +kernel
theorem d_Mo_put_29 : decode c_Mo_put 29 = .ok (.ldc 175, 2) := by decide +kernel
theorem d_Mo_put_31 : decode c_Mo_put 31 = .ok (.ireturn, 1) := by decide +kernel
theorem d_Mo_put_32 : decode c_Mo_put 32 = .ok (.aload_n 0, 1) := by decide +kernel
theorem d_Mo_put_33 : decode c_Mo_put 33 = .ok (.invokevirtual 59, 3) := by decide +kernel
theorem d_Mo_put_36 : decode c_Mo_put 36 = .ok (.bipush 40, 2) := by decide +kernel
theorem d_Mo_put_38 : decode c_Mo_put 38 = .ok (.if_icmp .ne 6, 3) := by decide +kernel
theorem d_Mo_put_41 : decode c_Mo_put 41 = .ok (.ldc 176, 2) := by decide +kernel
theorem d_Mo_put_43 : decode c_Mo_put 43 = .ok (.ireturn, 1) := by decide +kernel
theorem d_Mo_put_44 : decode c_Mo_put 44 = .ok (.aload_n 0, 1) := by decide +kernel
theorem d_Mo_put_45 : decode c_Mo_put 45 = .ok (.invokevirtual 163, 3) := by decide +kernel
theorem d_Mo_put_48 : decode c_Mo_put 48 = .ok (.aload_n 0, 1) := by decide +kernel
theorem d_Mo_put_49 : decode c_Mo_put 49 = .ok (.iload_n 1, 1) := by decide +kernel
theorem d_Mo_put_50 : decode c_Mo_put 50 = .ok (.invokevirtual 177, 3) := by decide +kernel
theorem d_Mo_put_53 : decode c_Mo_put 53 = .ok (.aload_n 0, 1) := by decide +kernel
theorem d_Mo_put_54 : decode c_Mo_put 54 = .ok (.invokevirtual 59, 3) := by decide +kernel
theorem d_Mo_put_57 : decode c_Mo_put 57 = .ok (.iconst 1, 1) := by decide +kernel
theorem d_Mo_put_58 : decode c_Mo_put 58 = .ok (.isub, 1) := by decide +kernel
theorem d_Mo_put_59 : decode c_Mo_put 59 = .ok (.ireturn, 1) := by decide +kernel
theorem d_Mo_cut_0 : decode c_Mo_cut 0 = .ok (.lload_n 1, 1) := by decide +kernel
theorem d_Mo_cut_1 : decode c_Mo_cut 1 = .ok (.iconst 0, 1) := by decide +kernel
theorem d_Mo_cut_2 : decode c_Mo_cut 2 = .ok (.invokestatic 75, 3) := by decide +kernel
theorem d_Mo_cut_5 : decode c_Mo_cut 5 = .ok (.ifCond .eq 12, 3) := by decide +kernel
theorem d_Mo_cut_8 : decode c_Mo_cut 8 = .ok (.lload_n 1, 1) := by decide +kernel
theorem d_Mo_cut_9 : decode c_Mo_cut 9 = .ok (.invokestatic 71, 3) := by decide +kernel
theorem d_Mo_cut_12 : decode c_Mo_cut 12 = .ok (.bipush 8, 2) := by decide +kernel
theorem d_Mo_cut_14 : decode c_Mo_cut 14 = .ok (.if_icmp .le 6, 3) := by decide +kernel
theorem d_Mo_cut_17 : decode c_Mo_cut 17 = .ok (.ldc 144, 2) := by decide +kernel
theorem d_Mo_cut_19 : decode c_Mo_cut 19 = .ok (.ireturn, 1) := by decide +kernel
theorem d_Mo_cut_20 : decode c_Mo_cut 20 = .ok (.aload_n 0, 1) := by decide +kernel
theorem d_Mo_cut_21 : decode c_Mo_cut 21 = .ok (.invokevirtual 163, 3) := by decide +kernel
theorem d_Mo_cut_24 : decode c_Mo_cut 24 = .ok (.aload_n 0, 1) := by decide +kernel
theorem d_Mo_cut_25 : decode c_Mo_cut 25 = .ok (.getfield 7, 3) := by decide +kernel
theorem d_Mo_cut_28 : decode c_Mo_cut 28 = .ok (.iconst 1, 1) := by decide +kernel
theorem d_Mo_cut_29 : decode c_Mo_cut 29 = .ok (.lload_n 1, 1) := by decide +kernel
theorem d_Mo_cut_30 : decode c_Mo_cut 30 = .ok (.lastore, 1) := by decide +kernel
theorem d_Mo_cut_31 : decode c_Mo_cut 31 = .ok (.aload_n 0, 1) := by decide +kernel
theorem d_Mo_cut_32 : decode c_Mo_cut 32 = .ok (.invokevirtual 86, 3) := by decide +kernel
theorem d_Mo_cut_35 : decode c_Mo_cut 35 = .ok (.iconst 1, 1) := by decide +kernel
theorem d_Mo_cut_36 : decode c_Mo_cut 36 = .ok (.isub, 1) := by decide +kernel
theorem d_Mo_cut_37 : decode c_Mo_cut 37 = .ok (.ireturn, 1) := by decide +kernel
theorem d_Mo_take_0 : decode c_Mo_take 0 = .ok (.aload_n 0, 1) := by decide +kernel
theorem d_Mo_take_1 : decode c_Mo_take 1 = .ok (.iload_n 1, 1) := by decide +kernel
theorem d_Mo_take_2 : decode c_Mo_take 2 = .ok (.invokevirtual 114, 3) := by decide +kernel
theorem d_Mo_take_5 : decode c_Mo_take 5 = .ok (.ifCond .ne 6, 3) := by decide +kernel
theorem d_Mo_take_8 : decode c_Mo_take 8 = .ok (.ldc 145, 2) := by decide +kernel
theorem d_Mo_take_10 : decode c_Mo_take 10 = .ok (.ireturn, 1) := by decide +kernel
theorem d_Mo_take_11 : decode c_Mo_take 11 = .ok (.aload_n 0, 1) := by decide +kernel
theorem d_Mo_take_12 : decode c_Mo_take 12 = .ok (.invokevirtual 163, 3) := by decide +kernel
theorem d_Mo_take_15 : decode c_Mo_take 15 = .ok (.aload_n 0, 1) := by decide +kernel
theorem d_Mo_take_16 : decode c_Mo_take 16 = .ok (.invokevirtual 59, 3) := by decide +kernel
theorem d_Mo_take_19 : decode c_Mo_take 19 = .ok (.iconst 1, 1) := by decide +kernel
theorem d_Mo_take_20 : decode c_Mo_take 20 = .ok (.isub, 1) := by decide +kernel
theorem d_Mo_take_21 : decode c_Mo_take 21 = .ok (.istore_n 2, 1) := by decide +kernel
theorem d_Mo_take_22 : decode c_Mo_take 22 = .ok (.iload_n 1, 1) := by decide +kernel
theorem d_Mo_take_23 : decode c_Mo_take 23 = .ok (.istore_n 3, 1) := by decide +kernel
theorem d_Mo_take_24 : decode c_Mo_take 24 = .ok (.iload_n 3, 1) := by decide +kernel
theorem d_Mo_take_25 : decode c_Mo_take 25 = .ok (.iload_n 2, 1) := by decide +kernel
theorem d_Mo_take_26 : decode c_Mo_take 26 = .ok (.if_icmp .ge 39, 3) := by decide +kernel
theorem d_Mo_take_29 : decode c_Mo_take 29 = .ok (.aload_n 0, 1) := by decide +kernel
theorem d_Mo_take_30 : decode c_Mo_take 30 = .ok (.getfield 7, 3) := by decide +kernel
theorem d_Mo_take_33 : decode c_Mo_take 33 = .ok (.iconst 3, 1) := by decide +kernel
theorem d_Mo_take_34 : decode c_Mo_take 34 = .ok (.iload_n 3, 1) := by decide +kernel
theorem d_Mo_take_35 : decode c_Mo_take 35 = .ok (.iadd, 1) := by decide +kernel
theorem d_Mo_take_36 : decode c_Mo_take 36 = .ok (.aload_n 0, 1) := by decide +kernel
theorem d_Mo_take_37 : decode c_Mo_take 37 = .ok (.getfield 7, 3) := by decide +kernel
theorem d_Mo_take_40 : decode c_Mo_take 40 = .ok (.iconst 4, 1) := by decide +kernel
theorem d_Mo_take_41 : decode c_Mo_take 41 = .ok (.iload_n 3, 1) := by decide +kernel
theorem d_Mo_take_42 : decode c_Mo_take 42 = .ok (.iadd, 1) := by decide +kernel
theorem d_Mo_take_43 : decode c_Mo_take 43 = .ok (.laload, 1) := by decide +kernel
theorem d_Mo_take_44 : decode c_Mo_take 44 = .ok (.lastore, 1) := by decide +kernel
theorem d_Mo_take_45 : decode c_Mo_take 45 = .ok (.aload_n 0, 1) := by decide +kernel
theorem d_Mo_take_46 : decode c_Mo_take 46 = .ok (.getfield 13, 3) := by decide +kernel
theorem d_Mo_take_49 : decode c_Mo_take 49 = .ok (.iload_n 3, 1) := by decide +kernel
theorem d_Mo_take_50 : decode c_Mo_take 50 = .ok (.aload_n 0, 1) := by decide +kernel
theorem d_Mo_take_51 : decode c_Mo_take 51 = .ok (.getfield 13, 3) := by decide +kernel
theorem d_Mo_take_54 : decode c_Mo_take 54 = .ok (.iload_n 3, 1) := by decide +kernel
theorem d_Mo_take_55 : decode c_Mo_take 55 = .ok (.iconst 1, 1) := by decide +kernel
theorem d_Mo_take_56 : decode c_Mo_take 56 = .ok (.iadd, 1) := by decide +kernel
theorem d_Mo_take_57 : decode c_Mo_take 57 = .ok (.iaload, 1) := by decide +kernel
theorem d_Mo_take_58 : decode c_Mo_take 58 = .ok (.iastore, 1) := by decide +kernel
theorem d_Mo_take_59 : decode c_Mo_take 59 = .ok (.iinc 3 1, 3) := by decide +kernel
theorem d_Mo_take_62 : decode c_Mo_take 62 = .ok (.goto (-38), 3) := by decide +kernel
theorem d_Mo_take_65 : decode c_Mo_take 65 = .ok (.aload_n 0, 1) := by decide +kernel
theorem d_Mo_take_66 : decode c_Mo_take 66 = .ok (.getfield 7, 3) := by decide +kernel
theorem d_Mo_take_69 : decode c_Mo_take 69 = .ok (.iconst 3, 1) := by decide +kernel
theorem d_Mo_take_70 : decode c_Mo_take 70 = .ok (.iload_n 2, 1) := by decide +kernel
theorem d_Mo_take_71 : decode c_Mo_take 71 = .ok (.iadd, 1) := by decide +kernel
theorem d_Mo_take_72 : decode c_Mo_take 72 = .ok (.lconst 0, 1) := by decide +kernel
theorem d_Mo_take_73 : decode c_Mo_take 73 = .ok (.lastore, 1) := by decide +kernel
theorem d_Mo_take_74 : decode c_Mo_take 74 = .ok (.aload_n 0, 1) := by decide +kernel
theorem d_Mo_take_75 : decode c_Mo_take 75 = .ok (.getfield 13, 3) := by decide +kernel
theorem d_Mo_take_78 : decode c_Mo_take 78 = .ok (.iload_n 2, 1) := by decide +kernel
theorem d_Mo_take_79 : decode c_Mo_take 79 = .ok (.iconst 0, 1) := by decide +kernel
theorem d_Mo_take_80 : decode c_Mo_take 80 = .ok (.iastore, 1) := by decide +kernel
theorem d_Mo_take_81 : decode c_Mo_take 81 = .ok (.aload_n 0, 1) := by decide +kernel
theorem d_Mo_take_82 : decode c_Mo_take 82 = .ok (.getfield 7, 3) := by decide +kernel
theorem d_Mo_take_85 : decode c_Mo_take 85 = .ok (.iconst 2, 1) := by decide +kernel
theorem d_Mo_take_86 : decode c_Mo_take 86 = .ok (.dup2, 1) := by decide +kernel
theorem d_Mo_take_87 : decode c_Mo_take 87 = .ok (.laload, 1) := by decide +kernel
theorem d_Mo_take_88 : decode c_Mo_take 88 = .ok (.lconst 1, 1) := by decide +kernel
theorem d_Mo_take_89 : decode c_Mo_take 89 = .ok (.lsub, 1) := by decide +kernel
theorem d_Mo_take_90 : decode c_Mo_take 90 = .ok (.lastore, 1) := by decide +kernel
theorem d_Mo_take_91 : decode c_Mo_take 91 = .ok (.iload_n 2, 1) := by decide +kernel
theorem d_Mo_take_92 : decode c_Mo_take 92 = .ok (.ireturn, 1) := by decide +kernel
theorem d_Mo_kind_0 : decode c_Mo_kind 0 = .ok (.aload_n 0, 1) := by decide +kernel
theorem d_Mo_kind_1 : decode c_Mo_kind 1 = .ok (.iload_n 1, 1) := by decide +kernel
theorem d_Mo_kind_2 : decode c_Mo_kind 2 = .ok (.invokevirtual 114, 3) := by decide +kernel
theorem d_Mo_kind_5 : decode c_Mo_kind 5 = .ok (.ifCond .ne 6, 3) := by decide +kernel
theorem d_Mo_kind_8 : decode c_Mo_kind 8 = .ok (.ldc 145, 2) := by decide +kernel
theorem d_Mo_kind_10 : decode c_Mo_kind 10 = .ok (.ireturn, 1) := by decide +kernel
theorem d_Mo_kind_11 : decode c_Mo_kind 11 = .ok (.iload_n 2, 1) := by decide +kernel
theorem d_Mo_kind_12 : decode c_Mo_kind 12 = .ok (.i2l, 1) := by decide +kernel
theorem d_Mo_kind_13 : decode c_Mo_kind 13 = .ok (.lconst 0, 1) := by decide +kernel
theorem d_Mo_kind_14 : decode c_Mo_kind 14 = .ok (.ldc2_w 173, 3) := by decide +kernel
theorem d_Mo_kind_17 : decode c_Mo_kind 17 = .ok (.invokestatic 63, 3) := by decide +kernel
theorem d_Mo_kind_20 : decode c_Mo_kind 20 = .ok (.ifCond .ne 6, 3) := by decide +kernel
theorem d_Mo_kind_23 : decode c_Mo_kind 23 = .ok (.ldc 144, 2) := by decide +kernel
theorem d_Mo_kind_25 : decode c_Mo_kind 25 = .ok (.ireturn, 1) := by decide +kernel
theorem d_Mo_kind_26 : decode c_Mo_kind 26 = .ok (.aload_n 0, 1) := by decide +kernel
theorem d_Mo_kind_27 : decode c_Mo_kind 27 = .ok (.invokevirtual 163, 3) := by decide +kernel
theorem d_Mo_kind_30 : decode c_Mo_kind 30 = .ok (.aload_n 0, 1) := by decide +kernel
theorem d_Mo_kind_31 : decode c_Mo_kind 31 = .ok (.getfield 13, 3) := by decide +kernel
theorem d_Mo_kind_34 : decode c_Mo_kind 34 = .ok (.iload_n 1, 1) := by decide +kernel
theorem d_Mo_kind_35 : decode c_Mo_kind 35 = .ok (.iaload, 1) := by decide +kernel
theorem d_Mo_kind_36 : decode c_Mo_kind 36 = .ok (.istore_n 3, 1) := by decide +kernel
theorem d_Mo_kind_37 : decode c_Mo_kind 37 = .ok (.aload_n 0, 1) := by decide +kernel
theorem d_Mo_kind_38 : decode c_Mo_kind 38 = .ok (.getfield 13, 3) := by decide +kernel
theorem d_Mo_kind_41 : decode c_Mo_kind 41 = .ok (.iload_n 1, 1) := by decide +kernel
theorem d_Mo_kind_42 : decode c_Mo_kind 42 = .ok (.iload_n 2, 1) := by decide +kernel
theorem d_Mo_kind_43 : decode c_Mo_kind 43 = .ok (.iastore, 1) := by decide +kernel
theorem d_Mo_kind_44 : decode c_Mo_kind 44 = .ok (.iload_n 3, 1) := by decide +kernel
theorem d_Mo_kind_45 : decode c_Mo_kind 45 = .ok (.ireturn, 1) := by decide +kernel
theorem d_Mo_draw_0 : decode c_Mo_draw 0 = .ok (.aload_n 0, 1) := by decide +kernel
theorem d_Mo_draw_1 : decode c_Mo_draw 1 = .ok (.aload_n 0, 1) := by decide +kernel
theorem d_Mo_draw_2 : decode c_Mo_draw 2 = .ok (.getfield 181, 3) := by decide +kernel
theorem d_Mo_draw_5 : decode c_Mo_draw 5 = .ok (.i2l, 1) := by decide +kernel
theorem d_Mo_draw_6 : decode c_Mo_draw 6 = .ok (.ldc2_w 184, 3) := by decide +kernel
theorem d_Mo_draw_9 : decode c_Mo_draw 9 = .ok (.lmul, 1) := by decide +kernel
theorem d_Mo_draw_10 : decode c_Mo_draw 10 = .ok (.ldc2_w 186, 3) := by decide +kernel
theorem d_Mo_draw_13 : decode c_Mo_draw 13 = .ok (.ladd, 1) := by decide +kernel
theorem d_Mo_draw_14 : decode c_Mo_draw 14 = .ok (.ldc2_w 188, 3) := by decide +kernel
theorem d_Mo_draw_17 : decode c_Mo_draw 17 = .ok (.lrem, 1) := by decide +kernel
theorem d_Mo_draw_18 : decode c_Mo_draw 18 = .ok (.l2i, 1) := by decide +kernel
theorem d_Mo_draw_19 : decode c_Mo_draw 19 = .ok (.putfield 181, 3) := by decide +kernel
theorem d_Mo_draw_22 : decode c_Mo_draw 22 = .ok (.aload_n 0, 1) := by decide +kernel
theorem d_Mo_draw_23 : decode c_Mo_draw 23 = .ok (.getfield 181, 3) := by decide +kernel
theorem d_Mo_draw_26 : decode c_Mo_draw 26 = .ok (.ldc 190, 2) := by decide +kernel
theorem d_Mo_draw_28 : decode c_Mo_draw 28 = .ok (.idiv, 1) := by decide +kernel
theorem d_Mo_draw_29 : decode c_Mo_draw 29 = .ok (.iload_n 1, 1) := by decide +kernel
theorem d_Mo_draw_30 : decode c_Mo_draw 30 = .ok (.irem, 1) := by decide +kernel
theorem d_Mo_draw_31 : decode c_Mo_draw 31 = .ok (.ireturn, 1) := by decide +kernel
theorem d_Mo_lot_0 : decode c_Mo_lot 0 = .ok (.aload_n 0, 1) := by decide +kernel
theorem d_Mo_lot_1 : decode c_Mo_lot 1 = .ok (.invokevirtual 163, 3) := by decide +kernel
theorem d_Mo_lot_4 : decode c_Mo_lot 4 = .ok (.aload_n 0, 1) := by decide +kernel
theorem d_Mo_lot_5 : decode c_Mo_lot 5 = .ok (.iconst 4, 1) := by decide +kernel
theorem d_Mo_lot_6 : decode c_Mo_lot 6 = .ok (.invokevirtual 191, 3) := by decide +kernel
theorem d_Mo_lot_9 : decode c_Mo_lot 9 = .ok (.istore_n 1, 1) := by decide +kernel
theorem d_Mo_lot_10 : decode c_Mo_lot 10 = .ok (.iload_n 1, 1) := by decide +kernel
theorem d_Mo_lot_11 : decode c_Mo_lot 11 = .ok (.ifCond .ne 68, 3) := by decide +kernel
theorem d_Mo_lot_14 : decode c_Mo_lot 14 = .ok (.aload_n 0, 1) := by decide +kernel
theorem d_Mo_lot_15 : decode c_Mo_lot 15 = .ok (.bipush 64, 2) := by decide +kernel
theorem d_Mo_lot_17 : decode c_Mo_lot 17 = .ok (.invokevirtual 191, 3) := by decide +kernel
theorem d_Mo_lot_20 : decode c_Mo_lot 20 = .ok (.istore_n 2, 1) := by decide +kernel
theorem d_Mo_lot_21 : decode c_Mo_lot 21 = .ok (.aload_n 0, 1) := by decide +kernel
theorem d_Mo_lot_22 : decode c_Mo_lot 22 = .ok (.sipush 256, 3) := by decide +kernel
theorem d_Mo_lot_25 : decode c_Mo_lot 25 = .ok (.invokevirtual 191, 3) := by decide +kernel
theorem d_Mo_lot_28 : decode c_Mo_lot 28 = .ok (.iload_n 2, 1) := by decide +kernel
theorem d_Mo_lot_29 : decode c_Mo_lot 29 = .ok (.ifCond .ge 7, 3) := by decide +kernel
theorem d_Mo_lot_32 : decode c_Mo_lot 32 = .ok (.iconst 1, 1) := by decide +kernel
theorem d_Mo_lot_33 : decode c_Mo_lot 33 = .ok (.goto 4, 3) := by decide +kernel
theorem d_Mo_lot_36 : decode c_Mo_lot 36 = .ok (.iconst 0, 1) := by decide +kernel
theorem d_Mo_lot_37 : decode c_Mo_lot 37 = .ok (.iadd, 1) := by decide +kernel
theorem d_Mo_lot_38 : decode c_Mo_lot 38 = .ok (.i2l, 1) := by decide +kernel
theorem d_Mo_lot_39 : decode c_Mo_lot 39 = .ok (.lstore_n 3, 1) := by decide +kernel
theorem d_Mo_lot_40 : decode c_Mo_lot 40 = .ok (.lconst 0, 1) := by decide +kernel
theorem d_Mo_lot_41 : decode c_Mo_lot 41 = .ok (.lstore 5, 2) := by decide +kernel
theorem d_Mo_lot_43 : decode c_Mo_lot 43 = .ok (.iconst 0, 1) := by decide +kernel
theorem d_Mo_lot_44 : decode c_Mo_lot 44 = .ok (.istore 7, 2) := by decide +kernel
theorem d_Mo_lot_46 : decode c_Mo_lot 46 = .ok (.iload 7, 2) := by decide +kernel
theorem d_Mo_lot_48 : decode c_Mo_lot 48 = .ok (.bipush 8, 2) := by decide +kernel
theorem d_Mo_lot_50 : decode c_Mo_lot 50 = .ok (.if_icmp .ge 21, 3) := by decide +kernel
theorem d_Mo_lot_53 : decode c_Mo_lot 53 = .ok (.lload 5, 2) := by decide +kernel
theorem d_Mo_lot_55 : decode c_Mo_lot 55 = .ok (.lload_n 3, 1) := by decide +kernel
theorem d_Mo_lot_56 : decode c_Mo_lot 56 = .ok (.bipush 8, 2) := by decide +kernel
theorem d_Mo_lot_58 : decode c_Mo_lot 58 = .ok (.iload 7, 2) := by decide +kernel
theorem d_Mo_lot_60 : decode c_Mo_lot 60 = .ok (.imul, 1) := by decide +kernel
theorem d_Mo_lot_61 : decode c_Mo_lot 61 = .ok (.lshl, 1) := by decide +kernel
theorem d_Mo_lot_62 : decode c_Mo_lot 62 = .ok (.lor, 1) := by decide +kernel
theorem d_Mo_lot_63 : decode c_Mo_lot 63 = .ok (.lstore 5, 2) := by decide +kernel
theorem d_Mo_lot_65 : decode c_Mo_lot 65 = .ok (.iinc 7 1, 3) := by decide +kernel
theorem d_Mo_lot_68 : decode c_Mo_lot 68 = .ok (.goto (-22), 3) := by decide +kernel
theorem d_Mo_lot_71 : decode c_Mo_lot 71 = .ok (.aload_n 0, 1) := by decide +kernel
theorem d_Mo_lot_72 : decode c_Mo_lot 72 = .ok (.getfield 7, 3) := by decide +kernel
theorem d_Mo_lot_75 : decode c_Mo_lot 75 = .ok (.iconst 0, 1) := by decide +kernel
theorem d_Mo_lot_76 : decode c_Mo_lot 76 = .ok (.lload 5, 2) := by decide +kernel
theorem d_Mo_lot_78 : decode c_Mo_lot 78 = .ok (.lastore, 1) := by decide +kernel
theorem d_Mo_lot_79 : decode c_Mo_lot 79 = .ok (.iload_n 1, 1) := by decide +kernel
theorem d_Mo_lot_80 : decode c_Mo_lot 80 = .ok (.iconst 1, 1) := by decide +kernel
theorem d_Mo_lot_81 : decode c_Mo_lot 81 = .ok (.if_icmp .eq 8, 3) := by decide +kernel
theorem d_Mo_lot_84 : decode c_Mo_lot 84 = .ok (.iload_n 1, 1) := by decide +kernel
theorem d_Mo_lot_85 : decode c_Mo_lot 85 = .ok (.iconst 2, 1) := by decide +kernel
theorem d_Mo_lot_86 : decode c_Mo_lot 86 = .ok (.if_icmp .ne 24, 3) := by decide +kernel
theorem d_Mo_lot_89 : decode c_Mo_lot 89 = .ok (.aload_n 0, 1) := by decide +kernel
theorem d_Mo_lot_90 : decode c_Mo_lot 90 = .ok (.getfield 7, 3) := by decide +kernel
theorem d_Mo_lot_93 : decode c_Mo_lot 93 = .ok (.iconst 0, 1) := by decide +kernel
theorem d_Mo_lot_94 : decode c_Mo_lot 94 = .ok (.aload_n 0, 1) := by decide +kernel
theorem d_Mo_lot_95 : decode c_Mo_lot 95 = .ok (.getfield 7, 3) := by decide +kernel
theorem d_Mo_lot_98 : decode c_Mo_lot 98 = .ok (.iconst 0, 1) := by decide +kernel
theorem d_Mo_lot_99 : decode c_Mo_lot 99 = .ok (.laload, 1) := by decide +kernel
theorem d_Mo_lot_100 : decode c_Mo_lot 100 = .ok (.lconst 1, 1) := by decide +kernel
theorem d_Mo_lot_101 : decode c_Mo_lot 101 = .ok (.aload_n 0, 1) := by decide +kernel
theorem d_Mo_lot_102 : decode c_Mo_lot 102 = .ok (.bipush 64, 2) := by decide +kernel
theorem d_Mo_lot_104 : decode c_Mo_lot 104 = .ok (.invokevirtual 191, 3) := by decide +kernel
theorem d_Mo_lot_107 : decode c_Mo_lot 107 = .ok (.lshl, 1) := by decide +kernel
theorem d_Mo_lot_108 : decode c_Mo_lot 108 = .ok (.lxor, 1) := by decide +kernel
theorem d_Mo_lot_109 : decode c_Mo_lot 109 = .ok (.lastore, 1) := by decide +kernel
theorem d_Mo_lot_110 : decode c_Mo_lot 110 = .ok (.aload_n 0, 1) := by decide +kernel
theorem d_Mo_lot_111 : decode c_Mo_lot 111 = .ok (.aload_n 0, 1) := by decide +kernel
theorem d_Mo_lot_112 : decode c_Mo_lot 112 = .ok (.getfield 7, 3) := by decide +kernel
theorem d_Mo_lot_115 : decode c_Mo_lot 115 = .ok (.iconst 0, 1) := by decide +kernel
theorem d_Mo_lot_116 : decode c_Mo_lot 116 = .ok (.laload, 1) := by decide +kernel
theorem d_Mo_lot_117 : decode c_Mo_lot 117 = .ok (.invokevirtual 120, 3) := by decide +kernel
theorem d_Mo_lot_120 : decode c_Mo_lot 120 = .ok (.iconst (-1), 1) := by decide +kernel
theorem d_Mo_lot_121 : decode c_Mo_lot 121 = .ok (.if_icmp .ne 17, 3) := by decide +kernel
theorem d_Mo_lot_124 : decode c_Mo_lot 124 = .ok (.aload_n 0, 1) := by decide +kernel
theorem d_Mo_lot_125 : decode c_Mo_lot 125 = .ok (.invokevirtual 59, 3) := by decide +kernel
theorem d_Mo_lot_128 : decode c_Mo_lot 128 = .ok (.bipush 40, 2) := by decide +kernel
theorem d_Mo_lot_130 : decode c_Mo_lot 130 = .ok (.if_icmp .ge 8, 3) := by decide +kernel
theorem d_Mo_lot_133 : decode c_Mo_lot 133 = .ok (.aload_n 0, 1) := by decide +kernel
theorem d_Mo_lot_134 : decode c_Mo_lot 134 = .ok (.iconst 0, 1) := by decide +kernel
theorem d_Mo_lot_135 : decode c_Mo_lot 135 = .ok (.invokevirtual 177, 3) := by decide +kernel
theorem d_Mo_lot_138 : decode c_Mo_lot 138 = .ok (.return_, 1) := by decide +kernel
theorem d_Mo_drift_0 : decode c_Mo_drift 0 = .ok (.iload_n 1, 1) := by decide +kernel
theorem d_Mo_drift_1 : decode c_Mo_drift 1 = .ok (.i2l, 1) := by decide +kernel
theorem d_Mo_drift_2 : decode c_Mo_drift 2 = .ok (.lconst 1, 1) := by decide +kernel
theorem d_Mo_drift_3 : decode c_Mo_drift 3 = .ok (.ldc2_w 194, 3) := by decide +kernel
theorem d_Mo_drift_6 : decode c_Mo_drift 6 = .ok (.invokestatic 63, 3) := by decide +kernel
theorem d_Mo_drift_9 : decode c_Mo_drift 9 = .ok (.ifCond .ne 6, 3) := by decide +kernel
theorem d_Mo_drift_12 : decode c_Mo_drift 12 = .ok (.ldc 144, 2) := by decide +kernel
theorem d_Mo_drift_14 : decode c_Mo_drift 14 = .ok (.ireturn, 1) := by decide +kernel
theorem d_Mo_drift_15 : decode c_Mo_drift 15 = .ok (.iconst 0, 1) := by decide +kernel
theorem d_Mo_drift_16 : decode c_Mo_drift 16 = .ok (.istore_n 2, 1) := by decide +kernel
theorem d_Mo_drift_17 : decode c_Mo_drift 17 = .ok (.iload_n 2, 1) := by decide +kernel
theorem d_Mo_drift_18 : decode c_Mo_drift 18 = .ok (.iload_n 1, 1) := by decide +kernel
theorem d_Mo_drift_19 : decode c_Mo_drift 19 = .ok (.if_icmp .ge 13, 3) := by decide +kernel
theorem d_Mo_drift_22 : decode c_Mo_drift 22 = .ok (.aload_n 0, 1) := by decide +kernel
theorem d_Mo_drift_23 : decode c_Mo_drift 23 = .ok (.invokevirtual 196, 3) := by decide +kernel
theorem d_Mo_drift_26 : decode c_Mo_drift 26 = .ok (.iinc 2 1, 3) := by decide +kernel
theorem d_Mo_drift_29 : decode c_Mo_drift 29 = .ok (.goto (-12), 3) := by decide +kernel
theorem d_Mo_drift_32 : decode c_Mo_drift 32 = .ok (.aload_n 0, 1) := by decide +kernel
theorem d_Mo_drift_33 : decode c_Mo_drift 33 = .ok (.invokevirtual 59, 3) := by decide +kernel
theorem d_Mo_drift_36 : decode c_Mo_drift 36 = .ok (.ireturn, 1) := by decide +kernel
theorem d_Mo_undo_0 : decode c_Mo_undo 0 = .ok (.iload_n 1, 1) := by decide +kernel
theorem d_Mo_undo_1 : decode c_Mo_undo 1 = .ok (.i2l, 1) := by decide +kernel
theorem d_Mo_undo_2 : decode c_Mo_undo 2 = .ok (.lconst 1, 1) := by decide +kernel
theorem d_Mo_undo_3 : decode c_Mo_undo 3 = .ok (.ldc2_w 194, 3) := by decide +kernel
theorem d_Mo_undo_6 : decode c_Mo_undo 6 = .ok (.invokestatic 63, 3) := by decide +kernel
theorem d_Mo_undo_9 : decode c_Mo_undo 9 = .ok (.ifCond .ne 6, 3) := by decide +kernel
theorem d_Mo_undo_12 : decode c_Mo_undo 12 = .ok (.ldc 144, 2) := by decide +kernel
theorem d_Mo_undo_14 : decode c_Mo_undo 14 = .ok (.ireturn, 1) := by decide +kernel
theorem d_Mo_undo_15 : decode c_Mo_undo 15 = .ok (.iload_n 1, 1) := by decide +kernel
theorem d_Mo_undo_16 : decode c_Mo_undo 16 = .ok (.aload_n 0, 1) := by decide +kernel
theorem d_Mo_undo_17 : decode c_Mo_undo 17 = .ok (.getfield 141, 3) := by decide +kernel
theorem d_Mo_undo_20 : decode c_Mo_undo 20 = .ok (.if_icmp .le 6, 3) := by decide +kernel
theorem d_Mo_undo_23 : decode c_Mo_undo 23 = .ok (.ldc 175, 2) := by decide +kernel
theorem d_Mo_undo_25 : decode c_Mo_undo 25 = .ok (.ireturn, 1) := by decide +kernel
theorem d_Mo_undo_26 : decode c_Mo_undo 26 = .ok (.aload_n 0, 1) := by decide +kernel
theorem d_Mo_undo_27 : decode c_Mo_undo 27 = .ok (.dup, 1) := by decide +kernel
theorem d_Mo_undo_28 : decode c_Mo_undo 28 = .ok (.getfield 141, 3) := by decide +kernel
theorem d_Mo_undo_31 : decode c_Mo_undo 31 = .ok (.iload_n 1, 1) := by decide +kernel
theorem d_Mo_undo_32 : decode c_Mo_undo 32 = .ok (.isub, 1) := by decide +kernel
theorem d_Mo_undo_33 : decode c_Mo_undo 33 = .ok (.putfield 141, 3) := by decide +kernel
theorem d_Mo_undo_36 : decode c_Mo_undo 36 = .ok (.aload_n 0, 1) := by decide +kernel
theorem d_Mo_undo_37 : decode c_Mo_undo 37 = .ok (.aload_n 0, 1) := by decide +kernel
theorem d_Mo_undo_38 : decode c_Mo_undo 38 = .ok (.getfield 17, 3) := by decide +kernel
theorem d_Mo_undo_41 : decode c_Mo_undo 41 = .ok (.aload_n 0, 1) := by decide +kernel
theorem d_Mo_undo_42 : decode c_Mo_undo 42 = .ok (.getfield 20, 3) := by decide +kernel
theorem d_Mo_undo_45 : decode c_Mo_undo 45 = .ok (.aload_n 0, 1) := by decide +kernel
theorem d_Mo_undo_46 : decode c_Mo_undo 46 = .ok (.getfield 141, 3) := by decide +kernel
theorem d_Mo_undo_49 : decode c_Mo_undo 49 = .ok (.invokevirtual 199, 3) := by decide +kernel
theorem d_Mo_undo_52 : decode c_Mo_undo 52 = .ok (.aload_n 0, 1) := by decide +kernel
theorem d_Mo_undo_53 : decode c_Mo_undo 53 = .ok (.invokevirtual 59, 3) := by decide +kernel
theorem d_Mo_undo_56 : decode c_Mo_undo 56 = .ok (.ireturn, 1) := by decide +kernel
theorem d_Mo_near_0 : decode c_Mo_near 0 = .ok (.lconst 0, 1) := by decide +kernel
theorem d_Mo_near_1 : decode c_Mo_near 1 = .ok (.lstore_n 2, 1) := by decide +kernel
theorem d_Mo_near_2 : decode c_Mo_near 2 = .ok (.iconst 0, 1) := by decide +kernel
theorem d_Mo_near_3 : decode c_Mo_near 3 = .ok (.istore 4, 2) := by decide +kernel
theorem d_Mo_near_5 : decode c_Mo_near 5 = .ok (.iload 4, 2) := by decide +kernel
theorem d_Mo_near_7 : decode c_Mo_near 7 = .ok (.aload_n 0, 1) := by decide +kernel
theorem d_Mo_near_8 : decode c_Mo_near 8 = .ok (.invokevirtual 59, 3) := by decide +kernel
theorem d_Mo_near_11 : decode c_Mo_near 11 = .ok (.if_icmp .ge 110, 3) := by decide +kernel
theorem d_Mo_near_14 : decode c_Mo_near 14 = .ok (.iload_n 1, 1) := by decide +kernel
theorem d_Mo_near_15 : decode c_Mo_near 15 = .ok (.i2l, 1) := by decide +kernel
theorem d_Mo_near_16 : decode c_Mo_near 16 = .ok (.lconst 0, 1) := by decide +kernel
theorem d_Mo_near_17 : decode c_Mo_near 17 = .ok (.ldc2_w 202, 3) := by decide +kernel
theorem d_Mo_near_20 : decode c_Mo_near 20 = .ok (.invokestatic 63, 3) := by decide +kernel
theorem d_Mo_near_23 : decode c_Mo_near 23 = .ok (.ifCond .eq 98, 3) := by decide +kernel
theorem d_Mo_near_26 : decode c_Mo_near 26 = .ok (.iload_n 1, 1) := by decide +kernel
theorem d_Mo_near_27 : decode c_Mo_near 27 = .ok (.aload_n 0, 1) := by decide +kernel
theorem d_Mo_near_28 : decode c_Mo_near 28 = .ok (.invokevirtual 86, 3) := by decide +kernel
theorem d_Mo_near_31 : decode c_Mo_near 31 = .ok (.iconst 1, 1) := by decide +kernel
theorem d_Mo_near_32 : decode c_Mo_near 32 = .ok (.isub, 1) := by decide +kernel
theorem d_Mo_near_33 : decode c_Mo_near 33 = .ok (.if_icmp .ge 15, 3) := by decide +kernel
theorem d_Mo_near_36 : decode c_Mo_near 36 = .ok (.aload_n 0, 1) := by decide +kernel
theorem d_Mo_near_37 : decode c_Mo_near 37 = .ok (.iload 4, 2) := by decide +kernel
theorem d_Mo_near_39 : decode c_Mo_near 39 = .ok (.invokevirtual 82, 3) := by decide +kernel
theorem d_Mo_near_42 : decode c_Mo_near 42 = .ok (.iload_n 1, 1) := by decide +kernel
theorem d_Mo_near_43 : decode c_Mo_near 43 = .ok (.iconst 2, 1) := by decide +kernel
theorem d_Mo_near_44 : decode c_Mo_near 44 = .ok (.idiv, 1) := by decide +kernel
theorem d_Mo_near_45 : decode c_Mo_near 45 = .ok (.if_icmp .gt 7, 3) := by decide +kernel
theorem d_Mo_near_48 : decode c_Mo_near 48 = .ok (.iconst 1, 1) := by decide +kernel
theorem d_Mo_near_49 : decode c_Mo_near 49 = .ok (.goto 4, 3) := by decide +kernel
theorem d_Mo_near_52 : decode c_Mo_near 52 = .ok (.iconst 0, 1) := by decide +kernel
theorem d_Mo_near_53 : decode c_Mo_near 53 = .ok (.istore 5, 2) := by decide +kernel
theorem d_Mo_near_55 : decode c_Mo_near 55 = .ok (.aload_n 0, 1) := by decide +kernel
theorem d_Mo_near_56 : decode c_Mo_near 56 = .ok (.iload 4, 2) := by decide +kernel
theorem d_Mo_near_58 : decode c_Mo_near 58 = .ok (.invokevirtual 82, 3) := by decide +kernel
theorem d_Mo_near_61 : decode c_Mo_near 61 = .ok (.iload_n 1, 1) := by decide +kernel
theorem d_Mo_near_62 : decode c_Mo_near 62 = .ok (.if_icmp .gt 34, 3) := by decide +kernel
theorem d_Mo_near_65 : decode c_Mo_near 65 = .ok (.aload_n 0, 1) := by decide +kernel
theorem d_Mo_near_66 : decode c_Mo_near 66 = .ok (.getfield 13, 3) := by decide +kernel
theorem d_Mo_near_69 : decode c_Mo_near 69 = .ok (.iload 4, 2) := by decide +kernel
theorem d_Mo_near_71 : decode c_Mo_near 71 = .ok (.iaload, 1) := by decide +kernel
theorem d_Mo_near_72 : decode c_Mo_near 72 = .ok (.iconst 1, 1) := by decide +kernel
theorem d_Mo_near_73 : decode c_Mo_near 73 = .ok (.if_icmp .eq 23, 3) := by decide +kernel
theorem d_Mo_near_76 : decode c_Mo_near 76 = .ok (.aload_n 0, 1) := by decide +kernel
theorem d_Mo_near_77 : decode c_Mo_near 77 = .ok (.getfield 13, 3) := by decide +kernel
theorem d_Mo_near_80 : decode c_Mo_near 80 = .ok (.iload 4, 2) := by decide +kernel
theorem d_Mo_near_82 : decode c_Mo_near 82 = .ok (.iaload, 1) := by decide +kernel
theorem d_Mo_near_83 : decode c_Mo_near 83 = .ok (.iconst 2, 1) := by decide +kernel
theorem d_Mo_near_84 : decode c_Mo_near 84 = .ok (.if_icmp .ne 8, 3) := by decide +kernel
theorem d_Mo_near_87 : decode c_Mo_near 87 = .ok (.iload 5, 2) := by decide +kernel
theorem d_Mo_near_89 : decode c_Mo_near 89 = .ok (.ifCond .eq 7, 3) := by decide +kernel
theorem d_Mo_near_92 : decode c_Mo_near 92 = .ok (.iconst 1, 1) := by decide +kernel
theorem d_Mo_near_93 : decode c_Mo_near 93 = .ok (.goto 4, 3) := by decide +kernel
theorem d_Mo_near_96 : decode c_Mo_near 96 = .ok (.iconst 0, 1) := by decide +kernel
theorem d_Mo_near_97 : decode c_Mo_near 97 = .ok (.istore 6, 2) := by decide +kernel
theorem d_Mo_near_99 : decode c_Mo_near 99 = .ok (.lload_n 2, 1) := by decide +kernel
theorem d_Mo_near_100 : decode c_Mo_near 100 = .ok (.iload 6, 2) := by decide +kernel
theorem d_Mo_near_102 : decode c_Mo_near 102 = .ok (.ifCond .eq 10, 3) := by decide +kernel
theorem d_Mo_near_105 : decode c_Mo_near 105 = .ok (.lconst 1, 1) := by decide +kernel
theorem d_Mo_near_106 : decode c_Mo_near 106 = .ok (.iload 4, 2) := by decide +kernel
theorem d_Mo_near_108 : decode c_Mo_near 108 = .ok (.lshl, 1) := by decide +kernel
theorem d_Mo_near_109 : decode c_Mo_near 109 = .ok (.goto 4, 3) := by decide +kernel
theorem d_Mo_near_112 : decode c_Mo_near 112 = .ok (.lconst 0, 1) := by decide +kernel
theorem d_Mo_near_113 : decode c_Mo_near 113 = .ok (.lor, 1) := by decide +kernel
theorem d_Mo_near_114 : decode c_Mo_near 114 = .ok (.lstore_n 2, 1) := by decide +kernel
theorem d_Mo_near_115 : decode c_Mo_near 115 = .ok (.iinc 4 1, 3) := by decide +kernel
theorem d_Mo_near_118 : decode c_Mo_near 118 = .ok (.goto (-113), 3) := by decide +kernel
theorem d_Mo_near_121 : decode c_Mo_near 121 = .ok (.lload_n 2, 1) := by decide +kernel
theorem d_Mo_near_122 : decode c_Mo_near 122 = .ok (.lreturn, 1) := by decide +kernel
theorem d_Mo_nearest_0 : decode c_Mo_nearest 0 = .ok (.iload_n 1, 1) := by decide +kernel
theorem d_Mo_nearest_1 : decode c_Mo_nearest 1 = .ok (.ifCond .ge 7, 3) := by decide +kernel
theorem d_Mo_nearest_4 : decode c_Mo_nearest 4 = .ok (.iconst (-1), 1) := by decide +kernel
theorem d_Mo_nearest_5 : decode c_Mo_nearest 5 = .ok (.goto 8, 3) := by decide +kernel
theorem d_Mo_nearest_8 : decode c_Mo_nearest 8 = .ok (.aload_n 0, 1) := by decide +kernel
theorem d_Mo_nearest_9 : decode c_Mo_nearest 9 = .ok (.iload_n 1, 1) := by decide +kernel
theorem d_Mo_nearest_10 : decode c_Mo_nearest 10 = .ok (.invokevirtual 117, 3) := by decide +kernel
theorem d_Mo_nearest_13 : decode c_Mo_nearest 13 = .ok (.ireturn, 1) := by decide +kernel
theorem d_Mo_apart_0 : decode c_Mo_apart 0 = .ok (.aload_n 0, 1) := by decide +kernel
theorem d_Mo_apart_1 : decode c_Mo_apart 1 = .ok (.iload_n 1, 1) := by decide +kernel
theorem d_Mo_apart_2 : decode c_Mo_apart 2 = .ok (.invokevirtual 114, 3) := by decide +kernel
theorem d_Mo_apart_5 : decode c_Mo_apart 5 = .ok (.ifCond .eq 33, 3) := by decide +kernel
theorem d_Mo_apart_8 : decode c_Mo_apart 8 = .ok (.aload_n 0, 1) := by decide +kernel
theorem d_Mo_apart_9 : decode c_Mo_apart 9 = .ok (.iload_n 2, 1) := by decide +kernel
theorem d_Mo_apart_10 : decode c_Mo_apart 10 = .ok (.invokevirtual 114, 3) := by decide +kernel
theorem d_Mo_apart_13 : decode c_Mo_apart 13 = .ok (.ifCond .eq 25, 3) := by decide +kernel
theorem d_Mo_apart_16 : decode c_Mo_apart 16 = .ok (.iload_n 1, 1) := by decide +kernel
theorem d_Mo_apart_17 : decode c_Mo_apart 17 = .ok (.iload_n 2, 1) := by decide +kernel
theorem d_Mo_apart_18 : decode c_Mo_apart 18 = .ok (.if_icmp .eq 20, 3) := by decide +kernel
theorem d_Mo_apart_21 : decode c_Mo_apart 21 = .ok (.aload_n 0, 1) := by decide +kernel
theorem d_Mo_apart_22 : decode c_Mo_apart 22 = .ok (.iload_n 1, 1) := by decide +kernel
theorem d_Mo_apart_23 : decode c_Mo_apart 23 = .ok (.invokevirtual 67, 3) := by decide +kernel
theorem d_Mo_apart_26 : decode c_Mo_apart 26 = .ok (.aload_n 0, 1) := by decide +kernel
theorem d_Mo_apart_27 : decode c_Mo_apart 27 = .ok (.iload_n 2, 1) := by decide +kernel
theorem d_Mo_apart_28 : decode c_Mo_apart 28 = .ok (.invokevirtual 67, 3) := by decide +kernel
theorem d_Mo_apart_31 : decode c_Mo_apart 31 = .ok (.lxor, 1) := by decide +kernel
theorem d_Mo_apart_32 : decode c_Mo_apart 32 = .ok (.invokestatic 71, 3) := by decide +kernel
theorem d_Mo_apart_35 : decode c_Mo_apart 35 = .ok (.goto 5, 3) := by decide +kernel
theorem d_Mo_apart_38 : decode c_Mo_apart 38 = .ok (.ldc 145, 2) := by decide +kernel
theorem d_Mo_apart_40 : decode c_Mo_apart 40 = .ok (.ireturn, 1) := by decide +kernel
theorem d_Mo_layGroups_0 : decode c_Mo_layGroups 0 = .ok (.iconst 0, 1) := by decide +kernel
theorem d_Mo_layGroups_1 : decode c_Mo_layGroups 1 = .ok (.istore_n 2, 1) := by decide +kernel
theorem d_Mo_layGroups_2 : decode c_Mo_layGroups 2 = .ok (.iload_n 2, 1) := by decide +kernel
theorem d_Mo_layGroups_3 : decode c_Mo_layGroups 3 = .ok (.aload_n 0, 1) := by decide +kernel
theorem d_Mo_layGroups_4 : decode c_Mo_layGroups 4 = .ok (.invokevirtual 59, 3) := by decide +kernel
theorem d_Mo_layGroups_7 : decode c_Mo_layGroups 7 = .ok (.if_icmp .ge 16, 3) := by decide +kernel
theorem d_Mo_layGroups_10 : decode c_Mo_layGroups 10 = .ok (.aload_n 0, 1) := by decide +kernel
theorem d_Mo_layGroups_11 : decode c_Mo_layGroups 11 = .ok (.getfield 51, 3) := by decide +kernel
theorem d_Mo_layGroups_14 : decode c_Mo_layGroups 14 = .ok (.iload_n 2, 1) := by decide +kernel
theorem d_Mo_layGroups_15 : decode c_Mo_layGroups 15 = .ok (.iload_n 2, 1) := by decide +kernel
theorem d_Mo_layGroups_16 : decode c_Mo_layGroups 16 = .ok (.iastore, 1) := by decide +kernel
theorem d_Mo_layGroups_17 : decode c_Mo_layGroups 17 = .ok (.iinc 2 1, 3) := by decide +kernel
theorem d_Mo_layGroups_20 : decode c_Mo_layGroups 20 = .ok (.goto (-18), 3) := by decide +kernel
theorem d_Mo_layGroups_23 : decode c_Mo_layGroups 23 = .ok (.iconst 1, 1) := by decide +kernel
theorem d_Mo_layGroups_24 : decode c_Mo_layGroups 24 = .ok (.istore_n 2, 1) := by decide +kernel
theorem d_Mo_layGroups_25 : decode c_Mo_layGroups 25 = .ok (.iload_n 2, 1) := by decide +kernel
theorem d_Mo_layGroups_26 : decode c_Mo_layGroups 26 = .ok (.ifCond .eq 92, 3) := by decide +kernel
theorem d_Mo_layGroups_29 : decode c_Mo_layGroups 29 = .ok (.iconst 0, 1) := by decide +kernel
theorem d_Mo_layGroups_30 : decode c_Mo_layGroups 30 = .ok (.istore_n 2, 1) := by decide +kernel
theorem d_Mo_layGroups_31 : decode c_Mo_layGroups 31 = .ok (.iconst 0, 1) := by decide +kernel
theorem d_Mo_layGroups_32 : decode c_Mo_layGroups 32 = .ok (.istore_n 3, 1) := by decide +kernel
theorem d_Mo_layGroups_33 : decode c_Mo_layGroups 33 = .ok (.iload_n 3, 1) := by decide +kernel
theorem d_Mo_layGroups_34 : decode c_Mo_layGroups 34 = .ok (.aload_n 0, 1) := by decide +kernel
theorem d_Mo_layGroups_35 : decode c_Mo_layGroups 35 = .ok (.invokevirtual 59, 3) := by decide +kernel
theorem d_Mo_layGroups_38 : decode c_Mo_layGroups 38 = .ok (.if_icmp .ge 77, 3) := by decide +kernel
theorem d_Mo_layGroups_41 : decode c_Mo_layGroups 41 = .ok (.iconst 0, 1) := by decide +kernel
theorem d_Mo_layGroups_42 : decode c_Mo_layGroups 42 = .ok (.istore 4, 2) := by decide +kernel
theorem d_Mo_layGroups_44 : decode c_Mo_layGroups 44 = .ok (.iload 4, 2) := by decide +kernel
theorem d_Mo_layGroups_46 : decode c_Mo_layGroups 46 = .ok (.aload_n 0, 1) := by decide +kernel
theorem d_Mo_layGroups_47 : decode c_Mo_layGroups 47 = .ok (.invokevirtual 59, 3) := by decide +kernel
theorem d_Mo_layGroups_50 : decode c_Mo_layGroups 50 = .ok (.if_icmp .ge 59, 3) := by decide +kernel
theorem d_Mo_layGroups_53 : decode c_Mo_layGroups 53 = .ok (.aload_n 0, 1) := by decide +kernel
theorem d_Mo_layGroups_54 : decode c_Mo_layGroups 54 = .ok (.getfield 51, 3) := by decide +kernel
theorem d_Mo_layGroups_57 : decode c_Mo_layGroups 57 = .ok (.iload_n 3, 1) := by decide +kernel
theorem d_Mo_layGroups_58 : decode c_Mo_layGroups 58 = .ok (.iaload, 1) := by decide +kernel
theorem d_Mo_layGroups_59 : decode c_Mo_layGroups 59 = .ok (.aload_n 0, 1) := by decide +kernel
theorem d_Mo_layGroups_60 : decode c_Mo_layGroups 60 = .ok (.getfield 51, 3) := by decide +kernel
theorem d_Mo_layGroups_63 : decode c_Mo_layGroups 63 = .ok (.iload 4, 2) := by decide +kernel
theorem d_Mo_layGroups_65 : decode c_Mo_layGroups 65 = .ok (.iaload, 1) := by decide +kernel
theorem d_Mo_layGroups_66 : decode c_Mo_layGroups 66 = .ok (.if_icmp .ge 37, 3) := by decide +kernel
theorem d_Mo_layGroups_69 : decode c_Mo_layGroups 69 = .ok (.aload_n 0, 1) := by decide +kernel
theorem d_Mo_layGroups_70 : decode c_Mo_layGroups 70 = .ok (.iload_n 3, 1) := by decide +kernel
theorem d_Mo_layGroups_71 : decode c_Mo_layGroups 71 = .ok (.invokevirtual 67, 3) := by decide +kernel
theorem d_Mo_layGroups_74 : decode c_Mo_layGroups 74 = .ok (.aload_n 0, 1) := by decide +kernel
theorem d_Mo_layGroups_75 : decode c_Mo_layGroups 75 = .ok (.iload 4, 2) := by decide +kernel
theorem d_Mo_layGroups_77 : decode c_Mo_layGroups 77 = .ok (.invokevirtual 67, 3) := by decide +kernel
theorem d_Mo_layGroups_80 : decode c_Mo_layGroups 80 = .ok (.lxor, 1) := by decide +kernel
theorem d_Mo_layGroups_81 : decode c_Mo_layGroups 81 = .ok (.invokestatic 71, 3) := by decide +kernel
theorem d_Mo_layGroups_84 : decode c_Mo_layGroups 84 = .ok (.iload_n 1, 1) := by decide +kernel
theorem d_Mo_layGroups_85 : decode c_Mo_layGroups 85 = .ok (.if_icmp .gt 18, 3) := by decide +kernel
theorem d_Mo_layGroups_88 : decode c_Mo_layGroups 88 = .ok (.aload_n 0, 1) := by decide +kernel
theorem d_Mo_layGroups_89 : decode c_Mo_layGroups 89 = .ok (.getfield 51, 3) := by decide +kernel
theorem d_Mo_layGroups_92 : decode c_Mo_layGroups 92 = .ok (.iload 4, 2) := by decide +kernel
theorem d_Mo_layGroups_94 : decode c_Mo_layGroups 94 = .ok (.aload_n 0, 1) := by decide +kernel
theorem d_Mo_layGroups_95 : decode c_Mo_layGroups 95 = .ok (.getfield 51, 3) := by decide +kernel
theorem d_Mo_layGroups_98 : decode c_Mo_layGroups 98 = .ok (.iload_n 3, 1) := by decide +kernel
theorem d_Mo_layGroups_99 : decode c_Mo_layGroups 99 = .ok (.iaload, 1) := by decide +kernel
theorem d_Mo_layGroups_100 : decode c_Mo_layGroups 100 = .ok (.iastore, 1) := by decide +kernel
theorem d_Mo_layGroups_101 : decode c_Mo_layGroups 101 = .ok (.iconst 1, 1) := by decide +kernel
theorem d_Mo_layGroups_102 : decode c_Mo_layGroups 102 = .ok (.istore_n 2, 1) := by decide +kernel
theorem d_Mo_layGroups_103 : decode c_Mo_layGroups 103 = .ok (.iinc 4 1, 3) := by decide +kernel
theorem d_Mo_layGroups_106 : decode c_Mo_layGroups 106 = .ok (.goto (-62), 3) := by decide +kernel
theorem d_Mo_layGroups_109 : decode c_Mo_layGroups 109 = .ok (.iinc 3 1, 3) := by decide +kernel
theorem d_Mo_layGroups_112 : decode c_Mo_layGroups 112 = .ok (.goto (-79), 3) := by decide +kernel
theorem d_Mo_layGroups_115 : decode c_Mo_layGroups 115 = .ok (.goto (-90), 3) := by decide +kernel
theorem d_Mo_layGroups_118 : decode c_Mo_layGroups 118 = .ok (.iconst 0, 1) := by decide +kernel
theorem d_Mo_layGroups_119 : decode c_Mo_layGroups 119 = .ok (.istore_n 3, 1) := by decide +kernel
theorem d_Mo_layGroups_120 : decode c_Mo_layGroups 120 = .ok (.iconst 0, 1) := by decide +kernel
theorem d_Mo_layGroups_121 : decode c_Mo_layGroups 121 = .ok (.istore 4, 2) := by decide +kernel
theorem d_Mo_layGroups_123 : decode c_Mo_layGroups 123 = .ok (.iload 4, 2) := by decide +kernel
theorem d_Mo_layGroups_125 : decode c_Mo_layGroups 125 = .ok (.aload_n 0, 1) := by decide +kernel
theorem d_Mo_layGroups_126 : decode c_Mo_layGroups 126 = .ok (.invokevirtual 59, 3) := by decide +kernel
theorem d_Mo_layGroups_129 : decode c_Mo_layGroups 129 = .ok (.if_icmp .ge 29, 3) := by decide +kernel
theorem d_Mo_layGroups_132 : decode c_Mo_layGroups 132 = .ok (.iload_n 3, 1) := by decide +kernel
theorem d_Mo_layGroups_133 : decode c_Mo_layGroups 133 = .ok (.aload_n 0, 1) := by decide +kernel
theorem d_Mo_layGroups_134 : decode c_Mo_layGroups 134 = .ok (.getfield 51, 3) := by decide +kernel
theorem d_Mo_layGroups_137 : decode c_Mo_layGroups 137 = .ok (.iload 4, 2) := by decide +kernel
theorem d_Mo_layGroups_139 : decode c_Mo_layGroups 139 = .ok (.iaload, 1) := by decide +kernel
theorem d_Mo_layGroups_140 : decode c_Mo_layGroups 140 = .ok (.iload 4, 2) := by decide +kernel
theorem d_Mo_layGroups_142 : decode c_Mo_layGroups 142 = .ok (.if_icmp .ne 7, 3) := by decide +kernel
theorem d_Mo_layGroups_145 : decode c_Mo_layGroups 145 = .ok (.iconst 1, 1) := by decide +kernel
theorem d_Mo_layGroups_146 : decode c_Mo_layGroups 146 = .ok (.goto 4, 3) := by decide +kernel
theorem d_Mo_layGroups_149 : decode c_Mo_layGroups 149 = .ok (.iconst 0, 1) := by decide +kernel
theorem d_Mo_layGroups_150 : decode c_Mo_layGroups 150 = .ok (.iadd, 1) := by decide +kernel
theorem d_Mo_layGroups_151 : decode c_Mo_layGroups 151 = .ok (.istore_n 3, 1) := by decide +kernel
theorem d_Mo_layGroups_152 : decode c_Mo_layGroups 152 = .ok (.iinc 4 1, 3) := by decide +kernel
theorem d_Mo_layGroups_155 : decode c_Mo_layGroups 155 = .ok (.goto (-32), 3) := by decide +kernel
theorem d_Mo_layGroups_158 : decode c_Mo_layGroups 158 = .ok (.iload_n 3, 1) := by decide +kernel
theorem d_Mo_layGroups_159 : decode c_Mo_layGroups 159 = .ok (.ireturn, 1) := by decide +kernel
theorem d_Mo_leastOf_0 : decode c_Mo_leastOf 0 = .ok (.iload_n 1, 1) := by decide +kernel
theorem d_Mo_leastOf_1 : decode c_Mo_leastOf 1 = .ok (.istore_n 2, 1) := by decide +kernel
theorem d_Mo_leastOf_2 : decode c_Mo_leastOf 2 = .ok (.iconst 0, 1) := by decide +kernel
theorem d_Mo_leastOf_3 : decode c_Mo_leastOf 3 = .ok (.istore_n 3, 1) := by decide +kernel
theorem d_Mo_leastOf_4 : decode c_Mo_leastOf 4 = .ok (.aload_n 0, 1) := by decide +kernel
theorem d_Mo_leastOf_5 : decode c_Mo_leastOf 5 = .ok (.getfield 51, 3) := by decide +kernel
theorem d_Mo_leastOf_8 : decode c_Mo_leastOf 8 = .ok (.iload_n 3, 1) := by decide +kernel
theorem d_Mo_leastOf_9 : decode c_Mo_leastOf 9 = .ok (.iaload, 1) := by decide +kernel
theorem d_Mo_leastOf_10 : decode c_Mo_leastOf 10 = .ok (.iload_n 3, 1) := by decide +kernel
theorem d_Mo_leastOf_11 : decode c_Mo_leastOf 11 = .ok (.if_icmp .ne 7, 3) := by decide +kernel
theorem d_Mo_leastOf_14 : decode c_Mo_leastOf 14 = .ok (.iload_n 2, 1) := by decide +kernel
theorem d_Mo_leastOf_15 : decode c_Mo_leastOf 15 = .ok (.ifCond .le 27, 3) := by decide +kernel
theorem d_Mo_leastOf_18 : decode c_Mo_leastOf 18 = .ok (.iload_n 2, 1) := by decide +kernel
theorem d_Mo_leastOf_19 : decode c_Mo_leastOf 19 = .ok (.aload_n 0, 1) := by decide +kernel
theorem d_Mo_leastOf_20 : decode c_Mo_leastOf 20 = .ok (.getfield 51, 3) := by decide +kernel
theorem d_Mo_leastOf_23 : decode c_Mo_leastOf 23 = .ok (.iload_n 3, 1) := by decide +kernel
theorem d_Mo_leastOf_24 : decode c_Mo_leastOf 24 = .ok (.iaload, 1) := by decide +kernel
theorem d_Mo_leastOf_25 : decode c_Mo_leastOf 25 = .ok (.iload_n 3, 1) := by decide +kernel
theorem d_Mo_leastOf_26 : decode c_Mo_leastOf 26 = .ok (.if_icmp .ne 7, 3) := by decide +kernel
theorem d_Mo_leastOf_29 : decode c_Mo_leastOf 29 = .ok (.iconst 1, 1) := by decide +kernel
theorem d_Mo_leastOf_30 : decode c_Mo_leastOf 30 = .ok (.goto 4, 3) := by decide +kernel
theorem d_Mo_leastOf_33 : decode c_Mo_leastOf 33 = .ok (.iconst 0, 1) := by decide +kernel
theorem d_Mo_leastOf_34 : decode c_Mo_leastOf 34 = .ok (.isub, 1) := by decide +kernel
theorem d_Mo_leastOf_35 : decode c_Mo_leastOf 35 = .ok (.istore_n 2, 1) := by decide +kernel
theorem d_Mo_leastOf_36 : decode c_Mo_leastOf 36 = .ok (.iinc 3 1, 3) := by decide +kernel
theorem d_Mo_leastOf_39 : decode c_Mo_leastOf 39 = .ok (.goto (-35), 3) := by decide +kernel
theorem d_Mo_leastOf_42 : decode c_Mo_leastOf 42 = .ok (.iload_n 3, 1) := by decide +kernel
theorem d_Mo_leastOf_43 : decode c_Mo_leastOf 43 = .ok (.ireturn, 1) := by decide +kernel
theorem d_Mo_groups_0 : decode c_Mo_groups 0 = .ok (.iload_n 1, 1) := by decide +kernel
theorem d_Mo_groups_1 : decode c_Mo_groups 1 = .ok (.i2l, 1) := by decide +kernel
theorem d_Mo_groups_2 : decode c_Mo_groups 2 = .ok (.lconst 0, 1) := by decide +kernel
theorem d_Mo_groups_3 : decode c_Mo_groups 3 = .ok (.ldc2_w 202, 3) := by decide +kernel
theorem d_Mo_groups_6 : decode c_Mo_groups 6 = .ok (.invokestatic 63, 3) := by decide +kernel
theorem d_Mo_groups_9 : decode c_Mo_groups 9 = .ok (.ifCond .eq 11, 3) := by decide +kernel
theorem d_Mo_groups_12 : decode c_Mo_groups 12 = .ok (.aload_n 0, 1) := by decide +kernel
theorem d_Mo_groups_13 : decode c_Mo_groups 13 = .ok (.iload_n 1, 1) := by decide +kernel
theorem d_Mo_groups_14 : decode c_Mo_groups 14 = .ok (.invokevirtual 204, 3) := by decide +kernel
theorem d_Mo_groups_17 : decode c_Mo_groups 17 = .ok (.goto 5, 3) := by decide +kernel
theorem d_Mo_groups_20 : decode c_Mo_groups 20 = .ok (.ldc 144, 2) := by decide +kernel
theorem d_Mo_groups_22 : decode c_Mo_groups 22 = .ok (.ireturn, 1) := by decide +kernel
theorem d_Mo_manyOf_0 : decode c_Mo_manyOf 0 = .ok (.iconst 0, 1) := by decide +kernel
theorem d_Mo_manyOf_1 : decode c_Mo_manyOf 1 = .ok (.istore_n 2, 1) := by decide +kernel
theorem d_Mo_manyOf_2 : decode c_Mo_manyOf 2 = .ok (.iconst 0, 1) := by decide +kernel
theorem d_Mo_manyOf_3 : decode c_Mo_manyOf 3 = .ok (.istore_n 3, 1) := by decide +kernel
theorem d_Mo_manyOf_4 : decode c_Mo_manyOf 4 = .ok (.iload_n 3, 1) := by decide +kernel
theorem d_Mo_manyOf_5 : decode c_Mo_manyOf 5 = .ok (.aload_n 0, 1) := by decide +kernel
theorem d_Mo_manyOf_6 : decode c_Mo_manyOf 6 = .ok (.invokevirtual 59, 3) := by decide +kernel
theorem d_Mo_manyOf_9 : decode c_Mo_manyOf 9 = .ok (.if_icmp .ge 27, 3) := by decide +kernel
theorem d_Mo_manyOf_12 : decode c_Mo_manyOf 12 = .ok (.iload_n 2, 1) := by decide +kernel
theorem d_Mo_manyOf_13 : decode c_Mo_manyOf 13 = .ok (.aload_n 0, 1) := by decide +kernel
theorem d_Mo_manyOf_14 : decode c_Mo_manyOf 14 = .ok (.getfield 51, 3) := by decide +kernel
theorem d_Mo_manyOf_17 : decode c_Mo_manyOf 17 = .ok (.iload_n 3, 1) := by decide +kernel
theorem d_Mo_manyOf_18 : decode c_Mo_manyOf 18 = .ok (.iaload, 1) := by decide +kernel
theorem d_Mo_manyOf_19 : decode c_Mo_manyOf 19 = .ok (.iload_n 1, 1) := by decide +kernel
theorem d_Mo_manyOf_20 : decode c_Mo_manyOf 20 = .ok (.if_icmp .ne 7, 3) := by decide +kernel
theorem d_Mo_manyOf_23 : decode c_Mo_manyOf 23 = .ok (.iconst 1, 1) := by decide +kernel
theorem d_Mo_manyOf_24 : decode c_Mo_manyOf 24 = .ok (.goto 4, 3) := by decide +kernel
theorem d_Mo_manyOf_27 : decode c_Mo_manyOf 27 = .ok (.iconst 0, 1) := by decide +kernel
theorem d_Mo_manyOf_28 : decode c_Mo_manyOf 28 = .ok (.iadd, 1) := by decide +kernel
theorem d_Mo_manyOf_29 : decode c_Mo_manyOf 29 = .ok (.istore_n 2, 1) := by decide +kernel
theorem d_Mo_manyOf_30 : decode c_Mo_manyOf 30 = .ok (.iinc 3 1, 3) := by decide +kernel
theorem d_Mo_manyOf_33 : decode c_Mo_manyOf 33 = .ok (.goto (-29), 3) := by decide +kernel
theorem d_Mo_manyOf_36 : decode c_Mo_manyOf 36 = .ok (.iload_n 2, 1) := by decide +kernel
theorem d_Mo_manyOf_37 : decode c_Mo_manyOf 37 = .ok (.ireturn, 1) := by decide +kernel
theorem d_Mo_wide_0 : decode c_Mo_wide 0 = .ok (.iconst 0, 1) := by decide +kernel
theorem d_Mo_wide_1 : decode c_Mo_wide 1 = .ok (.istore_n 2, 1) := by decide +kernel
theorem d_Mo_wide_2 : decode c_Mo_wide 2 = .ok (.iconst 0, 1) := by decide +kernel
theorem d_Mo_wide_3 : decode c_Mo_wide 3 = .ok (.istore_n 3, 1) := by decide +kernel
theorem d_Mo_wide_4 : decode c_Mo_wide 4 = .ok (.iload_n 3, 1) := by decide +kernel
theorem d_Mo_wide_5 : decode c_Mo_wide 5 = .ok (.aload_n 0, 1) := by decide +kernel
theorem d_Mo_wide_6 : decode c_Mo_wide 6 = .ok (.invokevirtual 59, 3) := by decide +kernel
theorem d_Mo_wide_9 : decode c_Mo_wide 9 = .ok (.if_icmp .ge 79, 3) := by decide +kernel
theorem d_Mo_wide_12 : decode c_Mo_wide 12 = .ok (.iconst 0, 1) := by decide +kernel
theorem d_Mo_wide_13 : decode c_Mo_wide 13 = .ok (.istore 4, 2) := by decide +kernel
theorem d_Mo_wide_15 : decode c_Mo_wide 15 = .ok (.iload 4, 2) := by decide +kernel
theorem d_Mo_wide_17 : decode c_Mo_wide 17 = .ok (.iload_n 3, 1) := by decide +kernel
theorem d_Mo_wide_18 : decode c_Mo_wide 18 = .ok (.if_icmp .ge 64, 3) := by decide +kernel
theorem d_Mo_wide_21 : decode c_Mo_wide 21 = .ok (.aload_n 0, 1) := by decide +kernel
theorem d_Mo_wide_22 : decode c_Mo_wide 22 = .ok (.getfield 51, 3) := by decide +kernel
theorem d_Mo_wide_25 : decode c_Mo_wide 25 = .ok (.iload_n 3, 1) := by decide +kernel
theorem d_Mo_wide_26 : decode c_Mo_wide 26 = .ok (.iaload, 1) := by decide +kernel
theorem d_Mo_wide_27 : decode c_Mo_wide 27 = .ok (.iload_n 1, 1) := by decide +kernel
theorem d_Mo_wide_28 : decode c_Mo_wide 28 = .ok (.if_icmp .ne 32, 3) := by decide +kernel
theorem d_Mo_wide_31 : decode c_Mo_wide 31 = .ok (.aload_n 0, 1) := by decide +kernel
theorem d_Mo_wide_32 : decode c_Mo_wide 32 = .ok (.getfield 51, 3) := by decide +kernel
theorem d_Mo_wide_35 : decode c_Mo_wide 35 = .ok (.iload 4, 2) := by decide +kernel
theorem d_Mo_wide_37 : decode c_Mo_wide 37 = .ok (.iaload, 1) := by decide +kernel
theorem d_Mo_wide_38 : decode c_Mo_wide 38 = .ok (.iload_n 1, 1) := by decide +kernel
theorem d_Mo_wide_39 : decode c_Mo_wide 39 = .ok (.if_icmp .ne 21, 3) := by decide +kernel
theorem d_Mo_wide_42 : decode c_Mo_wide 42 = .ok (.aload_n 0, 1) := by decide +kernel
theorem d_Mo_wide_43 : decode c_Mo_wide 43 = .ok (.iload_n 3, 1) := by decide +kernel
theorem d_Mo_wide_44 : decode c_Mo_wide 44 = .ok (.invokevirtual 67, 3) := by decide +kernel
theorem d_Mo_wide_47 : decode c_Mo_wide 47 = .ok (.aload_n 0, 1) := by decide +kernel
theorem d_Mo_wide_48 : decode c_Mo_wide 48 = .ok (.iload 4, 2) := by decide +kernel
theorem d_Mo_wide_50 : decode c_Mo_wide 50 = .ok (.invokevirtual 67, 3) := by decide +kernel
theorem d_Mo_wide_53 : decode c_Mo_wide 53 = .ok (.lxor, 1) := by decide +kernel
theorem d_Mo_wide_54 : decode c_Mo_wide 54 = .ok (.invokestatic 71, 3) := by decide +kernel
theorem d_Mo_wide_57 : decode c_Mo_wide 57 = .ok (.goto 4, 3) := by decide +kernel
theorem d_Mo_wide_60 : decode c_Mo_wide 60 = .ok (.iconst 0, 1) := by decide +kernel
theorem d_Mo_wide_61 : decode c_Mo_wide 61 = .ok (.istore 5, 2) := by decide +kernel
theorem d_Mo_wide_63 : decode c_Mo_wide 63 = .ok (.iload 5, 2) := by decide +kernel
theorem d_Mo_wide_65 : decode c_Mo_wide 65 = .ok (.iload_n 2, 1) := by decide +kernel
theorem d_Mo_wide_66 : decode c_Mo_wide 66 = .ok (.if_icmp .le 8, 3) := by decide +kernel
theorem d_Mo_wide_69 : decode c_Mo_wide 69 = .ok (.iload 5, 2) := by decide +kernel
theorem d_Mo_wide_71 : decode c_Mo_wide 71 = .ok (.goto 4, 3) := by decide +kernel
theorem d_Mo_wide_74 : decode c_Mo_wide 74 = .ok (.iload_n 2, 1) := by decide +kernel
theorem d_Mo_wide_75 : decode c_Mo_wide 75 = .ok (.istore_n 2, 1) := by decide +kernel
theorem d_Mo_wide_76 : decode c_Mo_wide 76 = .ok (.iinc 4 1, 3) := by decide +kernel
theorem d_Mo_wide_79 : decode c_Mo_wide 79 = .ok (.goto (-64), 3) := by decide +kernel
theorem d_Mo_wide_82 : decode c_Mo_wide 82 = .ok (.iinc 3 1, 3) := by decide +kernel
theorem d_Mo_wide_85 : decode c_Mo_wide 85 = .ok (.goto (-81), 3) := by decide +kernel
theorem d_Mo_wide_88 : decode c_Mo_wide 88 = .ok (.iload_n 2, 1) := by decide +kernel
theorem d_Mo_wide_89 : decode c_Mo_wide 89 = .ok (.ireturn, 1) := by decide +kernel
theorem d_Mo_group_0 : decode c_Mo_group 0 = .ok (.iload_n 1, 1) := by decide +kernel
theorem d_Mo_group_1 : decode c_Mo_group 1 = .ok (.i2l, 1) := by decide +kernel
theorem d_Mo_group_2 : decode c_Mo_group 2 = .ok (.lconst 0, 1) := by decide +kernel
theorem d_Mo_group_3 : decode c_Mo_group 3 = .ok (.ldc2_w 202, 3) := by decide +kernel
theorem d_Mo_group_6 : decode c_Mo_group 6 = .ok (.invokestatic 63, 3) := by decide +kernel
theorem d_Mo_group_9 : decode c_Mo_group 9 = .ok (.ifCond .ne 6, 3) := by decide +kernel
theorem d_Mo_group_12 : decode c_Mo_group 12 = .ok (.ldc 144, 2) := by decide +kernel
theorem d_Mo_group_14 : decode c_Mo_group 14 = .ok (.ireturn, 1) := by decide +kernel
theorem d_Mo_group_15 : decode c_Mo_group 15 = .ok (.iload_n 2, 1) := by decide +kernel
theorem d_Mo_group_16 : decode c_Mo_group 16 = .ok (.i2l, 1) := by decide +kernel
theorem d_Mo_group_17 : decode c_Mo_group 17 = .ok (.lconst 0, 1) := by decide +kernel
theorem d_Mo_group_18 : decode c_Mo_group 18 = .ok (.aload_n 0, 1) := by decide +kernel
theorem d_Mo_group_19 : decode c_Mo_group 19 = .ok (.iload_n 1, 1) := by decide +kernel
theorem d_Mo_group_20 : decode c_Mo_group 20 = .ok (.invokevirtual 204, 3) := by decide +kernel
theorem d_Mo_group_23 : decode c_Mo_group 23 = .ok (.iconst 1, 1) := by decide +kernel
theorem d_Mo_group_24 : decode c_Mo_group 24 = .ok (.isub, 1) := by decide +kernel
theorem d_Mo_group_25 : decode c_Mo_group 25 = .ok (.i2l, 1) := by decide +kernel
theorem d_Mo_group_26 : decode c_Mo_group 26 = .ok (.invokestatic 63, 3) := by decide +kernel
theorem d_Mo_group_29 : decode c_Mo_group 29 = .ok (.ifCond .ne 6, 3) := by decide +kernel
theorem d_Mo_group_32 : decode c_Mo_group 32 = .ok (.ldc 145, 2) := by decide +kernel
theorem d_Mo_group_34 : decode c_Mo_group 34 = .ok (.ireturn, 1) := by decide +kernel
theorem d_Mo_group_35 : decode c_Mo_group 35 = .ok (.aload_n 0, 1) := by decide +kernel
theorem d_Mo_group_36 : decode c_Mo_group 36 = .ok (.iload_n 2, 1) := by decide +kernel
theorem d_Mo_group_37 : decode c_Mo_group 37 = .ok (.invokevirtual 207, 3) := by decide +kernel
theorem d_Mo_group_40 : decode c_Mo_group 40 = .ok (.istore 4, 2) := by decide +kernel
theorem d_Mo_group_42 : decode c_Mo_group 42 = .ok (.iload_n 3, 1) := by decide +kernel
theorem d_Mo_group_43 : decode c_Mo_group 43 = .ok (.tableswitch 42 0 2 #[25, 32, 35], 25) := by decide +kernel
theorem d_Mo_group_68 : decode c_Mo_group 68 = .ok (.aload_n 0, 1) := by decide +kernel
theorem d_Mo_group_69 : decode c_Mo_group 69 = .ok (.iload 4, 2) := by decide +kernel
theorem d_Mo_group_71 : decode c_Mo_group 71 = .ok (.invokevirtual 210, 3) := by decide +kernel
theorem d_Mo_group_74 : decode c_Mo_group 74 = .ok (.ireturn, 1) := by decide +kernel
theorem d_Mo_group_75 : decode c_Mo_group 75 = .ok (.iload 4, 2) := by decide +kernel
theorem d_Mo_group_77 : decode c_Mo_group 77 = .ok (.ireturn, 1) := by decide +kernel
theorem d_Mo_group_78 : decode c_Mo_group 78 = .ok (.aload_n 0, 1) := by decide +kernel
theorem d_Mo_group_79 : decode c_Mo_group 79 = .ok (.iload 4, 2) := by decide +kernel
theorem d_Mo_group_81 : decode c_Mo_group 81 = .ok (.invokevirtual 213, 3) := by decide +kernel
theorem d_Mo_group_84 : decode c_Mo_group 84 = .ok (.ireturn, 1) := by decide +kernel
theorem d_Mo_group_85 : decode c_Mo_group 85 = .ok (.ldc 144, 2) := by decide +kernel
theorem d_Mo_group_87 : decode c_Mo_group 87 = .ok (.ireturn, 1) := by decide +kernel
theorem d_Mo_middle_0 : decode c_Mo_middle 0 = .ok (.iload_n 1, 1) := by decide +kernel
theorem d_Mo_middle_1 : decode c_Mo_middle 1 = .ok (.i2l, 1) := by decide +kernel
theorem d_Mo_middle_2 : decode c_Mo_middle 2 = .ok (.lconst 0, 1) := by decide +kernel
theorem d_Mo_middle_3 : decode c_Mo_middle 3 = .ok (.ldc2_w 202, 3) := by decide +kernel
theorem d_Mo_middle_6 : decode c_Mo_middle 6 = .ok (.invokestatic 63, 3) := by decide +kernel
theorem d_Mo_middle_9 : decode c_Mo_middle 9 = .ok (.ifCond .eq 20, 3) := by decide +kernel
theorem d_Mo_middle_12 : decode c_Mo_middle 12 = .ok (.iload_n 2, 1) := by decide +kernel
theorem d_Mo_middle_13 : decode c_Mo_middle 13 = .ok (.i2l, 1) := by decide +kernel
theorem d_Mo_middle_14 : decode c_Mo_middle 14 = .ok (.lconst 0, 1) := by decide +kernel
theorem d_Mo_middle_15 : decode c_Mo_middle 15 = .ok (.aload_n 0, 1) := by decide +kernel
theorem d_Mo_middle_16 : decode c_Mo_middle 16 = .ok (.iload_n 1, 1) := by decide +kernel
theorem d_Mo_middle_17 : decode c_Mo_middle 17 = .ok (.invokevirtual 204, 3) := by decide +kernel
theorem d_Mo_middle_20 : decode c_Mo_middle 20 = .ok (.iconst 1, 1) := by decide +kernel
theorem d_Mo_middle_21 : decode c_Mo_middle 21 = .ok (.isub, 1) := by decide +kernel
theorem d_Mo_middle_22 : decode c_Mo_middle 22 = .ok (.i2l, 1) := by decide +kernel
theorem d_Mo_middle_23 : decode c_Mo_middle 23 = .ok (.invokestatic 63, 3) := by decide +kernel
theorem d_Mo_middle_26 : decode c_Mo_middle 26 = .ok (.ifCond .ne 5, 3) := by decide +kernel
theorem d_Mo_middle_29 : decode c_Mo_middle 29 = .ok (.lconst 0, 1) := by decide +kernel
theorem d_Mo_middle_30 : decode c_Mo_middle 30 = .ok (.lreturn, 1) := by decide +kernel
theorem d_Mo_middle_31 : decode c_Mo_middle 31 = .ok (.aload_n 0, 1) := by decide +kernel
theorem d_Mo_middle_32 : decode c_Mo_middle 32 = .ok (.iload_n 2, 1) := by decide +kernel
theorem d_Mo_middle_33 : decode c_Mo_middle 33 = .ok (.invokevirtual 207, 3) := by decide +kernel
theorem d_Mo_middle_36 : decode c_Mo_middle 36 = .ok (.istore_n 3, 1) := by decide +kernel
theorem d_Mo_middle_37 : decode c_Mo_middle 37 = .ok (.lconst 0, 1) := by decide +kernel
theorem d_Mo_middle_38 : decode c_Mo_middle 38 = .ok (.lstore 4, 2) := by decide +kernel
theorem d_Mo_middle_40 : decode c_Mo_middle 40 = .ok (.iconst 0, 1) := by decide +kernel
theorem d_Mo_middle_41 : decode c_Mo_middle 41 = .ok (.istore 6, 2) := by decide +kernel
theorem d_Mo_middle_43 : decode c_Mo_middle 43 = .ok (.iload 6, 2) := by decide +kernel
theorem d_Mo_middle_45 : decode c_Mo_middle 45 = .ok (.bipush 64, 2) := by decide +kernel
theorem d_Mo_middle_47 : decode c_Mo_middle 47 = .ok (.if_icmp .ge 90, 3) := by decide +kernel
theorem d_Mo_middle_50 : decode c_Mo_middle 50 = .ok (.iconst 0, 1) := by decide +kernel
theorem d_Mo_middle_51 : decode c_Mo_middle 51 = .ok (.istore 7, 2) := by decide +kernel
theorem d_Mo_middle_53 : decode c_Mo_middle 53 = .ok (.iconst 0, 1) := by decide +kernel
theorem d_Mo_middle_54 : decode c_Mo_middle 54 = .ok (.istore 8, 2) := by decide +kernel
theorem d_Mo_middle_56 : decode c_Mo_middle 56 = .ok (.iload 8, 2) := by decide +kernel
theorem d_Mo_middle_58 : decode c_Mo_middle 58 = .ok (.aload_n 0, 1) := by decide +kernel
theorem d_Mo_middle_59 : decode c_Mo_middle 59 = .ok (.invokevirtual 59, 3) := by decide +kernel
theorem d_Mo_middle_62 : decode c_Mo_middle 62 = .ok (.if_icmp .ge 44, 3) := by decide +kernel
theorem d_Mo_middle_65 : decode c_Mo_middle 65 = .ok (.iload 7, 2) := by decide +kernel
theorem d_Mo_middle_67 : decode c_Mo_middle 67 = .ok (.aload_n 0, 1) := by decide +kernel
theorem d_Mo_middle_68 : decode c_Mo_middle 68 = .ok (.getfield 51, 3) := by decide +kernel
theorem d_Mo_middle_71 : decode c_Mo_middle 71 = .ok (.iload 8, 2) := by decide +kernel
theorem d_Mo_middle_73 : decode c_Mo_middle 73 = .ok (.iaload, 1) := by decide +kernel
theorem d_Mo_middle_74 : decode c_Mo_middle 74 = .ok (.iload_n 3, 1) := by decide +kernel
theorem d_Mo_middle_75 : decode c_Mo_middle 75 = .ok (.if_icmp .ne 21, 3) := by decide +kernel
theorem d_Mo_middle_78 : decode c_Mo_middle 78 = .ok (.aload_n 0, 1) := by decide +kernel
theorem d_Mo_middle_79 : decode c_Mo_middle 79 = .ok (.iload 8, 2) := by decide +kernel
theorem d_Mo_middle_81 : decode c_Mo_middle 81 = .ok (.invokevirtual 67, 3) := by decide +kernel
theorem d_Mo_middle_84 : decode c_Mo_middle 84 = .ok (.iload 6, 2) := by decide +kernel
theorem d_Mo_middle_86 : decode c_Mo_middle 86 = .ok (.invokestatic 75, 3) := by decide +kernel
theorem d_Mo_middle_89 : decode c_Mo_middle 89 = .ok (.ifCond .eq 7, 3) := by decide +kernel
theorem d_Mo_middle_92 : decode c_Mo_middle 92 = .ok (.iconst 1, 1) := by decide +kernel
theorem d_Mo_middle_93 : decode c_Mo_middle 93 = .ok (.goto 4, 3) := by decide +kernel
theorem d_Mo_middle_96 : decode c_Mo_middle 96 = .ok (.iconst 0, 1) := by decide +kernel
theorem d_Mo_middle_97 : decode c_Mo_middle 97 = .ok (.iadd, 1) := by decide +kernel
theorem d_Mo_middle_98 : decode c_Mo_middle 98 = .ok (.istore 7, 2) := by decide +kernel
theorem d_Mo_middle_100 : decode c_Mo_middle 100 = .ok (.iinc 8 1, 3) := by decide +kernel
theorem d_Mo_middle_103 : decode c_Mo_middle 103 = .ok (.goto (-47), 3) := by decide +kernel
theorem d_Mo_middle_106 : decode c_Mo_middle 106 = .ok (.lload 4, 2) := by decide +kernel
theorem d_Mo_middle_108 : decode c_Mo_middle 108 = .ok (.iconst 2, 1) := by decide +kernel
theorem d_Mo_middle_109 : decode c_Mo_middle 109 = .ok (.iload 7, 2) := by decide +kernel
theorem d_Mo_middle_111 : decode c_Mo_middle 111 = .ok (.imul, 1) := by decide +kernel
theorem d_Mo_middle_112 : decode c_Mo_middle 112 = .ok (.aload_n 0, 1) := by decide +kernel
theorem d_Mo_middle_113 : decode c_Mo_middle 113 = .ok (.iload_n 3, 1) := by decide +kernel
theorem d_Mo_middle_114 : decode c_Mo_middle 114 = .ok (.invokevirtual 210, 3) := by decide +kernel
theorem d_Mo_middle_117 : decode c_Mo_middle 117 = .ok (.if_icmp .le 10, 3) := by decide +kernel
theorem d_Mo_middle_120 : decode c_Mo_middle 120 = .ok (.lconst 1, 1) := by decide +kernel
theorem d_Mo_middle_121 : decode c_Mo_middle 121 = .ok (.iload 6, 2) := by decide +kernel
theorem d_Mo_middle_123 : decode c_Mo_middle 123 = .ok (.lshl, 1) := by decide +kernel
theorem d_Mo_middle_124 : decode c_Mo_middle 124 = .ok (.goto 4, 3) := by decide +kernel
theorem d_Mo_middle_127 : decode c_Mo_middle 127 = .ok (.lconst 0, 1) := by decide +kernel
theorem d_Mo_middle_128 : decode c_Mo_middle 128 = .ok (.lor, 1) := by decide +kernel
theorem d_Mo_middle_129 : decode c_Mo_middle 129 = .ok (.lstore 4, 2) := by decide +kernel
theorem d_Mo_middle_131 : decode c_Mo_middle 131 = .ok (.iinc 6 1, 3) := by decide +kernel
theorem d_Mo_middle_134 : decode c_Mo_middle 134 = .ok (.goto (-91), 3) := by decide +kernel
theorem d_Mo_middle_137 : decode c_Mo_middle 137 = .ok (.lload 4, 2) := by decide +kernel
theorem d_Mo_middle_139 : decode c_Mo_middle 139 = .ok (.lreturn, 1) := by decide +kernel
theorem d_Mo_isMore_0 : decode c_Mo_isMore 0 = .ok (.bipush 64, 2) := by decide +kernel
theorem d_Mo_isMore_2 : decode c_Mo_isMore 2 = .ok (.iload_n 1, 1) := by decide +kernel
theorem d_Mo_isMore_3 : decode c_Mo_isMore 3 = .ok (.irem, 1) := by decide +kernel
theorem d_Mo_isMore_4 : decode c_Mo_isMore 4 = .ok (.istore_n 3, 1) := by decide +kernel
theorem d_Mo_isMore_5 : decode c_Mo_isMore 5 = .ok (.iload_n 2, 1) := by decide +kernel
theorem d_Mo_isMore_6 : decode c_Mo_isMore 6 = .ok (.iconst 2, 1) := by decide +kernel
theorem d_Mo_isMore_7 : decode c_Mo_isMore 7 = .ok (.if_icmp .ge 33, 3) := by decide +kernel
theorem d_Mo_isMore_10 : decode c_Mo_isMore 10 = .ok (.iload_n 2, 1) := by decide +kernel
theorem d_Mo_isMore_11 : decode c_Mo_isMore 11 = .ok (.ifCond .ne 16, 3) := by decide +kernel
theorem d_Mo_isMore_14 : decode c_Mo_isMore 14 = .ok (.iload_n 0, 1) := by decide +kernel
theorem d_Mo_isMore_15 : decode c_Mo_isMore 15 = .ok (.iload_n 3, 1) := by decide +kernel
theorem d_Mo_isMore_16 : decode c_Mo_isMore 16 = .ok (.if_icmp .ge 7, 3) := by decide +kernel
theorem d_Mo_isMore_19 : decode c_Mo_isMore 19 = .ok (.iconst 1, 1) := by decide +kernel
theorem d_Mo_isMore_20 : decode c_Mo_isMore 20 = .ok (.goto 19, 3) := by decide +kernel
theorem d_Mo_isMore_23 : decode c_Mo_isMore 23 = .ok (.iconst 0, 1) := by decide +kernel
theorem d_Mo_isMore_24 : decode c_Mo_isMore 24 = .ok (.goto 15, 3) := by decide +kernel
theorem d_Mo_isMore_27 : decode c_Mo_isMore 27 = .ok (.iload_n 0, 1) := by decide +kernel
theorem d_Mo_isMore_28 : decode c_Mo_isMore 28 = .ok (.iload_n 1, 1) := by decide +kernel
theorem d_Mo_isMore_29 : decode c_Mo_isMore 29 = .ok (.iload_n 3, 1) := by decide +kernel
theorem d_Mo_isMore_30 : decode c_Mo_isMore 30 = .ok (.isub, 1) := by decide +kernel
theorem d_Mo_isMore_31 : decode c_Mo_isMore 31 = .ok (.if_icmp .lt 7, 3) := by decide +kernel
theorem d_Mo_isMore_34 : decode c_Mo_isMore 34 = .ok (.iconst 1, 1) := by decide +kernel
theorem d_Mo_isMore_35 : decode c_Mo_isMore 35 = .ok (.goto 4, 3) := by decide +kernel
theorem d_Mo_isMore_38 : decode c_Mo_isMore 38 = .ok (.iconst 0, 1) := by decide +kernel
theorem d_Mo_isMore_39 : decode c_Mo_isMore 39 = .ok (.ireturn, 1) := by decide +kernel
theorem d_Mo_isMore_40 : decode c_Mo_isMore 40 = .ok (.iload_n 0, 1) := by decide +kernel
theorem d_Mo_isMore_41 : decode c_Mo_isMore 41 = .ok (.iconst 2, 1) := by decide +kernel
theorem d_Mo_isMore_42 : decode c_Mo_isMore 42 = .ok (.irem, 1) := by decide +kernel
theorem d_Mo_isMore_43 : decode c_Mo_isMore 43 = .ok (.ifCond .ne 9, 3) := by decide +kernel
theorem d_Mo_isMore_46 : decode c_Mo_isMore 46 = .ok (.iload_n 0, 1) := by decide +kernel
theorem d_Mo_isMore_47 : decode c_Mo_isMore 47 = .ok (.iconst 2, 1) := by decide +kernel
theorem d_Mo_isMore_48 : decode c_Mo_isMore 48 = .ok (.idiv, 1) := by decide +kernel
theorem d_Mo_isMore_49 : decode c_Mo_isMore 49 = .ok (.goto 12, 3) := by decide +kernel
theorem d_Mo_isMore_52 : decode c_Mo_isMore 52 = .ok (.iload_n 1, 1) := by decide +kernel
theorem d_Mo_isMore_53 : decode c_Mo_isMore 53 = .ok (.iconst 1, 1) := by decide +kernel
theorem d_Mo_isMore_54 : decode c_Mo_isMore 54 = .ok (.iadd, 1) := by decide +kernel
theorem d_Mo_isMore_55 : decode c_Mo_isMore 55 = .ok (.iconst 2, 1) := by decide +kernel
theorem d_Mo_isMore_56 : decode c_Mo_isMore 56 = .ok (.idiv, 1) := by decide +kernel
theorem d_Mo_isMore_57 : decode c_Mo_isMore 57 = .ok (.iload_n 0, 1) := by decide +kernel
theorem d_Mo_isMore_58 : decode c_Mo_isMore 58 = .ok (.iconst 2, 1) := by decide +kernel
theorem d_Mo_isMore_59 : decode c_Mo_isMore 59 = .ok (.idiv, 1) := by decide +kernel
theorem d_Mo_isMore_60 : decode c_Mo_isMore 60 = .ok (.iadd, 1) := by decide +kernel
theorem d_Mo_isMore_61 : decode c_Mo_isMore 61 = .ok (.istore 4, 2) := by decide +kernel
theorem d_Mo_isMore_63 : decode c_Mo_isMore 63 = .ok (.iload 4, 2) := by decide +kernel
theorem d_Mo_isMore_65 : decode c_Mo_isMore 65 = .ok (.iload_n 3, 1) := by decide +kernel
theorem d_Mo_isMore_66 : decode c_Mo_isMore 66 = .ok (.if_icmp .ge 7, 3) := by decide +kernel
theorem d_Mo_isMore_69 : decode c_Mo_isMore 69 = .ok (.iconst 1, 1) := by decide +kernel
theorem d_Mo_isMore_70 : decode c_Mo_isMore 70 = .ok (.goto 4, 3) := by decide +kernel
theorem d_Mo_isMore_73 : decode c_Mo_isMore 73 = .ok (.iconst 0, 1) := by decide +kernel
theorem d_Mo_isMore_74 : decode c_Mo_isMore 74 = .ok (.ireturn, 1) := by decide +kernel
theorem d_Mo_cutBy_0 : decode c_Mo_cutBy 0 = .ok (.lconst 0, 1) := by decide +kernel
theorem d_Mo_cutBy_1 : decode c_Mo_cutBy 1 = .ok (.lstore_n 2, 1) := by decide +kernel
theorem d_Mo_cutBy_2 : decode c_Mo_cutBy 2 = .ok (.iconst 0, 1) := by decide +kernel
theorem d_Mo_cutBy_3 : decode c_Mo_cutBy 3 = .ok (.istore 4, 2) := by decide +kernel
theorem d_Mo_cutBy_5 : decode c_Mo_cutBy 5 = .ok (.iconst 0, 1) := by decide +kernel
theorem d_Mo_cutBy_6 : decode c_Mo_cutBy 6 = .ok (.istore 5, 2) := by decide +kernel
theorem d_Mo_cutBy_8 : decode c_Mo_cutBy 8 = .ok (.iload 5, 2) := by decide +kernel
theorem d_Mo_cutBy_10 : decode c_Mo_cutBy 10 = .ok (.iload_n 0, 1) := by decide +kernel
theorem d_Mo_cutBy_11 : decode c_Mo_cutBy 11 = .ok (.if_icmp .ge 41, 3) := by decide +kernel
theorem d_Mo_cutBy_14 : decode c_Mo_cutBy 14 = .ok (.lload_n 2, 1) := by decide +kernel
theorem d_Mo_cutBy_15 : decode c_Mo_cutBy 15 = .ok (.lconst 1, 1) := by decide +kernel
theorem d_Mo_cutBy_16 : decode c_Mo_cutBy 16 = .ok (.iload 4, 2) := by decide +kernel
theorem d_Mo_cutBy_18 : decode c_Mo_cutBy 18 = .ok (.lshl, 1) := by decide +kernel
theorem d_Mo_cutBy_19 : decode c_Mo_cutBy 19 = .ok (.lor, 1) := by decide +kernel
theorem d_Mo_cutBy_20 : decode c_Mo_cutBy 20 = .ok (.lstore_n 2, 1) := by decide +kernel
theorem d_Mo_cutBy_21 : decode c_Mo_cutBy 21 = .ok (.iload 4, 2) := by decide +kernel
theorem d_Mo_cutBy_23 : decode c_Mo_cutBy 23 = .ok (.bipush 64, 2) := by decide +kernel
theorem d_Mo_cutBy_25 : decode c_Mo_cutBy 25 = .ok (.iload_n 0, 1) := by decide +kernel
theorem d_Mo_cutBy_26 : decode c_Mo_cutBy 26 = .ok (.idiv, 1) := by decide +kernel
theorem d_Mo_cutBy_27 : decode c_Mo_cutBy 27 = .ok (.iload 5, 2) := by decide +kernel
theorem d_Mo_cutBy_29 : decode c_Mo_cutBy 29 = .ok (.iload_n 0, 1) := by decide +kernel
theorem d_Mo_cutBy_30 : decode c_Mo_cutBy 30 = .ok (.iload_n 1, 1) := by decide +kernel
theorem d_Mo_cutBy_31 : decode c_Mo_cutBy 31 = .ok (.invokestatic 216, 3) := by decide +kernel
theorem d_Mo_cutBy_34 : decode c_Mo_cutBy 34 = .ok (.ifCond .eq 7, 3) := by decide +kernel
theorem d_Mo_cutBy_37 : decode c_Mo_cutBy 37 = .ok (.iconst 1, 1) := by decide +kernel
theorem d_Mo_cutBy_38 : decode c_Mo_cutBy 38 = .ok (.goto 4, 3) := by decide +kernel
theorem d_Mo_cutBy_41 : decode c_Mo_cutBy 41 = .ok (.iconst 0, 1) := by decide +kernel
theorem d_Mo_cutBy_42 : decode c_Mo_cutBy 42 = .ok (.iadd, 1) := by decide +kernel
theorem d_Mo_cutBy_43 : decode c_Mo_cutBy 43 = .ok (.iadd, 1) := by decide +kernel
theorem d_Mo_cutBy_44 : decode c_Mo_cutBy 44 = .ok (.istore 4, 2) := by decide +kernel
theorem d_Mo_cutBy_46 : decode c_Mo_cutBy 46 = .ok (.iinc 5 1, 3) := by decide +kernel
theorem d_Mo_cutBy_49 : decode c_Mo_cutBy 49 = .ok (.goto (-41), 3) := by decide +kernel
theorem d_Mo_cutBy_52 : decode c_Mo_cutBy 52 = .ok (.lload_n 2, 1) := by decide +kernel
theorem d_Mo_cutBy_53 : decode c_Mo_cutBy 53 = .ok (.lreturn, 1) := by decide +kernel
theorem d_Mo_fewest_0 : decode c_Mo_fewest 0 = .ok (.iload_n 1, 1) := by decide +kernel
theorem d_Mo_fewest_1 : decode c_Mo_fewest 1 = .ok (.i2l, 1) := by decide +kernel
theorem d_Mo_fewest_2 : decode c_Mo_fewest 2 = .ok (.lconst 1, 1) := by decide +kernel
theorem d_Mo_fewest_3 : decode c_Mo_fewest 3 = .ok (.ldc2_w 220, 3) := by decide +kernel
theorem d_Mo_fewest_6 : decode c_Mo_fewest 6 = .ok (.invokestatic 63, 3) := by decide +kernel
theorem d_Mo_fewest_9 : decode c_Mo_fewest 9 = .ok (.ifCond .eq 13, 3) := by decide +kernel
theorem d_Mo_fewest_12 : decode c_Mo_fewest 12 = .ok (.iload_n 2, 1) := by decide +kernel
theorem d_Mo_fewest_13 : decode c_Mo_fewest 13 = .ok (.i2l, 1) := by decide +kernel
theorem d_Mo_fewest_14 : decode c_Mo_fewest 14 = .ok (.lconst 0, 1) := by decide +kernel
theorem d_Mo_fewest_15 : decode c_Mo_fewest 15 = .ok (.lconst 1, 1) := by decide +kernel
theorem d_Mo_fewest_16 : decode c_Mo_fewest 16 = .ok (.invokestatic 63, 3) := by decide +kernel
theorem d_Mo_fewest_19 : decode c_Mo_fewest 19 = .ok (.ifCond .ne 6, 3) := by decide +kernel
theorem d_Mo_fewest_22 : decode c_Mo_fewest 22 = .ok (.ldc 144, 2) := by decide +kernel
theorem d_Mo_fewest_24 : decode c_Mo_fewest 24 = .ok (.ireturn, 1) := by decide +kernel
theorem d_Mo_fewest_25 : decode c_Mo_fewest 25 = .ok (.iconst 0, 1) := by decide +kernel
theorem d_Mo_fewest_26 : decode c_Mo_fewest 26 = .ok (.istore_n 3, 1) := by decide +kernel
theorem d_Mo_fewest_27 : decode c_Mo_fewest 27 = .ok (.iconst 0, 1) := by decide +kernel
theorem d_Mo_fewest_28 : decode c_Mo_fewest 28 = .ok (.istore 4, 2) := by decide +kernel
theorem d_Mo_fewest_30 : decode c_Mo_fewest 30 = .ok (.iconst 0, 1) := by decide +kernel
theorem d_Mo_fewest_31 : decode c_Mo_fewest 31 = .ok (.istore 5, 2) := by decide +kernel
theorem d_Mo_fewest_33 : decode c_Mo_fewest 33 = .ok (.iload 5, 2) := by decide +kernel
theorem d_Mo_fewest_35 : decode c_Mo_fewest 35 = .ok (.iconst 3, 1) := by decide +kernel
theorem d_Mo_fewest_36 : decode c_Mo_fewest 36 = .ok (.if_icmp .ge 122, 3) := by decide +kernel
theorem d_Mo_fewest_39 : decode c_Mo_fewest 39 = .ok (.iconst 0, 1) := by decide +kernel
theorem d_Mo_fewest_40 : decode c_Mo_fewest 40 = .ok (.istore 6, 2) := by decide +kernel
theorem d_Mo_fewest_42 : decode c_Mo_fewest 42 = .ok (.iconst 0, 1) := by decide +kernel
theorem d_Mo_fewest_43 : decode c_Mo_fewest 43 = .ok (.istore 7, 2) := by decide +kernel
theorem d_Mo_fewest_45 : decode c_Mo_fewest 45 = .ok (.iload 7, 2) := by decide +kernel
theorem d_Mo_fewest_47 : decode c_Mo_fewest 47 = .ok (.aload_n 0, 1) := by decide +kernel
theorem d_Mo_fewest_48 : decode c_Mo_fewest 48 = .ok (.invokevirtual 59, 3) := by decide +kernel
theorem d_Mo_fewest_51 : decode c_Mo_fewest 51 = .ok (.if_icmp .ge 61, 3) := by decide +kernel
theorem d_Mo_fewest_54 : decode c_Mo_fewest 54 = .ok (.iconst 0, 1) := by decide +kernel
theorem d_Mo_fewest_55 : decode c_Mo_fewest 55 = .ok (.istore 8, 2) := by decide +kernel
theorem d_Mo_fewest_57 : decode c_Mo_fewest 57 = .ok (.iload 8, 2) := by decide +kernel
theorem d_Mo_fewest_59 : decode c_Mo_fewest 59 = .ok (.aload_n 0, 1) := by decide +kernel
theorem d_Mo_fewest_60 : decode c_Mo_fewest 60 = .ok (.invokevirtual 59, 3) := by decide +kernel
theorem d_Mo_fewest_63 : decode c_Mo_fewest 63 = .ok (.if_icmp .ge 43, 3) := by decide +kernel
theorem d_Mo_fewest_66 : decode c_Mo_fewest 66 = .ok (.iload 6, 2) := by decide +kernel
theorem d_Mo_fewest_68 : decode c_Mo_fewest 68 = .ok (.aload_n 0, 1) := by decide +kernel
theorem d_Mo_fewest_69 : decode c_Mo_fewest 69 = .ok (.iload 7, 2) := by decide +kernel
theorem d_Mo_fewest_71 : decode c_Mo_fewest 71 = .ok (.invokevirtual 67, 3) := by decide +kernel
theorem d_Mo_fewest_74 : decode c_Mo_fewest 74 = .ok (.aload_n 0, 1) := by decide +kernel
theorem d_Mo_fewest_75 : decode c_Mo_fewest 75 = .ok (.iload 8, 2) := by decide +kernel
theorem d_Mo_fewest_77 : decode c_Mo_fewest 77 = .ok (.invokevirtual 67, 3) := by decide +kernel
theorem d_Mo_fewest_80 : decode c_Mo_fewest 80 = .ok (.iload_n 1, 1) := by decide +kernel
theorem d_Mo_fewest_81 : decode c_Mo_fewest 81 = .ok (.iload 5, 2) := by decide +kernel
theorem d_Mo_fewest_83 : decode c_Mo_fewest 83 = .ok (.invokestatic 222, 3) := by decide +kernel
theorem d_Mo_fewest_86 : decode c_Mo_fewest 86 = .ok (.invokestatic 79, 3) := by decide +kernel
theorem d_Mo_fewest_89 : decode c_Mo_fewest 89 = .ok (.ifCond .eq 7, 3) := by decide +kernel
theorem d_Mo_fewest_92 : decode c_Mo_fewest 92 = .ok (.iconst 1, 1) := by decide +kernel
theorem d_Mo_fewest_93 : decode c_Mo_fewest 93 = .ok (.goto 4, 3) := by decide +kernel
theorem d_Mo_fewest_96 : decode c_Mo_fewest 96 = .ok (.iconst 0, 1) := by decide +kernel
theorem d_Mo_fewest_97 : decode c_Mo_fewest 97 = .ok (.iadd, 1) := by decide +kernel
theorem d_Mo_fewest_98 : decode c_Mo_fewest 98 = .ok (.istore 6, 2) := by decide +kernel
theorem d_Mo_fewest_100 : decode c_Mo_fewest 100 = .ok (.iinc 8 1, 3) := by decide +kernel
theorem d_Mo_fewest_103 : decode c_Mo_fewest 103 = .ok (.goto (-46), 3) := by decide +kernel
theorem d_Mo_fewest_106 : decode c_Mo_fewest 106 = .ok (.iinc 7 1, 3) := by decide +kernel
theorem d_Mo_fewest_109 : decode c_Mo_fewest 109 = .ok (.goto (-64), 3) := by decide +kernel
theorem d_Mo_fewest_112 : decode c_Mo_fewest 112 = .ok (.iload 5, 2) := by decide +kernel
theorem d_Mo_fewest_114 : decode c_Mo_fewest 114 = .ok (.ifCond .le 15, 3) := by decide +kernel
theorem d_Mo_fewest_117 : decode c_Mo_fewest 117 = .ok (.iload 6, 2) := by decide +kernel
theorem d_Mo_fewest_119 : decode c_Mo_fewest 119 = .ok (.iload 4, 2) := by decide +kernel
theorem d_Mo_fewest_121 : decode c_Mo_fewest 121 = .ok (.if_icmp .ge 8, 3) := by decide +kernel
theorem d_Mo_fewest_124 : decode c_Mo_fewest 124 = .ok (.iload 5, 2) := by decide +kernel
theorem d_Mo_fewest_126 : decode c_Mo_fewest 126 = .ok (.goto 4, 3) := by decide +kernel
theorem d_Mo_fewest_129 : decode c_Mo_fewest 129 = .ok (.iload_n 3, 1) := by decide +kernel
theorem d_Mo_fewest_130 : decode c_Mo_fewest 130 = .ok (.istore_n 3, 1) := by decide +kernel
theorem d_Mo_fewest_131 : decode c_Mo_fewest 131 = .ok (.iload 5, 2) := by decide +kernel
theorem d_Mo_fewest_133 : decode c_Mo_fewest 133 = .ok (.ifCond .eq 10, 3) := by decide +kernel
theorem d_Mo_fewest_136 : decode c_Mo_fewest 136 = .ok (.iload 6, 2) := by decide +kernel
theorem d_Mo_fewest_138 : decode c_Mo_fewest 138 = .ok (.iload 4, 2) := by decide +kernel
theorem d_Mo_fewest_140 : decode c_Mo_fewest 140 = .ok (.if_icmp .ge 8, 3) := by decide +kernel
theorem d_Mo_fewest_143 : decode c_Mo_fewest 143 = .ok (.iload 6, 2) := by decide +kernel
theorem d_Mo_fewest_145 : decode c_Mo_fewest 145 = .ok (.goto 5, 3) := by decide +kernel
theorem d_Mo_fewest_148 : decode c_Mo_fewest 148 = .ok (.iload 4, 2) := by decide +kernel
theorem d_Mo_fewest_150 : decode c_Mo_fewest 150 = .ok (.istore 4, 2) := by decide +kernel
theorem d_Mo_fewest_152 : decode c_Mo_fewest 152 = .ok (.iinc 5 1, 3) := by decide +kernel
theorem d_Mo_fewest_155 : decode c_Mo_fewest 155 = .ok (.goto (-122), 3) := by decide +kernel
theorem d_Mo_fewest_158 : decode c_Mo_fewest 158 = .ok (.iload_n 2, 1) := by decide +kernel
theorem d_Mo_fewest_159 : decode c_Mo_fewest 159 = .ok (.ifCond .ne 8, 3) := by decide +kernel
theorem d_Mo_fewest_162 : decode c_Mo_fewest 162 = .ok (.iload 4, 2) := by decide +kernel
theorem d_Mo_fewest_164 : decode c_Mo_fewest 164 = .ok (.goto 4, 3) := by decide +kernel
theorem d_Mo_fewest_167 : decode c_Mo_fewest 167 = .ok (.iload_n 3, 1) := by decide +kernel
theorem d_Mo_fewest_168 : decode c_Mo_fewest 168 = .ok (.ireturn, 1) := by decide +kernel
theorem d_Mo_see_0 : decode c_Mo_see 0 = .ok (.iload_n 1, 1) := by decide +kernel
theorem d_Mo_see_1 : decode c_Mo_see 1 = .ok (.i2l, 1) := by decide +kernel
theorem d_Mo_see_2 : decode c_Mo_see 2 = .ok (.lconst 0, 1) := by decide +kernel
theorem d_Mo_see_3 : decode c_Mo_see 3 = .ok (.ldc2_w 202, 3) := by decide +kernel
theorem d_Mo_see_6 : decode c_Mo_see 6 = .ok (.invokestatic 63, 3) := by decide +kernel
theorem d_Mo_see_9 : decode c_Mo_see 9 = .ok (.ifCond .ne 6, 3) := by decide +kernel
theorem d_Mo_see_12 : decode c_Mo_see 12 = .ok (.ldc 144, 2) := by decide +kernel
theorem d_Mo_see_14 : decode c_Mo_see 14 = .ok (.ireturn, 1) := by decide +kernel
theorem d_Mo_see_15 : decode c_Mo_see 15 = .ok (.aload_n 0, 1) := by decide +kernel
theorem d_Mo_see_16 : decode c_Mo_see 16 = .ok (.getfield 100, 3) := by decide +kernel
theorem d_Mo_see_19 : decode c_Mo_see 19 = .ok (.bipush 6, 2) := by decide +kernel
theorem d_Mo_see_21 : decode c_Mo_see 21 = .ok (.if_icmp .ne 6, 3) := by decide +kernel
theorem d_Mo_see_24 : decode c_Mo_see 24 = .ok (.ldc 176, 2) := by decide +kernel
theorem d_Mo_see_26 : decode c_Mo_see 26 = .ok (.ireturn, 1) := by decide +kernel
theorem d_Mo_see_27 : decode c_Mo_see 27 = .ok (.aload_n 0, 1) := by decide +kernel
theorem d_Mo_see_28 : decode c_Mo_see 28 = .ok (.getfield 36, 3) := by decide +kernel
theorem d_Mo_see_31 : decode c_Mo_see 31 = .ok (.aload_n 0, 1) := by decide +kernel
theorem d_Mo_see_32 : decode c_Mo_see 32 = .ok (.getfield 100, 3) := by decide +kernel
theorem d_Mo_see_35 : decode c_Mo_see 35 = .ok (.aload_n 0, 1) := by decide +kernel
theorem d_Mo_see_36 : decode c_Mo_see 36 = .ok (.getfield 7, 3) := by decide +kernel
theorem d_Mo_see_39 : decode c_Mo_see 39 = .ok (.iconst 0, 1) := by decide +kernel
theorem d_Mo_see_40 : decode c_Mo_see 40 = .ok (.laload, 1) := by decide +kernel
theorem d_Mo_see_41 : decode c_Mo_see 41 = .ok (.lastore, 1) := by decide +kernel
theorem d_Mo_see_42 : decode c_Mo_see 42 = .ok (.aload_n 0, 1) := by decide +kernel
theorem d_Mo_see_43 : decode c_Mo_see 43 = .ok (.getfield 39, 3) := by decide +kernel
theorem d_Mo_see_46 : decode c_Mo_see 46 = .ok (.aload_n 0, 1) := by decide +kernel
theorem d_Mo_see_47 : decode c_Mo_see 47 = .ok (.getfield 100, 3) := by decide +kernel
theorem d_Mo_see_50 : decode c_Mo_see 50 = .ok (.iload_n 1, 1) := by decide +kernel
theorem d_Mo_see_51 : decode c_Mo_see 51 = .ok (.iastore, 1) := by decide +kernel
theorem d_Mo_see_52 : decode c_Mo_see 52 = .ok (.aload_n 0, 1) := by decide +kernel
theorem d_Mo_see_53 : decode c_Mo_see 53 = .ok (.dup, 1) := by decide +kernel
theorem d_Mo_see_54 : decode c_Mo_see 54 = .ok (.getfield 100, 3) := by decide +kernel
theorem d_Mo_see_57 : decode c_Mo_see 57 = .ok (.iconst 1, 1) := by decide +kernel
theorem d_Mo_see_58 : decode c_Mo_see 58 = .ok (.iadd, 1) := by decide +kernel
theorem d_Mo_see_59 : decode c_Mo_see 59 = .ok (.putfield 100, 3) := by decide +kernel
theorem d_Mo_see_62 : decode c_Mo_see 62 = .ok (.aload_n 0, 1) := by decide +kernel
theorem d_Mo_see_63 : decode c_Mo_see 63 = .ok (.getfield 100, 3) := by decide +kernel
theorem d_Mo_see_66 : decode c_Mo_see 66 = .ok (.ireturn, 1) := by decide +kernel
theorem d_Mo_write_0 : decode c_Mo_write 0 = .ok (.aload_n 0, 1) := by decide +kernel
theorem d_Mo_write_1 : decode c_Mo_write 1 = .ok (.iload_n 1, 1) := by decide +kernel
theorem d_Mo_write_2 : decode c_Mo_write 2 = .ok (.invokevirtual 114, 3) := by decide +kernel
theorem d_Mo_write_5 : decode c_Mo_write 5 = .ok (.ifCond .eq 16, 3) := by decide +kernel
theorem d_Mo_write_8 : decode c_Mo_write 8 = .ok (.aload_n 0, 1) := by decide +kernel
theorem d_Mo_write_9 : decode c_Mo_write 9 = .ok (.iload_n 2, 1) := by decide +kernel
theorem d_Mo_write_10 : decode c_Mo_write 10 = .ok (.invokevirtual 114, 3) := by decide +kernel
theorem d_Mo_write_13 : decode c_Mo_write 13 = .ok (.ifCond .eq 8, 3) := by decide +kernel
theorem d_Mo_write_16 : decode c_Mo_write 16 = .ok (.iload_n 1, 1) := by decide +kernel
theorem d_Mo_write_17 : decode c_Mo_write 17 = .ok (.iload_n 2, 1) := by decide +kernel
theorem d_Mo_write_18 : decode c_Mo_write 18 = .ok (.if_icmp .ne 6, 3) := by decide +kernel
theorem d_Mo_write_21 : decode c_Mo_write 21 = .ok (.ldc 145, 2) := by decide +kernel
theorem d_Mo_write_23 : decode c_Mo_write 23 = .ok (.ireturn, 1) := by decide +kernel
theorem d_Mo_write_24 : decode c_Mo_write 24 = .ok (.iload_n 3, 1) := by decide +kernel
theorem d_Mo_write_25 : decode c_Mo_write 25 = .ok (.i2l, 1) := by decide +kernel
theorem d_Mo_write_26 : decode c_Mo_write 26 = .ok (.lconst 0, 1) := by decide +kernel
theorem d_Mo_write_27 : decode c_Mo_write 27 = .ok (.ldc2_w 202, 3) := by decide +kernel
theorem d_Mo_write_30 : decode c_Mo_write 30 = .ok (.invokestatic 63, 3) := by decide +kernel
theorem d_Mo_write_33 : decode c_Mo_write 33 = .ok (.ifCond .ne 6, 3) := by decide +kernel
theorem d_Mo_write_36 : decode c_Mo_write 36 = .ok (.ldc 144, 2) := by decide +kernel
theorem d_Mo_write_38 : decode c_Mo_write 38 = .ok (.ireturn, 1) := by decide +kernel
theorem d_Mo_write_39 : decode c_Mo_write 39 = .ok (.aload_n 0, 1) := by decide +kernel
theorem d_Mo_write_40 : decode c_Mo_write 40 = .ok (.getfield 111, 3) := by decide +kernel
theorem d_Mo_write_43 : decode c_Mo_write 43 = .ok (.bipush 20, 2) := by decide +kernel
theorem d_Mo_write_45 : decode c_Mo_write 45 = .ok (.if_icmp .ne 6, 3) := by decide +kernel
theorem d_Mo_write_48 : decode c_Mo_write 48 = .ok (.ldc 176, 2) := by decide +kernel
theorem d_Mo_write_50 : decode c_Mo_write 50 = .ok (.ireturn, 1) := by decide +kernel
theorem d_Mo_write_51 : decode c_Mo_write 51 = .ok (.aload_n 0, 1) := by decide +kernel
theorem d_Mo_write_52 : decode c_Mo_write 52 = .ok (.getfield 42, 3) := by decide +kernel
theorem d_Mo_write_55 : decode c_Mo_write 55 = .ok (.aload_n 0, 1) := by decide +kernel
theorem d_Mo_write_56 : decode c_Mo_write 56 = .ok (.getfield 111, 3) := by decide +kernel
theorem d_Mo_write_59 : decode c_Mo_write 59 = .ok (.iload_n 1, 1) := by decide +kernel
theorem d_Mo_write_60 : decode c_Mo_write 60 = .ok (.iastore, 1) := by decide +kernel
theorem d_Mo_write_61 : decode c_Mo_write 61 = .ok (.aload_n 0, 1) := by decide +kernel
theorem d_Mo_write_62 : decode c_Mo_write 62 = .ok (.getfield 45, 3) := by decide +kernel
theorem d_Mo_write_65 : decode c_Mo_write 65 = .ok (.aload_n 0, 1) := by decide +kernel
theorem d_Mo_write_66 : decode c_Mo_write 66 = .ok (.getfield 111, 3) := by decide +kernel
theorem d_Mo_write_69 : decode c_Mo_write 69 = .ok (.iload_n 2, 1) := by decide +kernel
theorem d_Mo_write_70 : decode c_Mo_write 70 = .ok (.iastore, 1) := by decide +kernel
theorem d_Mo_write_71 : decode c_Mo_write 71 = .ok (.aload_n 0, 1) := by decide +kernel
theorem d_Mo_write_72 : decode c_Mo_write 72 = .ok (.getfield 48, 3) := by decide +kernel
theorem d_Mo_write_75 : decode c_Mo_write 75 = .ok (.aload_n 0, 1) := by decide +kernel
theorem d_Mo_write_76 : decode c_Mo_write 76 = .ok (.getfield 111, 3) := by decide +kernel
theorem d_Mo_write_79 : decode c_Mo_write 79 = .ok (.iload_n 3, 1) := by decide +kernel
theorem d_Mo_write_80 : decode c_Mo_write 80 = .ok (.iastore, 1) := by decide +kernel
theorem d_Mo_write_81 : decode c_Mo_write 81 = .ok (.aload_n 0, 1) := by decide +kernel
theorem d_Mo_write_82 : decode c_Mo_write 82 = .ok (.dup, 1) := by decide +kernel
theorem d_Mo_write_83 : decode c_Mo_write 83 = .ok (.getfield 111, 3) := by decide +kernel
theorem d_Mo_write_86 : decode c_Mo_write 86 = .ok (.iconst 1, 1) := by decide +kernel
theorem d_Mo_write_87 : decode c_Mo_write 87 = .ok (.iadd, 1) := by decide +kernel
theorem d_Mo_write_88 : decode c_Mo_write 88 = .ok (.putfield 111, 3) := by decide +kernel
theorem d_Mo_write_91 : decode c_Mo_write 91 = .ok (.aload_n 0, 1) := by decide +kernel
theorem d_Mo_write_92 : decode c_Mo_write 92 = .ok (.getfield 111, 3) := by decide +kernel
theorem d_Mo_write_95 : decode c_Mo_write 95 = .ok (.ireturn, 1) := by decide +kernel
theorem d_Mo_tear_0 : decode c_Mo_tear 0 = .ok (.aload_n 0, 1) := by decide +kernel
theorem d_Mo_tear_1 : decode c_Mo_tear 1 = .ok (.getfield 100, 3) := by decide +kernel
theorem d_Mo_tear_4 : decode c_Mo_tear 4 = .ok (.aload_n 0, 1) := by decide +kernel
theorem d_Mo_tear_5 : decode c_Mo_tear 5 = .ok (.getfield 111, 3) := by decide +kernel
theorem d_Mo_tear_8 : decode c_Mo_tear 8 = .ok (.iadd, 1) := by decide +kernel
theorem d_Mo_tear_9 : decode c_Mo_tear 9 = .ok (.istore_n 1, 1) := by decide +kernel
theorem d_Mo_tear_10 : decode c_Mo_tear 10 = .ok (.aload_n 0, 1) := by decide +kernel
theorem d_Mo_tear_11 : decode c_Mo_tear 11 = .ok (.iconst 0, 1) := by decide +kernel
theorem d_Mo_tear_12 : decode c_Mo_tear 12 = .ok (.putfield 100, 3) := by decide +kernel
theorem d_Mo_tear_15 : decode c_Mo_tear 15 = .ok (.aload_n 0, 1) := by decide +kernel
theorem d_Mo_tear_16 : decode c_Mo_tear 16 = .ok (.iconst 0, 1) := by decide +kernel
theorem d_Mo_tear_17 : decode c_Mo_tear 17 = .ok (.putfield 111, 3) := by decide +kernel
theorem d_Mo_tear_20 : decode c_Mo_tear 20 = .ok (.iload_n 1, 1) := by decide +kernel
theorem d_Mo_tear_21 : decode c_Mo_tear 21 = .ok (.ireturn, 1) := by decide +kernel
theorem d_Mo_seed_0 : decode c_Mo_seed 0 = .ok (.iload_n 1, 1) := by decide +kernel
theorem d_Mo_seed_1 : decode c_Mo_seed 1 = .ok (.ifCond .ge 6, 3) := by decide +kernel
theorem d_Mo_seed_4 : decode c_Mo_seed 4 = .ok (.ldc 144, 2) := by decide +kernel
theorem d_Mo_seed_6 : decode c_Mo_seed 6 = .ok (.ireturn, 1) := by decide +kernel
theorem d_Mo_seed_7 : decode c_Mo_seed 7 = .ok (.aload_n 0, 1) := by decide +kernel
theorem d_Mo_seed_8 : decode c_Mo_seed 8 = .ok (.getfield 181, 3) := by decide +kernel
theorem d_Mo_seed_11 : decode c_Mo_seed 11 = .ok (.istore_n 2, 1) := by decide +kernel
theorem d_Mo_seed_12 : decode c_Mo_seed 12 = .ok (.aload_n 0, 1) := by decide +kernel
theorem d_Mo_seed_13 : decode c_Mo_seed 13 = .ok (.iload_n 1, 1) := by decide +kernel
theorem d_Mo_seed_14 : decode c_Mo_seed 14 = .ok (.putfield 181, 3) := by decide +kernel
theorem d_Mo_seed_17 : decode c_Mo_seed 17 = .ok (.iload_n 2, 1) := by decide +kernel
theorem d_Mo_seed_18 : decode c_Mo_seed 18 = .ok (.ireturn, 1) := by decide +kernel
theorem d_Mo_keep_0 : decode c_Mo_keep 0 = .ok (.iload_n 1, 1) := by decide +kernel
theorem d_Mo_keep_1 : decode c_Mo_keep 1 = .ok (.i2l, 1) := by decide +kernel
theorem d_Mo_keep_2 : decode c_Mo_keep 2 = .ok (.lconst 0, 1) := by decide +kernel
theorem d_Mo_keep_3 : decode c_Mo_keep 3 = .ok (.lconst 1, 1) := by decide +kernel
theorem d_Mo_keep_4 : decode c_Mo_keep 4 = .ok (.invokestatic 63, 3) := by decide +kernel
theorem d_Mo_keep_7 : decode c_Mo_keep 7 = .ok (.ifCond .ne 6, 3) := by decide +kernel
theorem d_Mo_keep_10 : decode c_Mo_keep 10 = .ok (.ldc 145, 2) := by decide +kernel
theorem d_Mo_keep_12 : decode c_Mo_keep 12 = .ok (.ireturn, 1) := by decide +kernel
theorem d_Mo_keep_13 : decode c_Mo_keep 13 = .ok (.aload_n 0, 1) := by decide +kernel
theorem d_Mo_keep_14 : decode c_Mo_keep 14 = .ok (.aload_n 0, 1) := by decide +kernel
theorem d_Mo_keep_15 : decode c_Mo_keep 15 = .ok (.getfield 23, 3) := by decide +kernel
theorem d_Mo_keep_18 : decode c_Mo_keep 18 = .ok (.aload_n 0, 1) := by decide +kernel
theorem d_Mo_keep_19 : decode c_Mo_keep 19 = .ok (.getfield 26, 3) := by decide +kernel
theorem d_Mo_keep_22 : decode c_Mo_keep 22 = .ok (.iload_n 1, 1) := by decide +kernel
theorem d_Mo_keep_23 : decode c_Mo_keep 23 = .ok (.invokevirtual 155, 3) := by decide +kernel
theorem d_Mo_keep_26 : decode c_Mo_keep 26 = .ok (.aload_n 0, 1) := by decide +kernel
theorem d_Mo_keep_27 : decode c_Mo_keep 27 = .ok (.getfield 29, 3) := by decide +kernel
theorem d_Mo_keep_30 : decode c_Mo_keep 30 = .ok (.iload_n 1, 1) := by decide +kernel
theorem d_Mo_keep_31 : decode c_Mo_keep 31 = .ok (.aload_n 0, 1) := by decide +kernel
theorem d_Mo_keep_32 : decode c_Mo_keep 32 = .ok (.getfield 181, 3) := by decide +kernel
theorem d_Mo_keep_35 : decode c_Mo_keep 35 = .ok (.iastore, 1) := by decide +kernel
theorem d_Mo_keep_36 : decode c_Mo_keep 36 = .ok (.aload_n 0, 1) := by decide +kernel
theorem d_Mo_keep_37 : decode c_Mo_keep 37 = .ok (.getfield 32, 3) := by decide +kernel
theorem d_Mo_keep_40 : decode c_Mo_keep 40 = .ok (.iload_n 1, 1) := by decide +kernel
theorem d_Mo_keep_41 : decode c_Mo_keep 41 = .ok (.iconst 1, 1) := by decide +kernel
theorem d_Mo_keep_42 : decode c_Mo_keep 42 = .ok (.bastore, 1) := by decide +kernel
theorem d_Mo_keep_43 : decode c_Mo_keep 43 = .ok (.aload_n 0, 1) := by decide +kernel
theorem d_Mo_keep_44 : decode c_Mo_keep 44 = .ok (.iconst 0, 1) := by decide +kernel
theorem d_Mo_keep_45 : decode c_Mo_keep 45 = .ok (.putfield 141, 3) := by decide +kernel
theorem d_Mo_keep_48 : decode c_Mo_keep 48 = .ok (.iconst 1, 1) := by decide +kernel
theorem d_Mo_keep_49 : decode c_Mo_keep 49 = .ok (.ireturn, 1) := by decide +kernel
theorem d_Mo_goBack_0 : decode c_Mo_goBack 0 = .ok (.iload_n 1, 1) := by decide +kernel
theorem d_Mo_goBack_1 : decode c_Mo_goBack 1 = .ok (.i2l, 1) := by decide +kernel
theorem d_Mo_goBack_2 : decode c_Mo_goBack 2 = .ok (.lconst 0, 1) := by decide +kernel
theorem d_Mo_goBack_3 : decode c_Mo_goBack 3 = .ok (.lconst 1, 1) := by decide +kernel
theorem d_Mo_goBack_4 : decode c_Mo_goBack 4 = .ok (.invokestatic 63, 3) := by decide +kernel
theorem d_Mo_goBack_7 : decode c_Mo_goBack 7 = .ok (.ifCond .ne 6, 3) := by decide +kernel
theorem d_Mo_goBack_10 : decode c_Mo_goBack 10 = .ok (.ldc 145, 2) := by decide +kernel
theorem d_Mo_goBack_12 : decode c_Mo_goBack 12 = .ok (.ireturn, 1) := by decide +kernel
theorem d_Mo_goBack_13 : decode c_Mo_goBack 13 = .ok (.aload_n 0, 1) := by decide +kernel
theorem d_Mo_goBack_14 : decode c_Mo_goBack 14 = .ok (.getfield 32, 3) := by decide +kernel
theorem d_Mo_goBack_17 : decode c_Mo_goBack 17 = .ok (.iload_n 1, 1) := by decide +kernel
theorem d_Mo_goBack_18 : decode c_Mo_goBack 18 = .ok (.baload, 1) := by decide +kernel
theorem d_Mo_goBack_19 : decode c_Mo_goBack 19 = .ok (.ifCond .ne 6, 3) := by decide +kernel
theorem d_Mo_goBack_22 : decode c_Mo_goBack 22 = .ok (.ldc 175, 2) := by decide +kernel
theorem d_Mo_goBack_24 : decode c_Mo_goBack 24 = .ok (.ireturn, 1) := by decide +kernel
theorem d_Mo_goBack_25 : decode c_Mo_goBack 25 = .ok (.aload_n 0, 1) := by decide +kernel
theorem d_Mo_goBack_26 : decode c_Mo_goBack 26 = .ok (.aload_n 0, 1) := by decide +kernel
theorem d_Mo_goBack_27 : decode c_Mo_goBack 27 = .ok (.getfield 23, 3) := by decide +kernel
theorem d_Mo_goBack_30 : decode c_Mo_goBack 30 = .ok (.aload_n 0, 1) := by decide +kernel
theorem d_Mo_goBack_31 : decode c_Mo_goBack 31 = .ok (.getfield 26, 3) := by decide +kernel
theorem d_Mo_goBack_34 : decode c_Mo_goBack 34 = .ok (.iload_n 1, 1) := by decide +kernel
theorem d_Mo_goBack_35 : decode c_Mo_goBack 35 = .ok (.invokevirtual 199, 3) := by decide +kernel
theorem d_Mo_goBack_38 : decode c_Mo_goBack 38 = .ok (.aload_n 0, 1) := by decide +kernel
theorem d_Mo_goBack_39 : decode c_Mo_goBack 39 = .ok (.aload_n 0, 1) := by decide +kernel
theorem d_Mo_goBack_40 : decode c_Mo_goBack 40 = .ok (.getfield 29, 3) := by decide +kernel
theorem d_Mo_goBack_43 : decode c_Mo_goBack 43 = .ok (.iload_n 1, 1) := by decide +kernel
theorem d_Mo_goBack_44 : decode c_Mo_goBack 44 = .ok (.iaload, 1) := by decide +kernel
theorem d_Mo_goBack_45 : decode c_Mo_goBack 45 = .ok (.putfield 181, 3) := by decide +kernel
theorem d_Mo_goBack_48 : decode c_Mo_goBack 48 = .ok (.aload_n 0, 1) := by decide +kernel
theorem d_Mo_goBack_49 : decode c_Mo_goBack 49 = .ok (.iconst 0, 1) := by decide +kernel
theorem d_Mo_goBack_50 : decode c_Mo_goBack 50 = .ok (.putfield 141, 3) := by decide +kernel
theorem d_Mo_goBack_53 : decode c_Mo_goBack 53 = .ok (.iconst 1, 1) := by decide +kernel
theorem d_Mo_goBack_54 : decode c_Mo_goBack 54 = .ok (.ireturn, 1) := by decide +kernel
end
section
/-! pure facts: bits of longs, counts -/
theorem bI_add (a : Nat) (b : Bool) : nI a + bI b = nI (a + b.toNat) := by cases b <;> simp [bI, nI, Int32.ofNat_add]
theorem pk_dec {a : Nat} (h : 0 < a) : nI a + Int32.ofInt (-1) = nI (a - 1) := by
  rw [show Int32.ofInt (-1) = (-1 : Int32) from by decide]; exact sb_m1 h
theorem bI_sub {a : Nat} {b : Bool} (h : b.toNat ≤ a) : nI a - bI b = nI (a - b.toNat) := by
  cases b
  · simp [bI]
  · exact pk_sub h
theorem bI_inj (a b : Bool) : bI a = bI b ↔ a = b := by cases a <;> cases b <;> decide
theorem bI_nI (b : Bool) : bI b = nI b.toNat := by cases b <;> rfl
section ROWS3
variable {γ : GT} {l : Launch} {o : OM} {own : String} {cc : ByteArray} {n : Nat} {r : Option FieldType} {fr lo : Nat} {P : Option Value → MI → ML → Prop}
variable {mi : MI} {ml : ML} {pc : Nat} {lv : List (Nat × Value)} {st rest : List Value}
theorem r_ifeqQ (X : Cx γ l o own cc n r fr lo P) {x : Int32} {b : Bool} {off : Int} {tgt : Nat} (d : decode cc pc = .ok (.ifCond .eq off, 3)) (ht : (pc : Int) + off = (tgt : Int)) (hc : x = 0 ↔ b = true) (kt : b = true → V γ o n mi ml tgt lv rest) (kf : b = false → V γ o n mi ml (pc + 3) lv rest) : V γ o n mi ml pc lv (.int x :: rest) := r_ifeq X d ht hc kt (fun q => kf (by simpa using q))
theorem r_ifneQ (X : Cx γ l o own cc n r fr lo P) {x : Int32} {b : Bool} {off : Int} {tgt : Nat} (d : decode cc pc = .ok (.ifCond .ne off, 3)) (ht : (pc : Int) + off = (tgt : Int)) (hc : x = 0 ↔ b = true) (kt : b = false → V γ o n mi ml tgt lv rest) (kf : b = true → V γ o n mi ml (pc + 3) lv rest) : V γ o n mi ml pc lv (.int x :: rest) := r_ifne X d ht (not_congr hc) (fun q => kt (by simpa using q)) (fun q => kf (by simpa using q))
theorem r_icneP (X : Cx γ l o own cc n r fr lo P) {x y : Int32} {c : Prop} {off : Int} {tgt : Nat} (d : decode cc pc = .ok (.if_icmp .ne off, 3)) (ht : (pc : Int) + off = (tgt : Int)) (hc : (x = y) ↔ c) (kt : ¬ c → V γ o n mi ml tgt lv rest) (kf : c → V γ o n mi ml (pc + 3) lv rest) : V γ o n mi ml pc lv (.int y :: .int x :: rest) := r_icne X d ht (not_congr hc) kt (fun q => kf (Classical.not_not.mp q))
theorem r_ifneP (X : Cx γ l o own cc n r fr lo P) {x : Int32} {c : Prop} {off : Int} {tgt : Nat} (d : decode cc pc = .ok (.ifCond .ne off, 3)) (ht : (pc : Int) + off = (tgt : Int)) (hc : (x = 0) ↔ c) (kt : ¬ c → V γ o n mi ml tgt lv rest) (kf : c → V γ o n mi ml (pc + 3) lv rest) : V γ o n mi ml pc lv (.int x :: rest) := r_ifne X d ht (not_congr hc) kt (fun q => kf (Classical.not_not.mp q))
end ROWS3
def bt (x : Int64) (i : Nat) : Bool := x.toBitVec.getLsbD i
theorem bt_ext {x y : Int64} (h : ∀ i, i < 64 → bt x i = bt y i) : x = y := Int64.toBitVec_inj.mp (BitVec.eq_of_getLsbD_eq (fun i hi => h i hi))
theorem bt_or (x y : Int64) (i : Nat) : bt (x ||| y) i = (bt x i || bt y i) := by unfold bt; rw [Int64.toBitVec_or, BitVec.getLsbD_or]
theorem bt_and (x y : Int64) (i : Nat) : bt (x &&& y) i = (bt x i && bt y i) := by unfold bt; rw [Int64.toBitVec_and, BitVec.getLsbD_and]
theorem bt_xor (x y : Int64) (i : Nat) : bt (x ^^^ y) i = (bt x i ^^ bt y i) := by unfold bt; rw [Int64.toBitVec_xor, BitVec.getLsbD_xor]
theorem bt_big {x : Int64} {i : Nat} (h : 64 ≤ i) : bt x i = false := BitVec.getLsbD_of_ge _ _ h
theorem bt_0 (i : Nat) : bt 0 i = false := BitVec.getLsbD_zero
theorem bt_1 (i : Nat) : bt 1 i = decide (i = 0) := by
  rcases Nat.lt_or_ge i 64 with h | h
  · exact (by decide +kernel : ∀ i, i < 64 → bt 1 i = decide (i = 0)) i h
  · rw [bt_big h, decide_eq_false (by omega)]
theorem s_l64 : ∀ n, n < 64 → (((nI n).toInt64 &&& 63).toBitVec.smod 64).toNat = n := by decide +kernel
theorem s_u64 : ∀ n, n < 64 → (((nI n).toInt64.toUInt64 &&& Int64.toUInt64 63).toBitVec % 64).toNat = n := by decide +kernel
theorem bt_shl (x : Int64) {k i : Nat} (hk : k < 64) (hi : i < 64) : bt (shl x k) i = (decide (k ≤ i) && bt x (i - k)) := by
  unfold bt shl
  rw [Int64.toBitVec_shiftLeft]
  show (x.toBitVec <<< (((nI k).toInt64 &&& 63).toBitVec.smod 64).toNat).getLsbD i = _
  rw [s_l64 k hk, BitVec.getLsbD_shiftLeft]
  rcases Nat.lt_or_ge i k with h | h
  · simp [h, Nat.not_le.mpr h]
  · simp [hi, h, Nat.not_lt.mpr h]
theorem bt_ushr (x : Int64) {k : Nat} (hk : k < 64) (i : Nat) : bt (ushr x k) i = bt x (k + i) := by
  show (x.toUInt64 >>> ((nI k).toInt64.toUInt64 &&& Int64.toUInt64 63)).toBitVec.getLsbD i = x.toUInt64.toBitVec.getLsbD (k + i)
  rw [UInt64.toBitVec_shiftRight]
  show (x.toUInt64.toBitVec >>> (((nI k).toInt64.toUInt64 &&& Int64.toUInt64 63).toBitVec % 64).toNat).getLsbD i = _
  rw [s_u64 k hk, BitVec.getLsbD_ushiftRight]
theorem bt_shr (x : Int64) {k i : Nat} (hk : k < 64) (hi : i < 64) : bt (shr x k) i = if k + i < 64 then bt x (k + i) else bt x 63 := by
  unfold bt shr
  rw [Int64.toBitVec_shiftRight]
  show (x.toBitVec.sshiftRight (((nI k).toInt64 &&& 63).toBitVec.smod 64).toNat).getLsbD i = _
  rw [s_l64 k hk, BitVec.getLsbD_sshiftRight, BitVec.msb_eq_getLsbD_last]
  simp [hi]
theorem and1_eq1 (y : Int64) : y &&& 1 = 1 ↔ bt y 0 = true := by
  constructor
  · intro h
    have e := congrArg (fun z => bt z 0) h
    simp only [bt_and, bt_1] at e
    simpa using e
  · intro h
    apply bt_ext
    intro i hi
    rw [bt_and, bt_1]
    by_cases e : i = 0
    · subst e; simp [h]
    · simp [e]
theorem and1_eq0 (y : Int64) : y &&& 1 = 0 ↔ bt y 0 = false := by
  constructor
  · intro h
    have e := congrArg (fun z => bt z 0) h
    simp only [bt_and, bt_1, bt_0] at e
    simpa using e
  · intro h
    apply bt_ext
    intro i hi
    rw [bt_and, bt_1, bt_0]
    by_cases e : i = 0
    · subst e; simp [h]
    · simp [e]
theorem has_shr (x : Int64) {k : Nat} (hk : k < 64) : (shr x k) &&& 1 = 1 ↔ bt x k = true := by
  rw [and1_eq1, bt_shr x hk (by omega)]; simp [hk]
theorem has_ushr (x : Int64) {k : Nat} (hk : k < 64) : (ushr x k) &&& 1 = 0 ↔ bt x k = false := by
  rw [and1_eq0, bt_ushr x hk]; simp
/-- how many of the first n are so -/
def ct (p : Nat → Bool) : Nat → Nat
  | 0 => 0
  | n + 1 => ct p n + (p n).toNat
theorem ct_le (p : Nat → Bool) : ∀ n, ct p n ≤ n
  | 0 => Nat.le_refl 0
  | n + 1 => by
    have h := ct_le p n
    have h2 : (p n).toNat ≤ 1 := Bool.toNat_le _
    show ct p n + (p n).toNat ≤ n + 1
    omega
theorem ct_cong {p q : Nat → Bool} : ∀ {n : Nat}, (∀ k, k < n → p k = q k) → ct p n = ct q n
  | 0, _ => rfl
  | n + 1, h => by
    show ct p n + (p n).toNat = ct q n + (q n).toNat
    rw [ct_cong (fun k hk => h k (by omega)), h n (by omega)]
def pop (x : Int64) : Nat := ct (bt x) 64
theorem pop_le (x : Int64) : pop x ≤ 64 := ct_le _ _
theorem pop_lt (x : Int64) : pop x < 2 ^ 31 := by have := pop_le x; omega
/-- the last of the first n that is so, NONE else -/
def lastB (p : Nat → Bool) : Nat → Int32
  | 0 => -1
  | k + 1 => if p k then nI k else lastB p k
/-- all of the first n are so -/
def alB (p : Nat → Bool) : Nat → Bool
  | 0 => true
  | k + 1 => alB p k && p k
theorem alB_iff {p : Nat → Bool} : ∀ {n : Nat}, alB p n = true ↔ ∀ k, k < n → p k = true
  | 0 => by simp [alB]
  | n + 1 => by
    simp only [alB, Bool.and_eq_true, alB_iff (p := p) (n := n)]
    constructor
    · intro h k hk
      rcases Nat.lt_or_ge k n with h2 | h2
      · exact h.1 k h2
      · rw [show k = n by omega]; exact h.2
    · intro h
      exact ⟨fun k hk => h k (by omega), h n (by omega)⟩
theorem alB_no {p : Nat → Bool} {i n : Nat} (h : alB p i = false) (hi : i ≤ n) : alB p n = false := by
  rcases hb : alB p n with _ | _
  · rfl
  · have := alB_iff.mpr (fun k hk => alB_iff.mp hb k (Nat.lt_of_lt_of_le hk hi))
    rw [h] at this; cases this
def ds (x y : Int64) : Nat := pop (x ^^^ y)
theorem ds_le (x y : Int64) : ds x y ≤ 64 := pop_le _
theorem ds_lt (x y : Int64) : ds x y < 2 ^ 31 := pop_lt _
/-- a part alike by a cut, as it is gone through bit by bit -/
def lkS (u c : Int64) : Nat → Bool × Bool
  | 0 => (false, false)
  | b + 1 => ((lkS u c b).1 || (decide (0 < b) && bt c b && (lkS u c b).2), (bt c b || (lkS u c b).2) && !bt u b)
def lk (x y c : Int64) : Bool := (lkS (x ^^^ y) c 64).1 || (lkS (x ^^^ y) c 64).2
def oM (ml : ML) (k : Nat) : Int64 := ml 96 (3 + k)
/-- ahead: how many of n stand nearer than k, by f -/
def ahd (f : Nat → Nat) (n k : Nat) : Nat := ct (fun j => decide (f j < f k) || (decide (f j = f k) && !decide (k ≤ j))) n
theorem alB_d {p : Nat → Bool} (h : p 0 = true) : ∀ n, alB p (n - 1 + 1) = alB p n
  | 0 => by simp [alB, h]
  | _ + 1 => rfl
/-- the first from i on, of d, that is so; NONE else -/
def fromB (p : Nat → Bool) : Nat → Nat → Int32
  | 0, _ => -1
  | d + 1, i => if p i then nI i else fromB p d (i + 1)
/-- the same with a value of its own, and another for none -/
def fromC (p : Nat → Bool) (v : Nat → Int32) (e : Int32) : Nat → Nat → Int32
  | 0, _ => e
  | d + 1, i => if p i then v i else fromC p v e d (i + 1)
theorem fromC_no {p : Nat → Bool} {v : Nat → Int32} {e : Int32} (h : ∀ i, p i = false) : ∀ d i, fromC p v e d i = e
  | 0, _ => rfl
  | d + 1, i => by rw [fromC, h i]; exact fromC_no h d (i + 1)
def deadM (M : Nat → Int64) (n b : Nat) : Bool := alB (fun k => decide (bt (M k) b = bt (M 0) b)) n
def togM (M : Nat → Int64) (n a b : Nat) : Bool := alB (fun k => decide (bt (M k) a = bt (M k) b)) n || alB (fun k => !decide (bt (M k) a = bt (M k) b)) n
def togR (p : Nat → Nat → Bool) : Nat → Nat → Int32
  | 0, _ => -1
  | d + 1, a => fromC (p a) (fun b => nI (64 * a + b)) (togR p d (a + 1)) (63 - a) (a + 1)
def pairM (M : Nat → Int64) (n a b : Nat) : Bool := !deadM M n a && (!deadM M n b && togM M n a b)
def cb (x : Int64) (SM : Nat → Int64) (SA : Nat → Int32) (s : Nat) : Bool := alB (fun i => decide (nI (ds x (SM i)) = SA i)) s
/-- going down from n: how many of the upper i; the least of them -/
def ctD (p : Nat → Bool) (n : Nat) : Nat → Nat
  | 0 => 0
  | i + 1 => ctD p n i + (p (n - i - 1)).toNat
def lastD (p : Nat → Bool) (n : Nat) : Nat → Int32
  | 0 => -1
  | i + 1 => if p (n - i - 1) then nI (n - i - 1) else lastD p n i
theorem ctD_le (p : Nat → Bool) (n : Nat) : ∀ i, ctD p n i ≤ i
  | 0 => Nat.le_refl 0
  | i + 1 => by
    have h := ctD_le p n i
    have h2 : (p (n - i - 1)).toNat ≤ 1 := Bool.toNat_le _
    show ctD p n i + (p (n - i - 1)).toNat ≤ i + 1
    omega
theorem dec_eq (x : Int32) : x + Int32.ofInt (-1) = x - nI 1 := by
  rw [Int32.sub_eq_add_neg]; rfl
def isMk (n : Nat) (k : Int32) : Bool := decide (0 ≤ k) && decide (k < nI n)
theorem isMk_eq {n : Nat} (hn : n < 2 ^ 30) (k : Int32) : (!decide (k.toInt64 < 0) && !decide ((nI n - nI 1).toInt64 < k.toInt64)) = isMk n k := by
  have e1 : (k.toInt64 < 0) ↔ ¬ 0 ≤ k := by
    rw [show (0 : Int64) = (0 : Int32).toInt64 from rfl, Int64.lt_iff_toInt_lt, Int32.toInt_toInt64, Int32.toInt_toInt64, Int32.le_iff_toInt_le]; omega
  have e2 : ((nI n - nI 1).toInt64 < k.toInt64) ↔ ¬ k < nI n := by
    rw [Int64.lt_iff_toInt_lt, Int32.toInt_toInt64, Int32.toInt_toInt64, Int32.lt_iff_toInt_lt, pk_sub_toInt (by omega) (by omega), nI_toInt (by omega)]; omega
  unfold isMk
  simp only [e1, e2]
  by_cases a1 : 0 ≤ k <;> by_cases a2 : k < nI n <;> simp [a1, a2]
theorem isMk_nI {n a : Nat} (hn : n < 2 ^ 31) (ha : a < 2 ^ 31) : isMk n (nI a) = decide (a < n) := by
  unfold isMk
  have e1 : 0 ≤ nI a := nI_pos' ha
  have e2 := nI_ltI ha hn
  simp [e1, e2]
theorem isMk_ex {n : Nat} {k : Int32} (hn : n < 2 ^ 31) (h : isMk n k = true) : ∃ j, j < n ∧ k = nI j := by
  unfold isMk at h
  simp only [Bool.and_eq_true, decide_eq_true_eq] at h
  obtain ⟨j, hj, rfl⟩ := nI_of (x := k) (by rw [Int32.lt_iff_toInt_lt]; have := h.1; rw [Int32.le_iff_toInt_le] at this; omega)
  exact ⟨j, (nI_ltI hj hn).mp h.2, rfl⟩
theorem lastB_ex {p : Nat → Bool} : ∀ {n : Nat}, ¬ lastB p n = -1 → ∃ j, j < n ∧ lastB p n = nI j ∧ p j = true
  | 0, h => absurd rfl h
  | n + 1, h => by
    by_cases hp : p n = true
    · exact ⟨n, by omega, by simp [lastB, hp], hp⟩
    · have e : lastB p (n + 1) = lastB p n := by simp [lastB, hp]
      rw [e] at h
      obtain ⟨j, h1, h2, h3⟩ := lastB_ex h
      exact ⟨j, by omega, by rw [e, h2], h3⟩
theorem tsw_lo {x : Int32} (h : x < 0) : x.toInt < 0 := by rw [Int32.lt_iff_toInt_lt] at h; exact h
theorem tsw_hi {x : Int32} {n : Nat} {m : Int} (hm : n < 2 ^ 31 ∧ m + 1 = (n : Int)) (h : nI n ≤ x) : m < x.toInt := by
  rw [Int32.le_iff_toInt_le, nI_toInt hm.1] at h; omega
/-- a number below m, or none -/
def ix (w : Int32) (m : Nat) : Option Nat := if 0 ≤ w ∧ w < nI m then some w.toNatClampNeg else none
def oI (x : Option Nat) (e : Int32) (f : Nat → Int32) : Int32 := match x with
  | none => e
  | some q => f q
def oJ (x : Option Nat) (e : Int64) (f : Nat → Int64) : Int64 := match x with
  | none => e
  | some q => f q
theorem ix_lo {w : Int32} {m : Nat} (h : w < 0) : ix w m = none := by
  unfold ix; rw [if_neg]; rintro ⟨a, -⟩
  rw [Int32.lt_iff_toInt_lt] at h; rw [Int32.le_iff_toInt_le] at a; omega
theorem ix_hi {w : Int32} {m : Nat} (h : nI m ≤ w) : ix w m = none := by
  unfold ix; rw [if_neg]; rintro ⟨-, a⟩
  rw [Int32.lt_iff_toInt_lt] at a; rw [Int32.le_iff_toInt_le] at h; omega
theorem ix_in {j m : Nat} (h : j < m) (hm : m < 2 ^ 31) : ix (nI j) m = some j := by
  unfold ix; rw [if_pos ⟨nI_pos' (by omega), (nI_ltI (by omega) hm).mpr h⟩, nI_clamp (by omega)]
theorem isMk_ix {n : Nat} {k : Int32} : isMk n k = (ix k n).isSome := by
  unfold isMk ix; by_cases h1 : 0 ≤ k <;> by_cases h2 : k < nI n <;> simp [h1, h2]
theorem isMk_none {n : Nat} {k : Int32} (h : isMk n k = false) : ix k n = none := by
  rw [isMk_ix] at h; simpa using h
/-- ASK: how many of the first j have the number t; the greatest part; the best -/
def cn (f : Nat → Nat) (c : Nat → Bool) (t j : Nat) : Nat := ct (fun k => c k && decide (f k = t)) j
def mst (f : Nat → Nat) (c : Nat → Bool) : Nat → Nat
  | 0 => 0
  | j + 1 => if c j then (if decide (cn f c (f j) j + 1 ≤ mst f c j) then mst f c j else cn f c (f j) j + 1) else mst f c j
theorem cn_le (f : Nat → Nat) (c : Nat → Bool) (t j : Nat) : cn f c t j ≤ j := ct_le _ _
theorem mst_le (f : Nat → Nat) (c : Nat → Bool) : ∀ j, mst f c j ≤ j
  | 0 => Nat.le_refl 0
  | j + 1 => by
    have h := mst_le f c j
    have h2 := cn_le f c (f j) j
    unfold mst
    split
    · split <;> omega
    · omega
def askS (g : Nat → Nat) (few : Nat) : Nat → Nat × Int32
  | 0 => (few, -1)
  | m + 1 => (if decide ((askS g few m).1 ≤ g m) then (askS g few m).1 else g m, if decide ((askS g few m).1 ≤ g m) then (askS g few m).2 else nI m)
theorem askS_le (g : Nat → Nat) (few : Nat) : ∀ m, (askS g few m).1 ≤ few
  | 0 => Nat.le_refl _
  | m + 1 => by
    have h := askS_le g few m
    show (if decide ((askS g few m).1 ≤ g m) then (askS g few m).1 else g m) ≤ few
    split
    · exact h
    · rename_i h2; simp at h2; omega
theorem cn_no {f : Nat → Nat} {c : Nat → Bool} {j : Nat} {r : Nat → Int32} (h : c j = false) (hr : ∀ t, t < 65 → r t = nI (cn f c t j)) : ∀ t, t < 65 → r t = nI (cn f c t (j + 1)) := by
  intro t ht
  rw [hr t ht]
  simp [cn, ct, h]
theorem cn_yes {f : Nat → Nat} {c : Nat → Bool} {j d : Nat} {m : MI} (h : c j = true) (hd : f j = d) (hr : ∀ t, t < 65 → m 110 t = nI (cn f c t j)) : ∀ t, t < 65 → u2 m 110 d (nI (cn f c d j + 1)) 110 t = nI (cn f c t (j + 1)) := by
  intro t ht
  rw [u2_s]
  by_cases e : t = d
  · subst e; rw [uf_s]; simp [cn, ct, h, hd]
  · rw [uf_n _ _ e, hr t ht]
    have e2 : ¬ f j = t := fun q => e (by rw [← q, hd])
    simp [cn, ct, e2]
theorem zf_step {m : MI} {i t : Nat} {x : Int32} (h : ∀ q, q < t → m i q = x) : ∀ q, q < t + 1 → u2 m i t x i q = x := by
  intro q hq
  rw [u2_s]
  by_cases e : q = t
  · subst e; rw [uf_s]
  · rw [uf_n _ _ e]; exact h q (by omega)
theorem in_nat {j a m : Nat} (h1 : a ≤ j) (h2 : j ≤ m) (hm : m < 2 ^ 31) : (!decide (lN j < lN a) && !decide (lN m < lN j)) = true := by
  have e1 := lN_lt (a := j) (b := a) (by omega) (by omega)
  have e2 := lN_lt (a := m) (b := j) (by omega) (by omega)
  simp only [e1, e2]
  simp; omega
theorem in_out {x : Int32} {a m : Nat} (ha : a < 2 ^ 31) (hm : m < 2 ^ 31) (h : x < nI a ∨ nI m < x) : (!decide (x.toInt64 < lN a) && !decide (lN m < x.toInt64)) = false := by
  have e1 : (x.toInt64 < lN a) ↔ x < nI a := by
    rw [← nI_l ha, Int64.lt_iff_toInt_lt, Int32.toInt_toInt64, Int32.toInt_toInt64, Int32.lt_iff_toInt_lt]
  have e2 : (lN m < x.toInt64) ↔ nI m < x := by
    rw [← nI_l hm, Int64.lt_iff_toInt_lt, Int32.toInt_toInt64, Int32.toInt_toInt64, Int32.lt_iff_toInt_lt]
  simp only [e1, e2]
  rcases h with h | h <;> simp [h]
theorem ct_mono (p : Nat → Bool) : ∀ {a b : Nat}, a ≤ b → ct p a ≤ ct p b := by
  intro a b h
  induction b with
  | zero => rw [show a = 0 by omega]; exact Nat.le_refl _
  | succ b ih =>
    rcases Nat.lt_or_ge b a with h2 | h2
    · rw [show a = b + 1 by omega]; exact Nat.le_refl _
    · exact Nat.le_trans (ih h2) (Nat.le_add_right _ _)
/-- where the p-th one stands -/
def kf (q : Nat → Bool) (p : Nat) : Nat → Nat → Nat
  | 0, b => b
  | d + 1, b => if q b && decide (ct q b = p) then b else kf q p d (b + 1)
def kthP (q : Nat → Bool) (n p : Nat) : Nat := kf q p n 0
def kth (c : Int64) (p : Nat) : Nat := kthP (bt c) 64 p
theorem kf_spec (q : Nat → Bool) (p : Nat) : ∀ d b, ct q b ≤ p → p < ct q (b + d) → b ≤ kf q p d b ∧ kf q p d b < b + d ∧ q (kf q p d b) = true ∧ ct q (kf q p d b) = p
  | 0, b, h1, h2 => by
    have h2 : p < ct q b := h2
    omega
  | d + 1, b, h1, h2 => by
    unfold kf
    by_cases h : (q b && decide (ct q b = p)) = true
    · rw [if_pos h]
      simp only [Bool.and_eq_true, decide_eq_true_eq] at h
      exact ⟨Nat.le_refl _, by omega, h.1, h.2⟩
    · rw [if_neg h]
      have h3 : ct q (b + 1) ≤ p := by
        show ct q b + (q b).toNat ≤ p
        simp only [Bool.and_eq_true, decide_eq_true_eq] at h
        rcases hb : q b with _ | _
        · simpa using h1
        · have : ct q b ≠ p := fun e => h ⟨hb, e⟩
          simp; omega
      have h4 := kf_spec q p d (b + 1) h3 (by rw [show b + 1 + d = b + (d + 1) by omega]; exact h2)
      exact ⟨by omega, by omega, h4.2.2.1, h4.2.2.2⟩
theorem kthP_spec {q : Nat → Bool} {n p : Nat} (h : p < ct q n) : kthP q n p < n ∧ q (kthP q n p) = true ∧ ct q (kthP q n p) = p := by
  have := kf_spec q p n 0 (Nat.zero_le _) (by rw [Nat.zero_add]; exact h)
  exact ⟨by have := this.2.1; unfold kthP; omega, this.2.2.1, this.2.2.2⟩
theorem kth_spec {c : Int64} {p : Nat} (h : p < pop c) : kth c p < 64 ∧ bt c (kth c p) = true ∧ ct (bt c) (kth c p) = p := kthP_spec h
theorem kth_lt {c : Int64} {p : Nat} (h : p < pop c) : kth c p < 2 ^ 31 := by have := (kth_spec h).1; omega
theorem kth_mono {c : Int64} {p q : Nat} (h : p < q) (hq : q < pop c) : kth c p < kth c q := by
  obtain ⟨a1, a2, a3⟩ := kth_spec (c := c) (p := p) (by omega)
  obtain ⟨b1, b2, b3⟩ := kth_spec hq
  rcases Nat.lt_or_ge (kth c p) (kth c q) with h2 | h2
  · exact h2
  · have := ct_mono (bt c) h2
    omega
def enM (c : Int64) (p : Nat) : Nat := if decide (pop c ≤ p + 1) then 64 else kth c (p + 1)
theorem enM_le (c : Int64) (p : Nat) : enM c p ≤ 64 := by
  unfold enM; split
  · exact Nat.le_refl _
  · rename_i h; simp at h; have := (kth_spec h).1; omega
theorem enM_gt {c : Int64} {p : Nat} (h : p < pop c) : kth c p < enM c p := by
  unfold enM; split
  · exact (kth_spec h).1
  · rename_i h2; simp at h2; exact kth_mono (by omega) h2
def haveM (M : Nat → Int64) (h c : Int64) (p n : Nat) : Nat := ct (fun k => alB (fun t => decide (bt (M k) (kth c p + t) = bt h (kth c p + t))) (enM c p - kth c p)) n
/-- a set of the first n that are so -/
def stB (p : Nat → Bool) : Nat → Int64
  | 0 => 0
  | k + 1 => stB p k ||| (if p k then shl 1 k else 0)
def nearP (K : Int32) (d q c : Nat) : Bool := (!decide (q < d) && (!decide (K = nI 1) && (!decide (K = nI 2) || (decide (c - 1 ≤ q) || !decide (q / 2 < d)))))
/-- groups: near by b; by others; labels -/
def Rb (M : Nat → Int64) (b j k : Nat) : Prop := ds (M j) (M k) ≤ b
def Cn (M : Nat → Int64) (n b j k : Nat) : Prop := ∀ P : Nat → Prop, P j → (∀ a c, a < n → c < n → P a → Rb M b a c → P c) → P k
def Lv1 (M : Nat → Int64) (n b : Nat) (g : Nat → Nat) : Prop := ∀ k, k < n → g k ≤ k ∧ Cn M n b (g k) k
def Stb (M : Nat → Int64) (n b : Nat) (g : Nat → Nat) : Prop := ∀ j k, j < n → k < n → Rb M b j k → g k ≤ g j
def Lab (M : Nat → Int64) (n b : Nat) (g : Nat → Nat) : Prop := Lv1 M n b g ∧ Stb M n b g
theorem Cn.rf {M : Nat → Int64} {n b j : Nat} : Cn M n b j j := fun _ h _ => h
theorem Cn.step {M : Nat → Int64} {n b i j k : Nat} (h : Cn M n b i j) (hj : j < n) (hk : k < n) (hr : Rb M b j k) : Cn M n b i k := fun P h1 h2 => h2 j k hj hk (h P h1 h2) hr
theorem Lv1.set {M : Nat → Int64} {n b u w : Nat} {g : Nat → Nat} (h : Lv1 M n b g) (hu : u < n) (hw : w < n) (hlt : g u < g w) (hr : Rb M b u w) : Lv1 M n b (uf g w (g u)) := by
  intro k hk
  by_cases e : k = w
  · subst e
    rw [uf_s]
    exact ⟨by have := (h k hk).1; omega, (h u hu).2.step hu hk hr⟩
  · rw [uf_n _ _ e]; exact h k hk
def sm (f : Nat → Nat) : Nat → Nat
  | 0 => 0
  | n + 1 => sm f n + f n
theorem sm_out (f : Nat → Nat) (v : Nat) {i : Nat} : ∀ {n : Nat}, n ≤ i → sm (uf f i v) n = sm f n
  | 0, _ => rfl
  | n + 1, h => by
    show sm (uf f i v) n + uf f i v n = sm f n + f n
    rw [sm_out f v (by omega), uf_n _ _ (by omega)]
theorem sm_uf (f : Nat → Nat) (v : Nat) {i : Nat} : ∀ {n : Nat}, i < n → sm (uf f i v) n + f i = sm f n + v
  | 0, h => absurd h (Nat.not_lt_zero i)
  | n + 1, h => by
    show sm (uf f i v) n + uf f i v n + f i = sm f n + f n + v
    by_cases e : i = n
    · subst e; rw [sm_out f v (Nat.le_refl _), uf_s]; omega
    · have := sm_uf f v (i := i) (n := n) (by omega)
      rw [uf_n _ _ (Ne.symm e)]; omega
/-- the greatest, gone through -/
def mxI (h : Nat → Nat) (m : Nat) : Nat → Nat
  | 0 => m
  | k + 1 => if decide (h k ≤ mxI h m k) then mxI h m k else h k
def mxO (f : Nat → Nat → Nat) : Nat → Nat
  | 0 => 0
  | j + 1 => mxI (f j) (mxO f j) j
theorem mxI_le {h : Nat → Nat} {m c : Nat} (hm : m ≤ c) : ∀ {k : Nat}, (∀ i, i < k → h i ≤ c) → mxI h m k ≤ c
  | 0, _ => hm
  | k + 1, hk => by
    unfold mxI; split
    · exact mxI_le hm (fun i hi => hk i (by omega))
    · exact hk k (by omega)
theorem mxO_le {f : Nat → Nat → Nat} {c : Nat} (h : ∀ j k, f j k ≤ c) : ∀ n, mxO f n ≤ c
  | 0 => Nat.zero_le _
  | n + 1 => mxI_le (mxO_le h n) (fun _ _ => h _ _)
theorem id_step {m : MI} {i t : Nat} (h : ∀ k, k < t → m i k = nI k) : ∀ k, k < t + 1 → u2 m i t (nI t) i k = nI k := by
  intro q hq
  rw [u2_s]
  by_cases e : q = t
  · subst e; rw [uf_s]
  · rw [uf_n _ _ e]; exact h q (by omega)
theorem lab_step {m : MI} {i n w x : Nat} {g : Nat → Nat} (h : ∀ k, k < n → m i k = nI (g k)) : ∀ k, k < n → u2 m i w (nI x) i k = nI (uf g w x k) := by
  intro k hk
  rw [u2_s]
  by_cases e : k = w
  · subst e; rw [uf_s, uf_s]
  · rw [uf_n _ _ e, uf_n _ _ e]; exact h k hk
theorem sm_cong {f g : Nat → Nat} (h : ∀ k, f k = g k) (n : Nat) : sm f n = sm g n := by rw [show f = g from funext h]
theorem sm_le {G2 G : Nat → Nat} {on : Bool} {n : Nat} (h1 : on = true → sm G2 n < sm G n) (h2 : on = false → ∀ k, G2 k = G k) : sm G2 n ≤ sm G n := by
  cases on
  · exact Nat.le_of_eq (sm_cong (h2 rfl) n)
  · exact Nat.le_of_lt (h1 rfl)
theorem ite64 (p : Bool) {x : Nat} (h : x ≤ 64) : (if p then 0 else x) ≤ 64 := by cases p <;> simp [h]
def rootsN (G : Nat → Nat) (n : Nat) : Nat := ct (fun k => decide (G k = k)) n
def rootAt (G : Nat → Nat) (n x : Nat) : Nat := kthP (fun k => decide (G k = k)) n x
def grpM (M : Nat → Int64) (n : Nat) (G : Nat → Nat) (x z : Nat) : Int32 := match z with
  | 0 => nI (ct (fun k => decide (G k = rootAt G n x)) n)
  | 1 => nI (rootAt G n x)
  | _ => nI (mxO (fun a c => if (!decide (G a = rootAt G n x) || !decide (G c = rootAt G n x)) then 0 else ds (M a) (M c)) n)
def stN (p : Nat → Bool) : Nat → Int64
  | 0 => 0
  | k + 1 => stN p k ||| (if p k then 0 else shl 1 k)
def midP (M : Nat → Int64) (n : Nat) (G : Nat → Nat) (r b : Nat) : Bool := decide (2 * ct (fun k => decide (G k = r) && bt (M k) b) n ≤ ct (fun k => decide (G k = r)) n)
def lookP (ml : ML) (v : Bool) (k : Nat) : Bool := lk (oM ml k) (ml 96 0) (ml 96 1) && (!v || !decide (ds (oM ml k) (ml 96 0) < pop (ml 96 1)))
def wrongP (mi : MI) (ml : ML) (n : Nat) (B1 B2 : Nat → Nat) (e : Nat) : Bool := !(isMk n (nI (B1 e)) && isMk n (nI (B2 e))) || !decide (nI (ds (oM ml (B1 e)) (oM ml (B2 e))) = mi 108 e)
def nrst (ml : ML) (n : Nat) (w : Int32) : Int32 := lastB (fun k => decide (nI (ahd (fun q => ds (oM ml q) (ml 96 0)) n k) = w)) n
def cbM (mi : MI) (ml : ML) (s k : Nat) : Bool := cb (oM ml k) (ml 104) (mi 105) s
def toldM (mi : MI) (ml : ML) (n s E : Nat) (B1 B2 : Nat → Nat) (q : Nat) : Int32 := match q with
  | 0 => nI n
  | 1 => nI (pop (ml 96 1))
  | 2 => nI (pop (ml 96 0))
  | 3 => lastB (fun k => decide (oM ml k = ml 96 0)) n
  | 4 => nI (ct (lookP ml false) n)
  | 5 => nI (ct (lookP ml true) n)
  | 6 => nrst ml n 0
  | 7 => if nrst ml n 0 = -1 then -1 else nI (ds (oM ml (nrst ml n 0).toNatClampNeg) (ml 96 0))
  | 8 => nI (ct (fun b => deadM (oM ml) n b) 64)
  | 9 => togR (pairM (oM ml) n) 64 0
  | 10 => nI s
  | 11 => nI (ctD (cbM mi ml s) n n)
  | 12 => lastD (cbM mi ml s) n n
  | 13 => (askS (fun z => mst (fun q => ds (oM ml q) (oM ml z)) (cbM mi ml s) n) (ctD (cbM mi ml s) n n) n).2
  | 14 => nI E
  | 15 => fromB (wrongP mi ml n B1 B2) E 0
  | _ => mi 95 2
def markM (mi : MI) (ml : ML) (n k q : Nat) : Int32 := match q with
  | 0 => mi 97 k
  | 1 => nI (pop (oM ml k))
  | 2 => nI (ds (oM ml k) (ml 96 0))
  | 3 => nI (ct (fun j => (!decide (j = k) && !decide (pop (ml 96 1) ≤ ds (oM ml j) (oM ml k)))) n)
  | _ => bI (lk (oM ml k) (ml 96 0) (ml 96 1))
def partM (ml : ML) (n p q : Nat) : Int32 := match q with
  | 0 => nI (kth (ml 96 1) p)
  | 1 => nI (enM (ml 96 1) p - kth (ml 96 1) p)
  | _ => nI (haveM (oM ml) (ml 96 0) (ml 96 1) p n)
/-- cuts into p parts -/
def moreM (p P h : Nat) : Bool := bif decide (2 ≤ h) then (!decide (64 % P ≤ (if decide (p % 2 = 0) then p / 2 else (P + 1) / 2 + p / 2))) else (bif decide (h = 0) then !decide (64 % P ≤ p) else !decide (p < P - 64 % P))
def cutS (P h : Nat) : Nat → Int64 × Nat
  | 0 => (0, 0)
  | p + 1 => ((cutS P h p).1 ||| shl 1 (cutS P h p).2, (cutS P h p).2 + (64 / P + (moreM p P h).toNat))
theorem cutS_le {P h : Nat} : ∀ p, (cutS P h p).2 ≤ p * (64 / P + 1)
  | 0 => by simp [cutS]
  | p + 1 => by
    have h1 := cutS_le (P := P) (h := h) p
    have h2 : (moreM p P h).toNat ≤ 1 := Bool.toNat_le _
    show (cutS P h p).2 + (64 / P + (moreM p P h).toNat) ≤ (p + 1) * (64 / P + 1)
    rw [Nat.succ_mul]; omega
def looksM (M : Nat → Int64) (n : Nat) (c : Int64) : Nat → Nat
  | 0 => 0
  | j + 1 => looksM M n c j + ct (fun k => lk (M j) (M k) c) n
theorem looksM_le (M : Nat → Int64) (n : Nat) (c : Int64) : ∀ j, looksM M n c j ≤ j * n
  | 0 => by simp [looksM]
  | j + 1 => by
    have h1 := looksM_le M n c j
    have h2 := ct_le (fun k => lk (M j) (M k) c) n
    show looksM M n c j + ct (fun k => lk (M j) (M k) c) n ≤ (j + 1) * n
    rw [Nat.succ_mul]; omega
def fewS (f : Nat → Nat) : Nat → Nat × Nat
  | 0 => (0, 0)
  | h + 1 => (if (decide (h = 0) || !decide ((fewS f h).1 ≤ f h)) then f h else (fewS f h).1, if (decide (h ≤ 0) || decide ((fewS f h).1 ≤ f h)) then (fewS f h).2 else h)
theorem fewS_le {f : Nat → Nat} {B : Nat} (h : ∀ i, f i ≤ B) : ∀ i, (fewS f i).1 ≤ B
  | 0 => Nat.zero_le _
  | i + 1 => by
    show (if (decide (i = 0) || !decide ((fewS f i).1 ≤ f i)) then f i else (fewS f i).1) ≤ B
    split
    · exact h i
    · exact fewS_le h i
theorem fewS2_le (f : Nat → Nat) : ∀ i, (fewS f i).2 ≤ i
  | 0 => Nat.zero_le _
  | i + 1 => by
    show (if (decide (i ≤ 0) || decide ((fewS f i).1 ≤ f i)) then (fewS f i).2 else i) ≤ i + 1
    split
    · have := fewS2_le f i; omega
    · omega
theorem looksM_40 (M : Nat → Int64) {n : Nat} (c : Int64) (hn : n ≤ 40) {j : Nat} (hj : j ≤ n) : looksM M n c j ≤ 1600 := by
  have h1 := looksM_le M n c j
  have h2 : j * n ≤ 40 * 40 := Nat.mul_le_mul (by omega) hn
  omega
end
section
/-! maps: copies and shifts of rows -/
def cpL {α : Type} (m : Nat → Nat → α) (dst dp src sp len : Nat) : Nat → Nat → α := fun a k => if a = dst ∧ dp ≤ k ∧ k < dp + len then m src (sp + (k - dp)) else m a k
def shL {α : Type} (m : Nat → Nat → α) (id lo d len : Nat) : Nat → Nat → α := fun a k => if a = id ∧ lo ≤ k ∧ k < lo + len then m a (k + d) else m a k
theorem u2_at {α : Type} (f : Nat → Nat → α) (i k : Nat) (v : α) (a b : Nat) : u2 f i k v a b = if a = i ∧ b = k then v else f a b := by
  by_cases h : a = i
  · subst h; rw [u2_s]; by_cases h2 : b = k <;> simp [uf, h2]
  · rw [u2_n _ _ _ h]; simp [h]
theorem cpL_0 {α : Type} (m : Nat → Nat → α) (dst dp src sp : Nat) : cpL m dst dp src sp 0 = m := by
  funext a k; unfold cpL; rw [if_neg (by omega)]
theorem cpL_n {α : Type} (m : Nat → Nat → α) {dst dp src sp len a : Nat} (h : a ≠ dst) : cpL m dst dp src sp len a = m a := by
  funext k; unfold cpL; rw [if_neg (by intro q; exact h q.1)]
theorem cpL_in {α : Type} (m : Nat → Nat → α) {dst dp src sp len j : Nat} (h : j < len) : cpL m dst dp src sp len dst (dp + j) = m src (sp + j) := by
  unfold cpL; rw [if_pos (by omega), show dp + j - dp = j by omega]
theorem cpL_out {α : Type} (m : Nat → Nat → α) {dst dp src sp len a k : Nat} (h : k < dp ∨ dp + len ≤ k) : cpL m dst dp src sp len a k = m a k := by
  unfold cpL; rw [if_neg (by omega)]
theorem cpL_step {α : Type} (m : Nat → Nat → α) {dst dp src sp i x y : Nat} (hd : src ≠ dst) (hx : x = dp + i) (hy : y = sp + i) : cpL m dst dp src sp (i + 1) = u2 (cpL m dst dp src sp i) dst x (cpL m dst dp src sp i src y) := by
  subst hx; subst hy
  funext a k
  rw [u2_at, cpL_n m hd]
  unfold cpL
  by_cases h1 : a = dst ∧ k = dp + i
  · rw [if_pos h1, if_pos (by omega), h1.2, show dp + i - dp = i by omega]
  · rw [if_neg h1]
    by_cases h2 : a = dst ∧ dp ≤ k ∧ k < dp + i
    · rw [if_pos (by omega), if_pos h2]
    · rw [if_neg (by omega), if_neg h2]
theorem shL_0 {α : Type} (m : Nat → Nat → α) (id lo d : Nat) : shL m id lo d 0 = m := by
  funext a k; unfold shL; rw [if_neg (by omega)]
theorem shL_n {α : Type} (m : Nat → Nat → α) {id lo d len a : Nat} (h : a ≠ id) : shL m id lo d len a = m a := by
  funext k; unfold shL; rw [if_neg (by intro q; exact h q.1)]
theorem shL_in {α : Type} (m : Nat → Nat → α) {id lo d len k : Nat} (h : lo ≤ k) (h2 : k < lo + len) : shL m id lo d len id k = m id (k + d) := by
  unfold shL; rw [if_pos ⟨rfl, h, h2⟩]
theorem shL_out {α : Type} (m : Nat → Nat → α) {id lo d len a k : Nat} (h : k < lo ∨ lo + len ≤ k) : shL m id lo d len a k = m a k := by
  unfold shL; rw [if_neg (by omega)]
theorem shL_step {α : Type} (m : Nat → Nat → α) {id lo d i x y : Nat} (hd : 0 < d) (hx : x = lo + i) (hy : y = lo + i + d) : shL m id lo d (i + 1) = u2 (shL m id lo d i) id x (shL m id lo d i id y) := by
  subst hx; subst hy
  funext a k
  rw [u2_at]
  unfold shL
  by_cases h1 : a = id ∧ k = lo + i
  · rw [if_pos h1, if_pos (by omega), if_neg (by omega), h1.1, h1.2]
  · rw [if_neg h1]
    by_cases h2 : a = id ∧ lo ≤ k ∧ k < lo + i
    · rw [if_pos (by omega), if_pos h2]
    · rw [if_neg (by omega), if_neg h2]
theorem u2_u2 {α : Type} (f : Nat → Nat → α) (i k : Nat) (v w : α) : u2 (u2 f i k v) i k w = u2 f i k w := by
  funext a b; rw [u2_at, u2_at, u2_at]; by_cases h : a = i ∧ b = k <;> simp [h]
theorem u2_same {α : Type} (f : Nat → Nat → α) (i k : Nat) : u2 f i k (f i k) = f := by
  funext a b; rw [u2_at]; split
  · rename_i h; rw [h.1, h.2]
  · rfl
/-- what note() does: the past is one longer, or goes on by one -/
def noteI (mi : MI) (c : Nat) : MI := if c = 20 then u2 (cpL (u2 (shL mi 99 0 40 760) 95 2 (nI 19)) 99 (40 * 19) 97 0 40) 95 2 (nI (19 + 1)) else u2 (cpL mi 99 (40 * c) 97 0 40) 95 2 (nI (c + 1))
def noteL (ml : ML) (c : Nat) : ML := if c = 20 then cpL (shL ml 98 0 43 817) 98 (43 * 19) 96 0 43 else cpL ml 98 (43 * c) 96 0 43
theorem noteL_n (ml : ML) (c : Nat) {a : Nat} (h : a ≠ 98) : noteL ml c a = ml a := by
  unfold noteL; split
  · rw [cpL_n _ h, shL_n _ h]
  · rw [cpL_n _ h]
theorem noteI_n (mi : MI) (c : Nat) {a : Nat} (h : a ≠ 99) (h2 : a ≠ 95) : noteI mi c a = mi a := by
  unfold noteI; split
  · rw [u2_n _ _ _ h2, cpL_n _ h, u2_n _ _ _ h2, shL_n _ h]
  · rw [u2_n _ _ _ h2, cpL_n _ h]
theorem noteI_95 (mi : MI) (c : Nat) {k : Nat} (h : k ≠ 2) : noteI mi c 95 k = mi 95 k := by
  unfold noteI; split
  · rw [u2_s, uf_n _ _ h, cpL_n _ (by decide), u2_s, uf_n _ _ h, shL_n _ (by decide)]
  · rw [u2_s, uf_n _ _ h, cpL_n _ (by decide)]
theorem noteI_c (mi : MI) (c : Nat) : noteI mi c 95 2 = if c = 20 then nI 20 else nI (c + 1) := by
  unfold noteI; split
  · rw [u2_s, uf_s]
  · rw [u2_s, uf_s]
/-- the next seed -/
def nxt (z : Nat) : Nat := (z * 1103515245 + 12345) % 2147483648
theorem nxt_lt (z : Nat) : nxt z < 2147483648 := Nat.mod_lt _ (by decide)
/-- pictures -/
def turnS (h : Int64) : Nat → Int64
  | 0 => 0
  | b + 1 => turnS h b ||| (if bt h b then shl 1 (8 * (b % 8) + 7 - b / 8) else 0)
def mirS (h : Int64) : Nat → Int64
  | 0 => 0
  | b + 1 => mirS h b ||| (if bt h b then shl 1 (b / 8 * 8 + 7 - b % 8) else 0)
def rowsS (x : Int64) : Nat → Int64
  | 0 => 0
  | r + 1 => rowsS x r ||| shl x (8 * r)
def typed (h : Int64) (r d : Nat) : Int64 := h &&& (shl 255 (8 * r) ^^^ (-1)) ||| shl (lN d) (8 * r)
theorem pop_pos {x : Int64} (h : bt x 0 = true) : 1 ≤ pop x := by
  have := ct_mono (bt x) (show 1 ≤ 64 by decide)
  have e : ct (bt x) 1 = 1 := by simp [ct, h]
  unfold pop; omega
/-- one of the times by draws, in the reference -/
def lotW (z : Nat) : Nat := nxt z / 65536 % 4
def lotH (h : Int64) (z : Nat) : Int64 := if lotW z = 0 then rowsS (lN (nxt (nxt (nxt z)) / 65536 % 256)) 8 else if lotW z = 1 ∨ lotW z = 2 then h ^^^ shl 1 (nxt (nxt z) / 65536 % 64) else h
def lotZ (z : Nat) : Nat := if lotW z = 0 then nxt (nxt (nxt z)) else if lotW z = 1 ∨ lotW z = 2 then nxt (nxt z) else nxt z
theorem lotZ_lt (z : Nat) : lotZ z < 2147483648 := by
  unfold lotZ; split
  · exact nxt_lt _
  · split <;> exact nxt_lt _
def lotA (ml : ML) (n z : Nat) : Bool := decide (lastB (fun k => decide (oM ml k = lotH (ml 96 0) z)) n = -1) && decide (n < 40)
def lotI (mi : MI) (ml : ML) (c n z : Nat) : MI := if lotA ml n z then u2 (u2 (noteI mi c) 95 9 (nI (lotZ z))) 97 n (nI 0) else u2 (noteI mi c) 95 9 (nI (lotZ z))
def lotL (ml : ML) (c n z : Nat) : ML := if lotA ml n z then u2 (u2 (u2 (noteL ml c) 96 0 (lotH (ml 96 0) z)) 96 (3 + n) (lotH (ml 96 0) z)) 96 2 (lN (n + 1)) else u2 (noteL ml c) 96 0 (lotH (ml 96 0) z)
theorem oM_u0 (ml : ML) (x : Int64) (k : Nat) : oM (u2 ml 96 0 x) k = oM ml k := by unfold oM; rw [u2_s, uf_n _ _ (by omega)]
theorem oM_note (ml : ML) (c k : Nat) : oM (noteL ml c) k = oM ml k := by unfold oM; rw [noteL_n _ _ (by decide)]
/-- the end of a lot: what was found, what was done -/
theorem lot_end {mi mi' : MI} {ml ml' : ML} {c n z : Nat} {h : Int64} {Z : Nat} (hn : n ≤ 40) (eh : h = lotH (ml 96 0) z) (eZ : Z = lotZ z) :
    (lastB (fun k => decide (oM (u2 (noteL ml c) 96 0 h) k = h)) n = -1 → n < 40 → mi' = u2 (u2 (noteI mi c) 95 9 (nI Z)) 97 n (nI 0) → ml' = u2 (u2 (u2 (noteL ml c) 96 0 h) 96 (3 + n) h) 96 2 (lN (n + 1)) → mi' = lotI mi ml c n z ∧ ml' = lotL ml c n z) ∧
    (¬ (lastB (fun k => decide (oM (u2 (noteL ml c) 96 0 h) k = h)) n = -1 ∧ n < 40) → mi' = u2 (noteI mi c) 95 9 (nI Z) → ml' = u2 (noteL ml c) 96 0 h → mi' = lotI mi ml c n z ∧ ml' = lotL ml c n z) := by
  subst eh; subst eZ
  simp only [oM_u0, oM_note]
  refine ⟨fun h1 h2 e1 e2 => ?_, fun h1 e1 e2 => ?_⟩
  · have hA : lotA ml n z = true := by unfold lotA; simp [h1, h2]
    unfold lotI lotL; rw [if_pos hA, if_pos hA]; exact ⟨e1, e2⟩
  · have hA : ¬ lotA ml n z = true := by
      unfold lotA
      intro q
      simp only [Bool.and_eq_true, decide_eq_true_eq] at q
      exact h1 q
    unfold lotI lotL; rw [if_neg hA, if_neg hA]; exact ⟨e1, e2⟩
/-- n times by draws, in the reference: maps, past, marks, seed -/
def drS (mi : MI) (ml : ML) (c n z : Nat) : Nat → MI × ML × Nat × Nat × Nat
  | 0 => (mi, ml, c, n, z)
  | i + 1 => (lotI (drS mi ml c n z i).1 (drS mi ml c n z i).2.1 (drS mi ml c n z i).2.2.1 (drS mi ml c n z i).2.2.2.1 (drS mi ml c n z i).2.2.2.2, lotL (drS mi ml c n z i).2.1 (drS mi ml c n z i).2.2.1 (drS mi ml c n z i).2.2.2.1 (drS mi ml c n z i).2.2.2.2,
      (if (drS mi ml c n z i).2.2.1 = 20 then 20 else (drS mi ml c n z i).2.2.1 + 1), (if lotA (drS mi ml c n z i).2.1 (drS mi ml c n z i).2.2.2.1 (drS mi ml c n z i).2.2.2.2 then (drS mi ml c n z i).2.2.2.1 + 1 else (drS mi ml c n z i).2.2.2.1), lotZ (drS mi ml c n z i).2.2.2.2)
theorem lotI_c (mi : MI) (ml : ML) (c n z : Nat) : lotI mi ml c n z 95 2 = nI (if c = 20 then 20 else c + 1) := by
  unfold lotI; split
  · rw [u2_n _ _ _ (by decide), u2_s, uf_n _ _ (by decide), noteI_c]; split <;> rfl
  · rw [u2_s, uf_n _ _ (by decide), noteI_c]; split <;> rfl
theorem lotI_z (mi : MI) (ml : ML) (c n z : Nat) : lotI mi ml c n z 95 9 = nI (lotZ z) := by
  unfold lotI; split
  · rw [u2_n _ _ _ (by decide), u2_s, uf_s]
  · rw [u2_s, uf_s]
theorem lotL_n {ml : ML} {c n z : Nat} (h : ml 96 2 = lN n) : lotL ml c n z 96 2 = lN (if lotA ml n z then n + 1 else n) := by
  unfold lotL; split
  · rw [u2_s, uf_s]
  · rw [u2_s, uf_n _ _ (by decide), noteL_n _ _ (by decide), h]
theorem drS_ok {mi : MI} {ml : ML} {c n z : Nat} (hc : mi 95 2 = nI c) (hc20 : c ≤ 20) (hn : ml 96 2 = lN n) (hn40 : n ≤ 40) (hz : mi 95 9 = nI z) (hz31 : z < 2147483648) : ∀ i, (drS mi ml c n z i).1 95 2 = nI (drS mi ml c n z i).2.2.1 ∧ (drS mi ml c n z i).2.2.1 ≤ 20 ∧ (drS mi ml c n z i).2.1 96 2 = lN (drS mi ml c n z i).2.2.2.1 ∧ (drS mi ml c n z i).2.2.2.1 ≤ 40 ∧ (drS mi ml c n z i).1 95 9 = nI (drS mi ml c n z i).2.2.2.2 ∧ (drS mi ml c n z i).2.2.2.2 < 2147483648
  | 0 => ⟨hc, hc20, hn, hn40, hz, hz31⟩
  | i + 1 => by
    obtain ⟨h1, h2, h3, h4, h5, h6⟩ := drS_ok hc hc20 hn hn40 hz hz31 i
    refine ⟨lotI_c _ _ _ _ _, ?_, lotL_n h3, ?_, lotI_z _ _ _ _ _, lotZ_lt _⟩
    · show (if (drS mi ml c n z i).2.2.1 = 20 then 20 else (drS mi ml c n z i).2.2.1 + 1) ≤ 20
      split <;> omega
    · show (if lotA (drS mi ml c n z i).2.1 (drS mi ml c n z i).2.2.2.1 (drS mi ml c n z i).2.2.2.2 then (drS mi ml c n z i).2.2.2.1 + 1 else (drS mi ml c n z i).2.2.2.1) ≤ 40
      split
      · rename_i hA
        unfold lotA at hA
        simp only [Bool.and_eq_true, decide_eq_true_eq] at hA
        omega
      · exact h4
end
section
/-! Long.bitCount counts the ones -/
theorem land_app (w a b u v : Nat) (hu : u < 2 ^ w) (hv : v < 2 ^ w) : (2 ^ w * a + u) &&& (2 ^ w * b + v) = 2 ^ w * (a &&& b) + (u &&& v) := by
  apply Nat.eq_of_testBit_eq
  intro i
  have huv : u &&& v < 2 ^ w := Nat.lt_of_le_of_lt Nat.and_le_left hu
  rw [Nat.testBit_and, Nat.testBit_two_pow_mul_add a hu, Nat.testBit_two_pow_mul_add b hv, Nat.testBit_two_pow_mul_add _ huv]
  split
  · rw [Nat.testBit_and]
  · rw [Nat.testBit_and]
theorem land256 (a b : Nat) {u v : Nat} (hu : u < 256) (hv : v < 256) : (256 * a + u) &&& (256 * b + v) = 256 * (a &&& b) + (u &&& v) := land_app 8 a b u v hu hv
def mk8 (b : Nat) : Nat → Nat
  | 0 => 0
  | k + 1 => 256 * mk8 b k + b
def q1 (k X : Nat) : Nat := X - (X / 2 &&& mk8 85 k)
def q2 (k Y : Nat) : Nat := (Y &&& mk8 51 k) + (Y / 4 &&& mk8 51 k)
def q3 (k Y : Nat) : Nat := (Y + Y / 16) &&& mk8 15 k
def b1 (u : Nat) : Nat := u - (u / 2 &&& 85)
def b2 (y : Nat) : Nat := (y &&& 51) + (y / 4 &&& 51)
def b3 (y : Nat) : Nat := (y + y / 16) &&& 15
theorem t_b1 : ∀ u, u < 256 → ∀ t, t < 2 → ((128 * t + u / 2) &&& 85) = (u / 2 &&& 85) ∧ (u / 2 &&& 85) ≤ u ∧ b1 u < 256 := by decide +kernel
theorem t_b2 : ∀ u, u < 256 → ∀ t, t < 4 → ((64 * t + b1 u / 4) &&& 51) = (b1 u / 4 &&& 51) ∧ b2 (b1 u) < 256 ∧ b2 (b1 u) % 16 ≤ 4 ∧ b2 (b1 u) ≤ 68 := by decide +kernel
theorem t_b3 : ∀ u, u < 256 → ∀ t, t < 5 → ((b2 (b1 u) + b2 (b1 u) / 16 + 16 * t) &&& 15) = b3 (b2 (b1 u)) ∧ b3 (b2 (b1 u)) ≤ 8 := by decide +kernel
theorem q1_s (k X u : Nat) (hu : u < 256) : q1 (k + 1) (256 * X + u) = 256 * q1 k X + b1 u := by
  unfold q1
  have e : (256 * X + u) / 2 = 256 * (X / 2) + (128 * (X % 2) + u / 2) := by omega
  obtain ⟨h1, h2, h3⟩ := t_b1 u hu (X % 2) (Nat.mod_lt _ (by decide))
  rw [e, mk8, land256 _ _ (by omega) (by decide), h1]
  have h4 : (X / 2 &&& mk8 85 k) ≤ X := Nat.le_trans Nat.and_le_left (Nat.div_le_self _ _)
  unfold b1
  omega
theorem q2_s (k Y u : Nat) (hu : u < 256) : q2 (k + 1) (256 * Y + b1 u) = 256 * q2 k Y + b2 (b1 u) := by
  unfold q2
  have hb := (t_b1 u hu 0 (by decide)).2.2
  have e : (256 * Y + b1 u) / 4 = 256 * (Y / 4) + (64 * (Y % 4) + b1 u / 4) := by omega
  obtain ⟨h1, h2, h3⟩ := t_b2 u hu (Y % 4) (Nat.mod_lt _ (by decide))
  rw [e, mk8, land256 _ _ hb (by decide), land256 _ _ (by omega) (by decide), h1]
  unfold b2
  omega
theorem q2_m {k X u : Nat} (hu : u < 256) : q2 (k + 1) (q1 (k + 1) (256 * X + u)) % 16 ≤ 4 := by
  rw [q1_s k X u hu, q2_s k _ u hu]
  have := (t_b2 u hu 0 (by decide)).2.2.1
  omega
theorem q3_s (k Y u : Nat) (hu : u < 256) (hY : Y % 16 ≤ 4) : q3 (k + 1) (256 * Y + b2 (b1 u)) = 256 * q3 k Y + b3 (b2 (b1 u)) := by
  unfold q3
  obtain ⟨-, h2, -, h5⟩ := t_b2 u hu 0 (by decide)
  have e : 256 * Y + b2 (b1 u) + (256 * Y + b2 (b1 u)) / 16 = 256 * (Y + Y / 16) + (b2 (b1 u) + b2 (b1 u) / 16 + 16 * (Y % 16)) := by omega
  obtain ⟨h1, -⟩ := t_b3 u hu (Y % 16) (by omega)
  rw [e, mk8, land256 _ _ (by omega) (by decide), h1]
def qq (k X : Nat) : Nat := q3 k (q2 k (q1 k X))
theorem qq_s (k X u : Nat) (hu : u < 256) (hX : q2 k (q1 k X) % 16 ≤ 4) : qq (k + 1) (256 * X + u) = 256 * qq k X + b3 (b2 (b1 u)) := by
  unfold qq; rw [q1_s k X u hu, q2_s k _ u hu, q3_s k _ u hu hX]
def p8 (u : Nat) : Nat := b3 (b2 (b1 u))
theorem qm (k X : Nat) : q2 k (q1 k X) % 16 ≤ 4 := by
  cases k with
  | zero => simp [q2, mk8]
  | succ k =>
    have e : X = 256 * (X / 256) + X % 256 := by omega
    rw [e]; exact q2_m (Nat.mod_lt _ (by decide))
theorem qq_r (k X : Nat) : qq (k + 1) X = 256 * qq k (X / 256) + p8 (X % 256) := by
  have e : X = 256 * (X / 256) + X % 256 := by omega
  have h := qq_s k (X / 256) (X % 256) (Nat.mod_lt _ (by decide)) (qm k _)
  rw [← e] at h
  exact h
def byt (X j : Nat) : Nat := X / 256 ^ j % 256
theorem p8_le (u : Nat) (h : u < 256) : p8 u ≤ 8 := (t_b3 u h 0 (by decide)).2
theorem qq_8 (X : Nat) : qq 8 X = p8 (X % 256) + 256 * (p8 (X / 256 % 256) + 256 * (p8 (X / 256 / 256 % 256) + 256 * (p8 (X / 256 / 256 / 256 % 256) + 256 * (p8 (X / 256 / 256 / 256 / 256 % 256) + 256 * (p8 (X / 256 / 256 / 256 / 256 / 256 % 256) + 256 * (p8 (X / 256 / 256 / 256 / 256 / 256 / 256 % 256) + 256 * p8 (X / 256 / 256 / 256 / 256 / 256 / 256 / 256 % 256))))))) := by
  rw [qq_r, qq_r, qq_r, qq_r, qq_r, qq_r, qq_r, qq_r]
  have : qq 0 (X / 256 / 256 / 256 / 256 / 256 / 256 / 256 / 256) = 0 := by simp [qq, q3, mk8]
  omega
theorem dv (a T : Nat) (h : a < 256) : (a + 256 * T) / 256 = T := by omega
theorem fold8 {d0 d1 d2 d3 d4 d5 d6 d7 : Nat} (h0 : d0 ≤ 8) (h1 : d1 ≤ 8) (h2 : d2 ≤ 8) (h3 : d3 ≤ 8) (h4 : d4 ≤ 8) (h5 : d5 ≤ 8) (h6 : d6 ≤ 8) (h7 : d7 ≤ 8) {Y A B C : Nat} (hY : Y = d0 + 256 * (d1 + 256 * (d2 + 256 * (d3 + 256 * (d4 + 256 * (d5 + 256 * (d6 + 256 * (d7)))))))) (hA : A = Y + Y / 256) (hB : B = A + A / 256 / 256) (hC : C = B + B / 256 / 256 / 256 / 256) : C % 128 = d0 + d1 + d2 + d3 + d4 + d5 + d6 + d7 ∧ C < 2 ^ 63 := by
  rw [hY, dv _ _ (by omega)] at hA
  have e1 : A = (d0 + d1) + 256 * ((d1 + d2) + 256 * ((d2 + d3) + 256 * ((d3 + d4) + 256 * ((d4 + d5) + 256 * ((d5 + d6) + 256 * ((d6 + d7) + 256 * ((d7)))))))) := by rw [hA]; simp only [Nat.mul_add]; omega
  clear hA hY
  rw [e1, dv _ _ (by omega), dv _ _ (by omega)] at hB
  have e2 : B = (d0 + d1 + d2 + d3) + 256 * ((d1 + d2 + d3 + d4) + 256 * ((d2 + d3 + d4 + d5) + 256 * ((d3 + d4 + d5 + d6) + 256 * ((d4 + d5 + d6 + d7) + 256 * ((d5 + d6 + d7) + 256 * ((d6 + d7) + 256 * ((d7)))))))) := by rw [hB]; simp only [Nat.mul_add]; omega
  clear hB e1
  rw [e2, dv _ _ (by omega), dv _ _ (by omega), dv _ _ (by omega), dv _ _ (by omega)] at hC
  have e3 : C = (d0 + d1 + d2 + d3 + d4 + d5 + d6 + d7) + 256 * ((d1 + d2 + d3 + d4 + d5 + d6 + d7) + 256 * ((d2 + d3 + d4 + d5 + d6 + d7) + 256 * ((d3 + d4 + d5 + d6 + d7) + 256 * ((d4 + d5 + d6 + d7) + 256 * ((d5 + d6 + d7) + 256 * ((d6 + d7) + 256 * ((d7)))))))) := by rw [hC]; simp only [Nat.mul_add]; omega
  clear hC e2
  constructor
  · rw [e3]
    generalize (d1 + d2 + d3 + d4 + d5 + d6 + d7) + 256 * ((d2 + d3 + d4 + d5 + d6 + d7) + 256 * ((d3 + d4 + d5 + d6 + d7) + 256 * ((d4 + d5 + d6 + d7) + 256 * ((d5 + d6 + d7) + 256 * ((d6 + d7) + 256 * ((d7))))))) = T
    omega
  · rw [e3]
    simp only [Nat.mul_add]
    omega
theorem p8_ct : ∀ u, u < 256 → p8 u = ct (fun i => u.testBit i) 8 := by decide +kernel
theorem ct_add (p : Nat → Bool) (m : Nat) : ∀ n, ct p (m + n) = ct p m + ct (fun i => p (m + i)) n
  | 0 => rfl
  | n + 1 => by
    show ct p (m + n) + (p (m + n)).toNat = ct p m + (ct (fun i => p (m + i)) n + (p (m + n)).toNat)
    rw [ct_add p m n]; omega
theorem ct_byte (X j : Nat) : ct (fun i => X.testBit (8 * j + i)) 8 = p8 (X / 256 ^ j % 256) := by
  rw [p8_ct _ (Nat.mod_lt _ (by decide))]
  apply ct_cong
  intro i hi
  rw [show (256 : Nat) = 2 ^ 8 from rfl, Nat.testBit_mod_two_pow, ← Nat.pow_mul, Nat.testBit_div_two_pow, Nat.add_comm (8 * j) i]
  simp [hi]
theorem bt_tb (x : Int64) (i : Nat) : bt x i = x.toBitVec.toNat.testBit i := rfl
theorem pop_p8 (x : Int64) : pop x = p8 (x.toBitVec.toNat / 256 ^ 0 % 256) + p8 (x.toBitVec.toNat / 256 ^ 1 % 256) + p8 (x.toBitVec.toNat / 256 ^ 2 % 256) + p8 (x.toBitVec.toNat / 256 ^ 3 % 256) + p8 (x.toBitVec.toNat / 256 ^ 4 % 256) + p8 (x.toBitVec.toNat / 256 ^ 5 % 256) + p8 (x.toBitVec.toNat / 256 ^ 6 % 256) + p8 (x.toBitVec.toNat / 256 ^ 7 % 256) := by
  have e : pop x = ct (fun i => x.toBitVec.toNat.testBit i) (8 + (8 + (8 + (8 + (8 + (8 + (8 + 8))))))) := rfl
  rw [e, ct_add _ 8, ct_add _ 8, ct_add _ 8, ct_add _ 8, ct_add _ 8, ct_add _ 8, ct_add _ 8]
  have h : ∀ j, ct (fun i => x.toBitVec.toNat.testBit (8 * j + i)) 8 = p8 (x.toBitVec.toNat / 256 ^ j % 256) := ct_byte _
  have h0 := h 0; have h1 := h 1; have h2 := h 2; have h3 := h 3; have h4 := h 4; have h5 := h 5; have h6 := h 6; have h7 := h 7
  simp only [Nat.mul_zero, Nat.zero_add, Nat.mul_one] at h0 h1
  rw [← h0, ← h1, ← h2, ← h3, ← h4, ← h5, ← h6, ← h7]
  have g : ∀ a b i : Nat, a + (b + i) = (a + b) + i := fun a b i => by omega
  simp only [g]
theorem lN_tb (n : Nat) : (lN n).toBitVec = BitVec.ofNat 64 n := rfl
theorem lN_tn {n : Nat} (h : n < 2 ^ 64) : (lN n).toBitVec.toNat = n := by rw [lN_tb, BitVec.toNat_ofNat, Nat.mod_eq_of_lt h]
theorem lN_of (x : Int64) : lN x.toBitVec.toNat = x := by
  apply Int64.toBitVec_inj.mp
  rw [lN_tb, BitVec.ofNat_toNat, BitVec.setWidth_eq]
theorem lN_land (a b : Nat) : lN a &&& lN b = lN (a &&& b) := by
  apply Int64.toBitVec_inj.1
  show BitVec.ofNat 64 a &&& BitVec.ofNat 64 b = BitVec.ofNat 64 (a &&& b)
  apply BitVec.eq_of_getLsbD_eq
  intro i hi
  simp [hi]
theorem ushr_lN {X k : Nat} (hX : X < 2 ^ 64) (hk : k < 64) : ushr (lN X) k = lN (X / 2 ^ k) := by
  apply bt_ext
  intro i hi
  rw [bt_ushr _ hk, bt_tb, bt_tb, lN_tn hX, lN_tn (Nat.lt_of_le_of_lt (Nat.div_le_self _ _) hX), Nat.testBit_div_two_pow, Nat.add_comm]
theorem nI_127 (a : Nat) : nI a &&& nI 127 = nI (a % 128) := by
  apply Int32.toBitVec_inj.1
  show BitVec.ofNat 32 a &&& BitVec.ofNat 32 127 = BitVec.ofNat 32 (a % 128)
  apply BitVec.eq_of_getLsbD_eq
  intro i hi
  have h1 : (127 : Nat).testBit i = decide (i < 7) := (by decide +kernel : ∀ i, i < 32 → (127 : Nat).testBit i = decide (i < 7)) i hi
  rw [BitVec.getLsbD_and, BitVec.getLsbD_ofNat, BitVec.getLsbD_ofNat, BitVec.getLsbD_ofNat, h1, show (128 : Nat) = 2 ^ 7 from rfl, Nat.testBit_mod_two_pow]
  simp [hi, Bool.and_comm]
theorem q_le (X : Nat) (hX : X < 2 ^ 64) : q1 8 X < 2 ^ 64 ∧ q2 8 (q1 8 X) < 2 ^ 63 ∧ (X / 2 &&& mk8 85 8) ≤ X := by
  refine ⟨Nat.lt_of_le_of_lt (Nat.sub_le _ _) hX, ?_, Nat.le_trans Nat.and_le_left (Nat.div_le_self _ _)⟩
  unfold q2
  have h1 : (q1 8 X &&& mk8 51 8) ≤ mk8 51 8 := Nat.and_le_right
  have h2 : (q1 8 X / 4 &&& mk8 51 8) ≤ mk8 51 8 := Nat.and_le_right
  have h3 : mk8 51 8 = 3689348814741910323 := by decide
  omega
/-- the end of bitCount -/
theorem bc_end {X : Nat} (hX : X < 2 ^ 64) {A B C : Nat} (hA : A = qq 8 X + qq 8 X / 256) (hB : B = A + A / 65536) (hC : C = B + B / 4294967296) : nI (C % 128) = nI (pop (lN X)) := by
  have e := fold8 (B := B) (C := C) (p8_le (X % 256) (Nat.mod_lt _ (by decide))) (p8_le (X / 256 % 256) (Nat.mod_lt _ (by decide))) (p8_le (X / 256 / 256 % 256) (Nat.mod_lt _ (by decide))) (p8_le (X / 256 / 256 / 256 % 256) (Nat.mod_lt _ (by decide))) (p8_le (X / 256 / 256 / 256 / 256 % 256) (Nat.mod_lt _ (by decide))) (p8_le (X / 256 / 256 / 256 / 256 / 256 % 256) (Nat.mod_lt _ (by decide))) (p8_le (X / 256 / 256 / 256 / 256 / 256 / 256 % 256) (Nat.mod_lt _ (by decide))) (p8_le (X / 256 / 256 / 256 / 256 / 256 / 256 / 256 % 256) (Nat.mod_lt _ (by decide))) (qq_8 X) hA (by rw [hB, Nat.div_div_eq_div_mul]) (by rw [hC, Nat.div_div_eq_div_mul, Nat.div_div_eq_div_mul, Nat.div_div_eq_div_mul])
  rw [e.1, pop_p8, lN_tn hX]
  simp only [Nat.div_div_eq_div_mul, Nat.pow_zero, Nat.div_one, Nat.reducePow, Nat.reduceMul]
theorem isMk_cl (n : Nat) (k : Int32) : (!decide (k < 0) && !decide (nI n ≤ k)) = isMk n k := by
  have e1 : (k < 0) ↔ ¬ 0 ≤ k := by rw [Int32.lt_iff_toInt_lt, Int32.le_iff_toInt_le]; omega
  have e2 : (nI n ≤ k) ↔ ¬ k < nI n := by rw [Int32.lt_iff_toInt_lt, Int32.le_iff_toInt_le]; omega
  unfold isMk
  simp only [e1, e2]
  by_cases a1 : 0 ≤ k <;> by_cases a2 : k < nI n <;> simp [a1, a2]
theorem or0 (x : Int64) : x ||| 0 = x := by
  apply bt_ext; intro i hi; rw [bt_or, bt_0, Bool.or_false]
/-- the widest of a set, gone through as the class does -/
def wdI (b : Nat → Bool) (f : Nat → Nat → Nat) (j m : Nat) : Nat → Nat
  | 0 => m
  | t + 1 => if b j && b (j + 1 + t) then (if decide (wdI b f j m t < f j (j + 1 + t)) then f j (j + 1 + t) else wdI b f j m t) else wdI b f j m t
def wdO (b : Nat → Bool) (f : Nat → Nat → Nat) (n : Nat) : Nat → Nat
  | 0 => 0
  | j + 1 => wdI b f j (wdO b f n j) (n - (j + 1))
theorem wdI_le {b : Nat → Bool} {f : Nat → Nat → Nat} {j m : Nat} (hf : ∀ x y, f x y ≤ 64) (hm : m ≤ 64) : ∀ t, wdI b f j m t ≤ 64
  | 0 => hm
  | t + 1 => by
    have h := wdI_le (b := b) (j := j) hf hm t
    unfold wdI; split
    · split
      · exact hf _ _
      · exact h
    · exact h
theorem wdO_le {b : Nat → Bool} {f : Nat → Nat → Nat} {n : Nat} (hf : ∀ x y, f x y ≤ 64) : ∀ j, wdO b f n j ≤ 64
  | 0 => Nat.zero_le _
  | j + 1 => wdI_le hf (wdO_le hf j) _
theorem lN_mask31 (a : Nat) : lN a &&& lN 2147483647 = lN (a % 2147483648) := by
  rw [lN_land, show (2147483647 : Nat) = 2 ^ 31 - 1 from rfl, Nat.and_two_pow_sub_one_eq_mod]
/-- one part alike, by the masks -/
def anyP (d : Int64) (mk : Nat → Int64) (c : Nat) : Bool := !alB (fun p => !decide (d &&& mk p = 0)) c
def turnO (p P h : Nat) : Nat := if h = 0 then p else if h = 1 then P - 1 - p else if p % 2 = 0 then p / 2 else (P + 1) / 2 + p / 2
def evS (P h : Nat) : Nat → Int64 × Nat
  | 0 => (0, 0)
  | p + 1 => ((evS P h p).1 ||| shl 1 (evS P h p).2, (evS P h p).2 + (if decide (64 - 64 / P * P ≤ turnO p P h) then 64 / P else 64 / P + 1))
def rowsE (d : Nat) : Nat → Int64
  | 0 => 0
  | r + 1 => typed (rowsE d r) r d
theorem fromB_hit {p : Nat → Bool} {d i : Nat} (h : p i = true) : fromB p (d + 1) i = nI i := by rw [fromB, if_pos h]
theorem fromB_miss {p : Nat → Bool} {d i : Nat} (h : p i = false) : fromB p (d + 1) i = fromB p d (i + 1) := by rw [fromB, if_neg (by rw [h]; decide)]
theorem ct_t {p : Nat → Bool} {n : Nat} (h : p n = true) : ct p (n + 1) = ct p n + 1 := by rw [ct, h]; rfl
theorem ct_f {p : Nat → Bool} {n : Nat} (h : p n = false) : ct p (n + 1) = ct p n := by rw [ct, h]; rfl
theorem wdI_y {b : Nat → Bool} {f : Nat → Nat → Nat} {j m t : Nat} (h1 : b j = true) (h2 : b (j + 1 + t) = true) : wdI b f j m (t + 1) = if decide (wdI b f j m t < f j (j + 1 + t)) then f j (j + 1 + t) else wdI b f j m t := by
  rw [wdI, if_pos (by rw [h1, h2]; rfl)]
theorem wdI_n1 {b : Nat → Bool} {f : Nat → Nat → Nat} {j m t : Nat} (h1 : b j = false) : wdI b f j m (t + 1) = wdI b f j m t := by
  rw [wdI, if_neg (by rw [h1]; simp)]
theorem wdI_n2 {b : Nat → Bool} {f : Nat → Nat → Nat} {j m t : Nat} (h1 : b (j + 1 + t) = false) : wdI b f j m (t + 1) = wdI b f j m t := by
  rw [wdI, if_neg (by rw [h1]; simp)]
section ROWS4
variable {γ : GT} {l : Launch} {o : OM} {own : String} {cc : ByteArray} {n : Nat} {r : Option FieldType} {fr lo : Nat} {P : Option Value → MI → ML → Prop}
variable {mi : MI} {ml : ML} {pc : Nat} {lv : List (Nat × Value)} {rest : List Value}
theorem w_ma_s : Cond.static y_Ma_max ∈ gtbl := ok_Ma_max.1
theorem w_ma_i : Cond.initialized "java/lang/Math" ∈ gtbl := ok_Ma_max.2.1
theorem r_max (X : Cx γ l o own cc n r fr lo P) {ix a b : Nat} (ha : a < 2147483648) (hb : b < 2147483648) (w : Cond.methodLink own ix y_Ma_max ∈ gtbl) (hfr : 1 ≤ fr) (hlo : (rest.map fun v => v.category).sum + 13 ≤ lo) (d : decode cc pc = .ok (.invokestatic ix, 3)) (k : V γ o n mi ml (pc + 3) lv (.int (nI (if decide (a < b) then b else a)) :: rest)) : V γ o n mi ml pc lv (.int (nI b) :: .int (nI a) :: rest) := by
  obtain ⟨x1, x2, x3, x4, x5, x6, x7, x8, x9, x10, x11, x12⟩ := X
  intro H locs ls h1 h2 h3
  refine va_mmax x1 x2 (by rw [x3]; exact h3.1.symm) x4 (x5 _ w) (x5 _ ok_Ma_max.1) (x5 _ w_ma_i) (x5 _ wc_Ma_max) (by rw [x9]; exact hfr) (by rw [x10]; exact hlo) (Nat.zero_le _) (Nat.zero_le _) d ?_
  have e : (if nI a < nI b then nI b else nI a) = nI (if decide (a < b) then b else a) := by
    have := nI_ltI ha hb
    by_cases h : a < b <;> simp [this, h]
  rw [e]
  exact k H locs ls h1 h2 h3
theorem r_min (X : Cx γ l o own cc n r fr lo P) {ix a b : Nat} (ha : a < 2147483648) (hb : b < 2147483648) (w : Cond.methodLink own ix y_Ma_min ∈ gtbl) (hfr : 1 ≤ fr) (hlo : (rest.map fun v => v.category).sum + 13 ≤ lo) (d : decode cc pc = .ok (.invokestatic ix, 3)) (k : V γ o n mi ml (pc + 3) lv (.int (nI (if decide (b < a) then b else a)) :: rest)) : V γ o n mi ml pc lv (.int (nI b) :: .int (nI a) :: rest) := by
  obtain ⟨x1, x2, x3, x4, x5, x6, x7, x8, x9, x10, x11, x12⟩ := X
  intro H locs ls h1 h2 h3
  refine va_mmin x1 x2 (by rw [x3]; exact h3.1.symm) x4 (x5 _ w) (x5 _ ok_Ma_min.1) (x5 _ w_ma_i) (x5 _ wc_Ma_min) (by rw [x9]; exact hfr) (by rw [x10]; exact hlo) (Nat.zero_le _) (Nat.zero_le _) d ?_
  have e : (if nI b < nI a then nI b else nI a) = nI (if decide (b < a) then b else a) := by
    have := nI_ltI hb ha
    by_cases h : b < a <;> simp [this, h]
  rw [e]
  exact k H locs ls h1 h2 h3
end ROWS4
end
section
/-! pure facts for the class: pictures, the past's ring, parts -/
theorem turn_y {x : Int64} {r c : Nat} (hc : c < 8) (h : bt x (8 * r + c) = true) : turnS x (8 * r + c + 1) = turnS x (8 * r + c) ||| shl 1 (8 * c + (7 - r)) ∨ 8 ≤ r := by
  rcases Nat.lt_or_ge r 8 with hr | hr
  · left
    rw [turnS, if_pos h, show 8 * ((8 * r + c) % 8) + 7 - (8 * r + c) / 8 = 8 * c + (7 - r) by omega]
  · right; exact hr
theorem turn_n {x : Int64} {b : Nat} (h : bt x b = false) : turnS x (b + 1) = turnS x b := by
  rw [turnS, if_neg (by rw [h]; decide), or0]
theorem mir_y {x : Int64} {r c : Nat} (hc : c < 8) (h : bt x (8 * r + c) = true) : mirS x (8 * r + c + 1) = mirS x (8 * r + c) ||| shl 1 (8 * r + (7 - c)) := by
  rw [mirS, if_pos h, show (8 * r + c) / 8 * 8 + 7 - (8 * r + c) % 8 = 8 * r + (7 - c) by omega]
theorem mir_n {x : Int64} {b : Nat} (h : bt x b = false) : mirS x (b + 1) = mirS x b := by
  rw [mirS, if_neg (by rw [h]; decide), or0]
theorem sub_add20 {a b : Nat} (h : b ≤ a + 20) : nI a - nI b + nI 20 = nI (a + 20 - b) := by
  rw [← pk_sub h, ← nI_add, Int32.sub_eq_add_neg, Int32.sub_eq_add_neg, Int32.add_assoc, Int32.add_comm (-nI b), ← Int32.add_assoc]
def bkN (nx q : Nat) : Nat := if decide (nx < q) then nx + 20 - q else nx - q
theorem bkN_lt {nx q : Nat} (h : nx < 20) (hq : q ≤ 20) (h1 : 1 ≤ q) : bkN nx q < 20 := by
  unfold bkN; split
  · rename_i h2; simp at h2; omega
  · omega
/-- a store becomes another -/
def bcI (mi : MI) (a b n : Nat) : MI := cpL (u2 mi a 2 (nI n)) (a + 2) 0 (b + 2) 0 n
def bcL (ml : ML) (a b n : Nat) : ML := cpL (u2 (u2 ml a 0 (ml b 0)) a 1 (ml b 1)) (a + 1) 0 (b + 1) 0 n
theorem bcI_n (mi : MI) {a b n t : Nat} (h : t ≠ a) (h2 : t ≠ a + 2) : bcI mi a b n t = mi t := by unfold bcI; rw [cpL_n _ h2, u2_n _ _ _ h]
theorem bcL_n (ml : ML) {a b n t : Nat} (h : t ≠ a) (h2 : t ≠ a + 1) : bcL ml a b n t = ml t := by unfold bcL; rw [cpL_n _ h2, u2_n _ _ _ h, u2_n _ _ _ h]
def remI (mi : MI) (nx c n : Nat) : MI := u2 (u2 (bcI mi (6 + 3 * nx) 1 n) 4 1 (nI (if decide (20 ≤ nx + 1) then 0 else nx + 1))) 4 2 (nI (if decide (20 < c + 1) then 20 else c + 1))
def remL (ml : ML) (nx n : Nat) : ML := bcL ml (6 + 3 * nx) 1 n
theorem remI_n (mi : MI) {nx c n t : Nat} (h : t ≠ 6 + 3 * nx) (h2 : t ≠ 6 + 3 * nx + 2) (h3 : t ≠ 4) : remI mi nx c n t = mi t := by unfold remI; rw [u2_n _ _ _ h3, u2_n _ _ _ h3, bcI_n _ h h2]
theorem remL_n (ml : ML) {nx n t : Nat} (h : t ≠ 6 + 3 * nx) (h2 : t ≠ 6 + 3 * nx + 1) : remL ml nx n t = ml t := bcL_n _ h h2
/-- parts as a cut says -/
def PtOK (mi : MI) (ml : ML) (a : Nat) (x : Int64) : Prop := mi a 2 = nI (pop x) ∧ (∀ p, p < pop x → mi (a + 1) p = nI (kth x p)) ∧ ∀ p, p < pop x → ∀ j, j < 64 → bt (ml (a + 2) p) j = (decide (kth x p ≤ j) && decide (j < enM x p))
theorem kth_un {x : Int64} {b : Nat} (hb : b < 64) (h : bt x b = true) : kth x (ct (bt x) b) = b := by
  have h1 : ct (bt x) b < pop x := by
    have := ct_mono (bt x) (show b + 1 ≤ 64 by omega)
    have e : ct (bt x) (b + 1) = ct (bt x) b + 1 := ct_t h
    unfold pop; omega
  obtain ⟨a1, a2, a3⟩ := kth_spec h1
  rcases Nat.lt_trichotomy (kth x (ct (bt x) b)) b with q | q | q
  · have := ct_mono (bt x) (show kth x (ct (bt x) b) + 1 ≤ b by omega)
    rw [ct_t a2] at this; omega
  · exact q
  · have := ct_mono (bt x) (show b + 1 ≤ kth x (ct (bt x) b) by omega)
    rw [ct_t h] at this; omega
theorem kth_ge {x : Int64} {p i : Nat} (hp : p < pop x) (h : ct (bt x) i ≤ p) : i ≤ kth x p := by
  obtain ⟨a1, a2, a3⟩ := kth_spec hp
  rcases Nat.lt_or_ge (kth x p) i with q | q
  · have := ct_mono (bt x) (show kth x p + 1 ≤ i by omega)
    rw [ct_t a2] at this; omega
  · exact q
theorem kth_lt_of {x : Int64} {p i : Nat} (hp : p < pop x) (h : p < ct (bt x) i) : kth x p < i := by
  obtain ⟨a1, a2, a3⟩ := kth_spec hp
  rcases Nat.lt_or_ge (kth x p) i with q | q
  · exact q
  · have := ct_mono (bt x) q
    omega
theorem en_gt {x : Int64} {p i : Nat} (hi : i < 64) (h : ct (bt x) (i + 1) ≤ p + 1) : i < enM x p := by
  unfold enM; split
  · exact hi
  · rename_i h2; simp at h2; exact kth_ge h2 h
theorem en_le {x : Int64} {p i : Nat} (hi : i ≤ 64) (h : p + 1 < ct (bt x) i) : enM x p < i := by
  have h0 := ct_mono (bt x) hi
  unfold enM; split
  · rename_i h2; simp at h2; unfold pop at h2; omega
  · rename_i h2; simp at h2; exact kth_lt_of h2 h
theorem bt_sh1 {i j : Nat} (hi : i < 64) (hj : j < 64) : bt (shl 1 i) j = decide (j = i) := by
  rw [bt_shl 1 hi hj, bt_1]
  by_cases h : j = i
  · subst h; simp
  · by_cases h2 : i ≤ j
    · have : ¬ j - i = 0 := by omega
      simp [h, this]
    · simp [h, h2]
/-- masks while they are laid: up to bit i -/
def mkP (x : Int64) (i p j : Nat) : Bool := decide (kth x p ≤ j) && (decide (j < i) && decide (j < enM x p))
theorem mk_old {x : Int64} {i p j : Nat} (hi : i < 64) (h : p + 1 < ct (bt x) (i + 1)) : mkP x (i + 1) p j = mkP x i p j := by
  unfold mkP
  have := en_le (show i + 1 ≤ 64 by omega) h
  by_cases h1 : j < enM x p
  · have h2 : j < i := by omega
    have h3 : j < i + 1 := by omega
    simp [h1, h2, h3]
  · simp [h1]
theorem mk_cur {x : Int64} {i p j : Nat} (hi : i < 64) (hj : j < 64) (hp : p + 1 = ct (bt x) (i + 1)) {M : Int64} (hM : bt M j = mkP x i p j) : bt (M ||| shl 1 i) j = mkP x (i + 1) p j := by
  rw [bt_or, bt_sh1 hi hj, hM]
  have hp2 : p < pop x := by have := ct_mono (bt x) (show i + 1 ≤ 64 by omega); unfold pop; omega
  have h1 := en_gt hi (show ct (bt x) (i + 1) ≤ p + 1 by omega)
  have h2 := kth_lt_of hp2 (show p < ct (bt x) (i + 1) by omega)
  unfold mkP
  by_cases e : j = i
  · subst e
    have h3 : kth x p ≤ j := by omega
    simp [h1, h3]
  · have e2 : (j < i + 1) ↔ (j < i) := by omega
    simp [e, e2]
theorem mk_new {x : Int64} {i p j : Nat} (hi : i < 64) (hb : bt x i = true) (hp : p = ct (bt x) i) : mkP x i p j = false := by
  unfold mkP; subst hp
  rw [kth_un hi hb]
  by_cases e : j < i
  · simp [Nat.not_le.mpr e]
  · simp [e]
theorem mk_end {x : Int64} {p j : Nat} (hj : j < 64) : mkP x 64 p j = (decide (kth x p ≤ j) && decide (j < enM x p)) := by
  unfold mkP; simp [hj]
def ptI (mi : MI) (a : Nat) (x : Int64) (i : Nat) : Prop := mi a 2 = nI (ct (bt x) i) ∧ ∀ p, p < ct (bt x) i → mi (a + 1) p = nI (kth x p)
def ptL (ml : ML) (a : Nat) (x : Int64) (i : Nat) : Prop := ∀ p, p < ct (bt x) i → ∀ j, j < 64 → bt (ml (a + 2) p) j = mkP x i p j
theorem pt_hit_I {mi : MI} {a i : Nat} {x : Int64} (hi : i < 64) (hb : bt x i = true) (h : ptI mi a x i) : ptI (u2 (u2 mi (a + 1) (ct (bt x) i) (nI i)) a 2 (nI (ct (bt x) i + 1))) a x (i + 1) := by
  refine ⟨by rw [u2_s, uf_s, ct_t hb], fun p hp => ?_⟩
  rw [u2_n _ _ _ (by omega), u2_s]
  rw [ct_t hb] at hp
  by_cases e : p = ct (bt x) i
  · subst e; rw [uf_s, kth_un hi hb]
  · rw [uf_n _ _ e]; exact h.2 p (by omega)
theorem pt_miss_I {mi : MI} {a i : Nat} {x : Int64} (hb : bt x i = false) (h : ptI mi a x i) : ptI mi a x (i + 1) := by
  unfold ptI; rw [ct_f hb]; exact h
theorem pt_hit_L {ml : ML} {a i : Nat} {x : Int64} (hi : i < 64) (hb : bt x i = true) (h : ptL ml a x i) : ptL (u2 (u2 ml (a + 2) (ct (bt x) i) 0) (a + 2) (ct (bt x) i) ((0 : Int64) ||| shl 1 i)) a x (i + 1) := by
  intro p hp j hj
  rw [u2_s]
  by_cases e : p = ct (bt x) i
  · subst e; rw [uf_s]
    exact mk_cur hi hj (ct_t hb).symm (by rw [bt_0, mk_new hi hb rfl])
  · rw [uf_n _ _ e, u2_s, uf_n _ _ e]
    rw [ct_t hb] at hp
    rw [h p (by omega) j hj, mk_old hi (by rw [ct_t hb]; omega)]
theorem pt_miss_L {ml : ML} {a i c : Nat} {x : Int64} (hi : i < 64) (hb : bt x i = false) (hc : c + 1 = ct (bt x) i) (h : ptL ml a x i) : ptL (u2 ml (a + 2) c (ml (a + 2) c ||| shl 1 i)) a x (i + 1) := by
  intro p hp j hj
  rw [u2_s]
  rw [ct_f hb] at hp
  by_cases e : p = c
  · subst e; rw [uf_s]
    exact mk_cur hi hj (by rw [ct_f hb]; exact hc) (h p hp j hj)
  · rw [uf_n _ _ e, h p hp j hj, mk_old hi (by rw [ct_f hb]; omega)]
end
section
/-! pure words for the class: columns, groups, what is seen, the book -/
theorem stB_y {p : Nat → Bool} {k : Nat} (h : p k = true) : stB p (k + 1) = stB p k ||| shl 1 k := by rw [stB, if_pos h]
theorem stB_n {p : Nat → Bool} {k : Nat} (h : p k = false) : stB p (k + 1) = stB p k := by rw [stB, if_neg (by rw [h]; decide), or0]
def mstC (f : Nat → Nat) (c : Nat → Bool) : Nat → Nat
  | 0 => 0
  | j + 1 => if c j then (if decide (mstC f c j < cn f c (f j) j + 1) then cn f c (f j) j + 1 else mstC f c j) else mstC f c j
theorem mstC_y {f : Nat → Nat} {c : Nat → Bool} {j : Nat} (h : c j = true) : mstC f c (j + 1) = if decide (mstC f c j < cn f c (f j) j + 1) then cn f c (f j) j + 1 else mstC f c j := by rw [mstC, if_pos h]
theorem mstC_n {f : Nat → Nat} {c : Nat → Bool} {j : Nat} (h : c j = false) : mstC f c (j + 1) = mstC f c j := by rw [mstC, if_neg (by rw [h]; decide)]
theorem mstC_eq (f : Nat → Nat) (c : Nat → Bool) : ∀ j, mstC f c j = mst f c j
  | 0 => rfl
  | j + 1 => by
    have ih := mstC_eq f c j
    unfold mstC mst
    rw [ih]
    by_cases h : c j = true
    · rw [if_pos h, if_pos h]
      by_cases h1 : cn f c (f j) j + 1 ≤ mst f c j
      · have h2 : ¬ mst f c j < cn f c (f j) j + 1 := by omega
        simp [h1, h2]
      · have h2 : mst f c j < cn f c (f j) j + 1 := by omega
        simp [h1, h2]
    · rw [if_neg h, if_neg h]
theorem mstC_le (f : Nat → Nat) (c : Nat → Bool) (j : Nat) : mstC f c j ≤ j := by rw [mstC_eq]; exact mst_le f c j
theorem cn_noA {A : Nat} {f : Nat → Nat} {c : Nat → Bool} {j : Nat} {m : MI} (h : c j = false) (hr : ∀ t, t < 65 → m A t = nI (cn f c t j)) : ∀ t, t < 65 → m A t = nI (cn f c t (j + 1)) := by
  intro t ht
  rw [hr t ht]
  simp [cn, ct, h]
theorem cn_yesA {A : Nat} {f : Nat → Nat} {c : Nat → Bool} {j d : Nat} {m : MI} (h : c j = true) (hd : f j = d) (hr : ∀ t, t < 65 → m A t = nI (cn f c t j)) : ∀ t, t < 65 → u2 m A d (nI (cn f c d j + 1)) A t = nI (cn f c t (j + 1)) := by
  intro t ht
  rw [u2_s]
  by_cases e : t = d
  · subst e; rw [uf_s]; simp [cn, ct, h, hd]
  · rw [uf_n _ _ e, hr t ht]
    have e2 : ¬ f j = t := fun q => e (by rw [← q, hd])
    simp [cn, ct, e2]
theorem askS_y {g : Nat → Nat} {few m : Nat} (h : (askS g few m).1 ≤ g m) : askS g few (m + 1) = askS g few m := by
  rw [askS, if_pos (by simpa using h), if_pos (by simpa using h)]
theorem askS_n {g : Nat → Nat} {few m : Nat} (h : ¬ (askS g few m).1 ≤ g m) : askS g few (m + 1) = (g m, nI m) := by
  rw [askS, if_neg (by simpa using h), if_neg (by simpa using h)]
/-- columns -/
def colS (M : Nat → Int64) (b : Nat) : Nat → Int64
  | 0 => 0
  | k + 1 => colS M b k ||| shl (ushr (M k) b &&& 1) k
def allS (n : Nat) : Int64 := shl 1 n - 1
def deadC (M : Nat → Int64) (n b : Nat) : Bool := decide (colS M b n = 0) || decide (colS M b n = allS n)
def goC (M : Nat → Int64) (n a b : Nat) : Bool := !deadC M n a && (decide (colS M a n = colS M b n) || decide (colS M a n = allS n ^^^ colS M b n))
/-- groups by spreading -/
def clS (M : Nat → Int64) (n b j : Nat) : Int64 := stB (fun k => !decide (b < ds (M j) (M k))) n
def psS (cl : Nat → Int64) (s : Int64) : Nat → Int64
  | 0 => s
  | k + 1 => if bt (psS cl s k) k then psS cl s k ||| cl k else psS cl s k
theorem psS_y {cl : Nat → Int64} {s : Int64} {k : Nat} (h : bt (psS cl s k) k = true) : psS cl s (k + 1) = psS cl s k ||| cl k := by rw [psS, if_pos h]
theorem psS_n {cl : Nat → Int64} {s : Int64} {k : Nat} (h : bt (psS cl s k) k = false) : psS cl s (k + 1) = psS cl s k := by rw [psS, if_neg (by rw [h]; decide)]
def sprS (cl : Nat → Int64) (n : Nat) (s : Int64) : Nat → Int64
  | 0 => s
  | r + 1 => psS cl (sprS cl n s r) n
theorem sprS_fix {cl : Nat → Int64} {n : Nat} {s : Int64} {i : Nat} (h : psS cl (sprS cl n s i) n = sprS cl n s i) : ∀ d, sprS cl n s (i + d) = sprS cl n s i
  | 0 => rfl
  | d + 1 => by
    show psS cl (sprS cl n s (i + d)) n = _
    rw [sprS_fix h d, h]
def jnS (cl : Nat → Int64) (n : Nat) : Nat → Int64 × Nat
  | 0 => (0, 0)
  | k + 1 => if bt (jnS cl n k).1 k then jnS cl n k else ((jnS cl n k).1 ||| sprS cl n (cl k) n, (jnS cl n k).2 + 1)
theorem jnS_y {cl : Nat → Int64} {n k : Nat} (h : bt (jnS cl n k).1 k = true) : jnS cl n (k + 1) = jnS cl n k := by rw [jnS, if_pos h]
theorem jnS_n {cl : Nat → Int64} {n k : Nat} (h : bt (jnS cl n k).1 k = false) : jnS cl n (k + 1) = ((jnS cl n k).1 ||| sprS cl n (cl k) n, (jnS cl n k).2 + 1) := by rw [jnS, if_neg (by rw [h]; decide)]
theorem jnS_le (cl : Nat → Int64) (n : Nat) : ∀ k, (jnS cl n k).2 ≤ k
  | 0 => Nat.le_refl 0
  | k + 1 => by
    have h := jnS_le cl n k
    by_cases e : bt (jnS cl n k).1 k = true
    · rw [jnS_y e]; omega
    · rw [jnS_n (by simpa using e)]; show (jnS cl n k).2 + 1 ≤ k + 1; omega
theorem jnS_mono {cl : Nat → Int64} {n : Nat} : ∀ {a b : Nat}, a ≤ b → (jnS cl n a).2 ≤ (jnS cl n b).2 := by
  intro a b h
  induction b with
  | zero => rw [show a = 0 by omega]; exact Nat.le_refl _
  | succ b ih =>
    rcases Nat.lt_or_ge b a with h2 | h2
    · rw [show a = b + 1 by omega]; exact Nat.le_refl _
    · refine Nat.le_trans (ih h2) ?_
      by_cases e : bt (jnS cl n b).1 b = true
      · rw [jnS_y e]; exact Nat.le_refl _
      · rw [jnS_n (by simpa using e)]; exact Nat.le_succ _
def jnOK (z : ML) (cl : Nat → Int64) (n i : Nat) : Prop := ∀ k, k < i → bt (jnS cl n k).1 k = false → z 82 (jnS cl n k).2 = sprS cl n (cl k) n
theorem jnOK_y {z : ML} {cl : Nat → Int64} {n i : Nat} (hb : bt (jnS cl n i).1 i = true) (h : jnOK z cl n i) : jnOK z cl n (i + 1) := by
  intro k hk hf
  rcases Nat.lt_or_ge k i with q | q
  · exact h k q hf
  · rw [show k = i by omega] at hf; rw [hb] at hf; cases hf
theorem jnOK_n {z : ML} {cl : Nat → Int64} {n i : Nat} (hb : bt (jnS cl n i).1 i = false) (h : jnOK z cl n i) : jnOK (u2 z 82 (jnS cl n i).2 (sprS cl n (cl i) n)) cl n (i + 1) := by
  intro k hk hf
  rw [u2_s]
  rcases Nat.lt_or_ge k i with q | q
  · have h1 : (jnS cl n (k + 1)).2 ≤ (jnS cl n i).2 := jnS_mono q
    rw [jnS_n hf] at h1
    have h2 : (jnS cl n k).2 + 1 ≤ (jnS cl n i).2 := h1
    rw [uf_n _ _ (by omega)]; exact h k q hf
  · rw [show k = i by omega, uf_s]
def rgC (mi : MI) (ml : ML) (n : Nat) (B1 B2 : Nat → Nat) (e : Nat) : Bool := (isMk n (nI (B1 e)) && (isMk n (nI (B2 e)) && !decide (nI (B1 e) = nI (B2 e)))) && decide (nI (ds (ml 2 (B1 e)) (ml 2 (B2 e))) = mi 93 e)
theorem col_st {z : ML} {M : Nat → Int64} {n i : Nat} (h : ∀ b, b < i → z 85 b = colS M b n) (h2 : z 85 i = colS M i n) : ∀ b, b < i + 1 → z 85 b = colS M b n := by
  intro b hb
  rcases Nat.lt_or_ge b i with q | q
  · exact h b q
  · rw [show b = i by omega]; exact h2
theorem cl_st {z : ML} {f : Nat → Int64} {i : Nat} (h : ∀ b, b < i → z 83 b = f b) (h2 : z 83 i = f i) : ∀ b, b < i + 1 → z 83 b = f b := by
  intro b hb
  rcases Nat.lt_or_ge b i with q | q
  · exact h b q
  · rw [show b = i by omega]; exact h2
theorem row_kept {z : ML} {A i : Nat} {x : Int64} {f : Nat → Int64} (h : ∀ b, b < i → z A b = f b) : ∀ b, b < i → u2 z A i x A b = f b := by
  intro b hb; rw [u2_s, uf_n _ _ (by omega)]; exact h b hb
/-- even cuts: begin with bit 0, eight parts at most -/
theorem ev_ok : ∀ P, P < 9 → 1 ≤ P → ∀ h, h < 3 → bt (evS P h P).1 0 = true ∧ pop (evS P h P).1 ≤ 8 := by decide +kernel
theorem fromC_hit {p : Nat → Bool} {v : Nat → Int32} {e : Int32} {d i : Nat} (h : p i = true) : fromC p v e (d + 1) i = v i := by rw [fromC, if_pos h]
theorem fromC_miss {p : Nat → Bool} {v : Nat → Int32} {e : Int32} {d i : Nat} (h : p i = false) : fromC p v e (d + 1) i = fromC p v e d (i + 1) := by rw [fromC, if_neg (by rw [h]; decide)]
theorem turnO_lt {p P h : Nat} (hp : p < P) (hP : P ≤ 8) : turnO p P h < 2 ^ 31 := by
  unfold turnO; split
  · omega
  · split
    · omega
    · split <;> omega
end
section
set_option maxHeartbeats 4000000 in
set_option maxRecDepth 100000 in
theorem m_Lg_bitCount_n (l : Launch) (o : OM) (mi : MI) (ml : ML) (D : Nat) (hD : D < 2 ^ 64) : ConD l y_Lg_bitCount c_Lg_bitCount 2 (some .int) 0 0 o [.long (lN D)] mi ml (some (.int (nI (pop (lN D))))) mi ml := by
  refine Con.mk (by decide) (Nat.le_of_ble_eq_true rfl) (fun γ X => ?_)
  obtain ⟨g1, g2, g3⟩ := q_le D hD
  have g4 : qq 8 D < 2 ^ 63 := by unfold qq q3; exact Nat.lt_of_le_of_lt Nat.and_le_right (by decide)
  show V γ o 2 mi ml 0 [(0, .long (lN D))] []
  refine r_lload_n X 0 d_Lg_bitCount_0 rfl rfl ?_
  refine r_lload_n X 0 d_Lg_bitCount_1 rfl rfl ?_
  refine r_iconst X (v := nI (1)) d_Lg_bitCount_2 (by decide) ?_
  refine r_lushr X (v := lN (D / 2)) d_Lg_bitCount_3 (ushr_lN (X := D) (k := 1) (hD) (by decide)) ?_
  refine r_ldc2 X (v := (6148914691236517205 : Int64)) k_Lg_314 d_Lg_bitCount_4 ?_
  refine r_land X (v := lN ((D / 2) &&& mk8 85 8)) d_Lg_bitCount_7 (by rw [show (6148914691236517205 : Int64) = lN (mk8 85 8) from by decide]; exact lN_land _ _) ?_
  refine r_lsub X (v := lN (q1 8 D)) d_Lg_bitCount_8 (lN_sub g3) ?_
  refine r_lstore_n X [(0, .long (lN (q1 8 D)))] d_Lg_bitCount_9 rfl (Nat.le_of_ble_eq_true rfl) rfl ?_
  refine r_lload_n X 0 d_Lg_bitCount_10 rfl rfl ?_
  refine r_ldc2 X (v := (3689348814741910323 : Int64)) k_Lg_316 d_Lg_bitCount_11 ?_
  refine r_land X (v := lN ((q1 8 D) &&& mk8 51 8)) d_Lg_bitCount_14 (by rw [show (3689348814741910323 : Int64) = lN (mk8 51 8) from by decide]; exact lN_land _ _) ?_
  refine r_lload_n X 0 d_Lg_bitCount_15 rfl rfl ?_
  refine r_iconst X (v := nI (2)) d_Lg_bitCount_16 (by decide) ?_
  refine r_lushr X (v := lN ((q1 8 D) / 4)) d_Lg_bitCount_17 (ushr_lN (X := (q1 8 D)) (k := 2) (g1) (by decide)) ?_
  refine r_ldc2 X (v := (3689348814741910323 : Int64)) k_Lg_316 d_Lg_bitCount_18 ?_
  refine r_land X (v := lN ((q1 8 D / 4) &&& mk8 51 8)) d_Lg_bitCount_21 (by rw [show (3689348814741910323 : Int64) = lN (mk8 51 8) from by decide]; exact lN_land _ _) ?_
  refine r_ladd X (v := lN (q2 8 (q1 8 D))) d_Lg_bitCount_22 (lN_add _ _) ?_
  refine r_lstore_n X [(0, .long (lN (q2 8 (q1 8 D))))] d_Lg_bitCount_23 rfl (Nat.le_of_ble_eq_true rfl) rfl ?_
  refine r_lload_n X 0 d_Lg_bitCount_24 rfl rfl ?_
  refine r_lload_n X 0 d_Lg_bitCount_25 rfl rfl ?_
  refine r_iconst X (v := nI (4)) d_Lg_bitCount_26 (by decide) ?_
  refine r_lushr X (v := lN ((q2 8 (q1 8 D)) / 16)) d_Lg_bitCount_27 (ushr_lN (X := (q2 8 (q1 8 D))) (k := 4) (by omega) (by decide)) ?_
  refine r_ladd X (v := lN (q2 8 (q1 8 D) + q2 8 (q1 8 D) / 16)) d_Lg_bitCount_28 (lN_add _ _) ?_
  refine r_ldc2 X (v := (1085102592571150095 : Int64)) k_Lg_318 d_Lg_bitCount_29 ?_
  refine r_land X (v := lN (qq 8 D)) d_Lg_bitCount_32 (by rw [show (1085102592571150095 : Int64) = lN (mk8 15 8) from by decide]; exact lN_land _ _) ?_
  refine r_lstore_n X [(0, .long (lN (qq 8 D)))] d_Lg_bitCount_33 rfl (Nat.le_of_ble_eq_true rfl) rfl ?_
  refine r_lload_n X 0 d_Lg_bitCount_34 rfl rfl ?_
  refine r_lload_n X 0 d_Lg_bitCount_35 rfl rfl ?_
  refine r_bipush X (v := nI (8)) d_Lg_bitCount_36 (by decide) ?_
  refine r_lushr X (v := lN ((qq 8 D) / 256)) d_Lg_bitCount_38 (ushr_lN (X := (qq 8 D)) (k := 8) (by omega) (by decide)) ?_
  refine r_ladd X (v := lN (qq 8 D + qq 8 D / 256)) d_Lg_bitCount_39 (lN_add _ _) ?_
  refine r_lstore_n X [(0, .long (lN (qq 8 D + qq 8 D / 256)))] d_Lg_bitCount_40 rfl (Nat.le_of_ble_eq_true rfl) rfl ?_
  refine r_lload_n X 0 d_Lg_bitCount_41 rfl rfl ?_
  refine r_lload_n X 0 d_Lg_bitCount_42 rfl rfl ?_
  refine r_bipush X (v := nI (16)) d_Lg_bitCount_43 (by decide) ?_
  refine r_lushr X (v := lN ((qq 8 D + qq 8 D / 256) / 65536)) d_Lg_bitCount_45 (ushr_lN (X := (qq 8 D + qq 8 D / 256)) (k := 16) (by omega) (by decide)) ?_
  refine r_ladd X (v := lN ((qq 8 D + qq 8 D / 256) + (qq 8 D + qq 8 D / 256) / 65536)) d_Lg_bitCount_46 (lN_add _ _) ?_
  refine r_lstore_n X [(0, .long (lN ((qq 8 D + qq 8 D / 256) + (qq 8 D + qq 8 D / 256) / 65536)))] d_Lg_bitCount_47 rfl (Nat.le_of_ble_eq_true rfl) rfl ?_
  refine r_lload_n X 0 d_Lg_bitCount_48 rfl rfl ?_
  refine r_lload_n X 0 d_Lg_bitCount_49 rfl rfl ?_
  refine r_bipush X (v := nI (32)) d_Lg_bitCount_50 (by decide) ?_
  refine r_lushr X (v := lN (((qq 8 D + qq 8 D / 256) + (qq 8 D + qq 8 D / 256) / 65536) / 4294967296)) d_Lg_bitCount_52 (ushr_lN (X := ((qq 8 D + qq 8 D / 256) + (qq 8 D + qq 8 D / 256) / 65536)) (k := 32) (by omega) (by decide)) ?_
  refine r_ladd X (v := lN (((qq 8 D + qq 8 D / 256) + (qq 8 D + qq 8 D / 256) / 65536) + ((qq 8 D + qq 8 D / 256) + (qq 8 D + qq 8 D / 256) / 65536) / 4294967296)) d_Lg_bitCount_53 (lN_add _ _) ?_
  refine r_lstore_n X [(0, .long (lN (((qq 8 D + qq 8 D / 256) + (qq 8 D + qq 8 D / 256) / 65536) + ((qq 8 D + qq 8 D / 256) + (qq 8 D + qq 8 D / 256) / 65536) / 4294967296)))] d_Lg_bitCount_54 rfl (Nat.le_of_ble_eq_true rfl) rfl ?_
  refine r_lload_n X 0 d_Lg_bitCount_55 rfl rfl ?_
  refine r_l2i X (v := nI ((((qq 8 D + qq 8 D / 256) + (qq 8 D + qq 8 D / 256) / 65536) + ((qq 8 D + qq 8 D / 256) + (qq 8 D + qq 8 D / 256) / 65536) / 4294967296))) d_Lg_bitCount_56 (lN_i _) ?_
  refine r_bipush X (v := nI (127)) d_Lg_bitCount_57 (by decide) ?_
  refine r_iand X (v := nI ((((qq 8 D + qq 8 D / 256) + (qq 8 D + qq 8 D / 256) / 65536) + ((qq 8 D + qq 8 D / 256) + (qq 8 D + qq 8 D / 256) / 65536) / 4294967296) % 128)) d_Lg_bitCount_59 (nI_127 _) ?_
  refine r_end_i X d_Lg_bitCount_60 ?_
  refine ⟨?_, rfl, rfl⟩; exact congrArg (fun z => some (Value.int z)) (bc_end hD rfl rfl rfl)
theorem m_Lg_bitCount (l : Launch) (o : OM) (mi : MI) (ml : ML) (x : Int64) : ConD l y_Lg_bitCount c_Lg_bitCount 2 (some .int) 0 0 o [.long (x)] mi ml (some (.int (nI (pop x)))) mi ml := by
  have h := m_Lg_bitCount_n l o mi ml x.toBitVec.toNat x.toBitVec.isLt
  rw [lN_of x] at h
  exact h
end
section
set_option maxHeartbeats 4000000 in
set_option maxRecDepth 100000 in
theorem m_Nm_hasBit (l : Launch) (o : OM) (mi : MI) (ml : ML) (x : Int64) (k : Nat) (hk : k < 64) : ConD l y_Nm_hasBit c_Nm_hasBit 3 (some .boolean) 0 0 o [.long (x), .int (nI (k))] mi ml (some (.int (bI (bt x k)))) mi ml := by
  refine Con.mk (by decide) (Nat.le_of_ble_eq_true rfl) (fun γ X => ?_)
  show V γ o 3 mi ml 0 [(0, .long (x)), (2, .int (nI (k)))] []
  refine r_lload_n X 0 d_Nm_hasBit_0 rfl rfl ?_
  refine r_iload_n X 1 d_Nm_hasBit_1 rfl rfl ?_
  refine r_lushr X (v := ushr (x) (k)) d_Nm_hasBit_2 (rfl) ?_
  refine r_lconst X (v := 1) d_Nm_hasBit_3 (by decide) ?_
  refine r_land X (v := (ushr (x) (k)) &&& (1)) d_Nm_hasBit_4 (rfl) ?_
  refine r_lconst X (v := 0) d_Nm_hasBit_5 (by decide) ?_
  refine r_lcmp X d_Nm_hasBit_6 ?_
  have hJ_1 : V γ o 3 mi ml 15 [(0, .long (x)), (2, .int (nI (k)))] [.int (bI (!(!bt x k)))] := by
    refine r_end_z X (bI_nar _) d_Nm_hasBit_15 ?_
    first | exact ⟨rfl, rfl, rfl⟩ | (refine ⟨?_, rfl, rfl⟩; simp_all)
  refine r_ifeqQ X (tgt := 14) (b := !bt x k) d_Nm_hasBit_7 (by decide) ((lg_cmp_eq _ _).trans ((has_ushr x hk).trans (by simp))) (fun c_7 => ?_) (fun c_7 => ?_)
  · -- taken
    refine r_iconst X (v := nI (0)) d_Nm_hasBit_14 (by decide) ?_
    exact V.eq hJ_1 rfl rfl rfl (by rw [show (!(!bt x k)) = false from by first | (simp only [c_7, decide_true, decide_false, Bool.not_true, Bool.not_false, Bool.true_and, Bool.false_and, Bool.and_true, Bool.and_false, Bool.true_or, Bool.false_or, Bool.or_true, Bool.or_false, if_true, if_false, ite_true, ite_false, cond_true, cond_false, Bool.false_eq_true, reduceIte]; done) | (simp [c_7]; done) | (simp_all; done)]; rfl)
  · -- not taken
    refine r_iconst X (v := nI (1)) d_Nm_hasBit_10 (by decide) ?_
    refine r_goto X (tgt := 15) d_Nm_hasBit_11 (by decide) ?_
    exact V.eq hJ_1 rfl rfl rfl (by rw [show (!(!bt x k)) = true from by first | (simp only [c_7, decide_true, decide_false, Bool.not_true, Bool.not_false, Bool.true_and, Bool.false_and, Bool.and_true, Bool.and_false, Bool.true_or, Bool.false_or, Bool.or_true, Bool.or_false, if_true, if_false, ite_true, ite_false, cond_true, cond_false, Bool.false_eq_true, reduceIte]; done) | (simp [c_7]; done) | (simp_all; done)]; rfl)

set_option maxHeartbeats 4000000 in
set_option maxRecDepth 100000 in
theorem m_Nm_distanceOf (l : Launch) (o : OM) (mi : MI) (ml : ML) (x : Int64) (y : Int64)  : ConD l y_Nm_distanceOf c_Nm_distanceOf 4 (some .int) 1 21 o [.long (x), .long (y)] mi ml (some (.int (nI (ds x y)))) mi ml := by
  refine Con.mk (by decide) (Nat.le_of_ble_eq_true rfl) (fun γ X => ?_)
  show V γ o 4 mi ml 0 [(0, .long (x)), (2, .long (y))] []
  refine r_lload_n X 0 d_Nm_distanceOf_0 rfl rfl ?_
  refine r_lload_n X 1 d_Nm_distanceOf_1 rfl rfl ?_
  refine r_lxor X (v := (x) ^^^ (y)) d_Nm_distanceOf_2 (rfl) ?_
  refine r_callS X (m_Lg_bitCount l o mi ml ((x) ^^^ (y))) ok_Lg_bitCount w_Nm_91 rfl ⟨Nat.le_of_ble_eq_true rfl, Nat.le_of_ble_eq_true rfl⟩ (rest := []) rfl (Nat.le_of_ble_eq_true rfl) d_Nm_distanceOf_3 ?_
  refine kD (st' := [.int (nI (pop ((x) ^^^ (y))))]) rfl ?_
  refine r_end_i X d_Nm_distanceOf_6 ?_
  first | exact ⟨rfl, rfl, rfl⟩ | (refine ⟨?_, rfl, rfl⟩; simp_all)

set_option maxHeartbeats 4000000 in
set_option maxRecDepth 100000 in
theorem m_Nm_leastOf (l : Launch) (o : OM) (mi : MI) (ml : ML) (x : Int64)  : ConD l y_Nm_leastOf c_Nm_leastOf 3 (some .int) 1 22 o [.long (x)] mi ml (some (.int ((fromB (bt x) 64 0)))) mi ml := by
  refine Con.mk (by decide) (Nat.le_of_ble_eq_true rfl) (fun γ X => ?_)
  show V γ o 3 mi ml 0 [(0, .long (x))] []
  refine r_iconst X (v := nI (0)) d_Nm_leastOf_0 (by decide) ?_
  refine r_istore_n X [(2, .int (nI (0))), (0, .long (x))] d_Nm_leastOf_1 rfl (Nat.le_of_ble_eq_true rfl) rfl ?_
  have L2_1 : ∀ (d_i i : Nat), i + d_i = 64 → (fromB (bt x) 64 0 = fromB (bt x) d_i (i)) → V γ o 3 mi ml 2 [(0, .long (x)), (2, .int (nI (i)))] [] := by
    intro d_i
    induction d_i with
    | zero =>
      intro i hi_L2_1 hr
      have he_L2_1 : 64 = i := by omega
      subst he_L2_1
      refine r_iload_n X 1 d_Nm_leastOf_2 rfl rfl ?_
      refine r_bipush X (v := nI (64)) d_Nm_leastOf_3 (by decide) ?_
      refine r_icge X (tgt := 24) (c := 64 ≤ 64) d_Nm_leastOf_5 (by decide) (nI_leI (Nat.le_of_ble_eq_true rfl) (by omega)) (fun c_5 => ?_) (fun c_5 => ?_)
      · -- taken
        refine r_iconst X (v := ((-1 : Int32))) d_Nm_leastOf_24 (by decide) ?_
        refine r_end_i X d_Nm_leastOf_25 ?_
        refine ⟨?_, rfl, rfl⟩; rw [hr]; rfl
      · -- not taken
        exact False.elim (by omega)
    | succ d_i ih_L2_1 =>
      intro i hi_L2_1 hr
      have hlt_L2_1 : i < 64 := by omega
      refine r_iload_n X 1 d_Nm_leastOf_2 rfl rfl ?_
      refine r_bipush X (v := nI (64)) d_Nm_leastOf_3 (by decide) ?_
      refine r_icge X (tgt := 24) (c := 64 ≤ i) d_Nm_leastOf_5 (by decide) (nI_leI (Nat.le_of_ble_eq_true rfl) (by omega)) (fun c_5_2 => ?_) (fun c_5_2 => ?_)
      · -- taken
        exact False.elim (by omega)
      · -- not taken
        refine r_lload_n X 0 d_Nm_leastOf_8 rfl rfl ?_
        refine r_iload_n X 1 d_Nm_leastOf_9 rfl rfl ?_
        refine r_callS X (m_Nm_hasBit l o mi ml x i (by omega)) ok_Nm_hasBit w_Nm_260 rfl ⟨Nat.le_of_ble_eq_true rfl, Nat.le_of_ble_eq_true rfl⟩ (rest := []) rfl (Nat.le_of_ble_eq_true rfl) d_Nm_leastOf_10 ?_
        refine kD (st' := [.int (bI (bt x i))]) rfl ?_
        refine r_ifeqB X (tgt := 18) (b := bt x i) d_Nm_leastOf_13 (by decide) (fun c_13 => ?_) (fun c_13 => ?_)
        · -- taken
          refine r_iinc X 1 (v := nI (i + 1)) [(2, .int (nI (i + 1))), (0, .long (x))] d_Nm_leastOf_18 rfl (nI_add _ 1) (Nat.le_of_ble_eq_true rfl) rfl ?_
          refine r_goto X (tgt := 2) d_Nm_leastOf_21 (by decide) ?_
          refine V.wk [1, 0] (V.eq (ih_L2_1 (i + 1) (by omega) (hr.trans (fromB_miss (by simp_all)))) ?_ ?_ ?_ rfl) (rfl : lv_pick _ [1, 0] = [(0, .long (x)), (2, .int (nI (i + 1)))])
          · rfl
          · rfl
          · first | rfl | (simp_all [ct, lastB, alB, fromB]; done)
        · -- not taken
          refine r_iload_n X 1 d_Nm_leastOf_16 rfl rfl ?_
          refine r_end_i X d_Nm_leastOf_17 ?_
          refine ⟨?_, rfl, rfl⟩; exact congrArg (fun z => some (Value.int z)) (hr.trans (fromB_hit (by simp_all))).symm
  refine V.wk [1, 0] (V.eq (L2_1 (64 - 0) 0 (by omega) (rfl)) ?_ ?_ ?_ rfl) (rfl : lv_pick _ [1, 0] = [(0, .long (x)), (2, .int (nI (0)))])
  · rfl
  · rfl
  · rfl

set_option maxHeartbeats 4000000 in
set_option maxRecDepth 100000 in
theorem m_Nm_isKind (l : Launch) (o : OM) (mi : MI) (ml : ML) (k : Int32)  : ConD l y_Nm_isKind c_Nm_isKind 1 (some .boolean) 0 0 o [.int (k)] mi ml (some (.int (bI (!decide (k < 0) && !decide (nI 2 < k))))) mi ml := by
  refine Con.mk (by decide) (Nat.le_of_ble_eq_true rfl) (fun γ X => ?_)
  show V γ o 1 mi ml 0 [(0, .int (k))] []
  refine r_iload_n X 0 d_Nm_isKind_0 rfl rfl ?_
  have hJ_1 : V γ o 1 mi ml 14 [(0, .int (k))] [.int (bI ((!decide (k < 0) && !decide ((nI (2)) < k))))] := by
    refine r_end_z X (bI_nar _) d_Nm_isKind_14 ?_
    first | exact ⟨rfl, rfl, rfl⟩ | (refine ⟨?_, rfl, rfl⟩; simp_all)
  refine r_iflt X (tgt := 13) (c := k < 0) d_Nm_isKind_1 (by decide) (Iff.rfl) (fun c_1 => ?_) (fun c_1 => ?_)
  · -- taken
    refine r_iconst X (v := nI (0)) d_Nm_isKind_13 (by decide) ?_
    exact V.eq hJ_1 rfl rfl rfl (by rw [show ((!decide (k < 0) && !decide ((nI (2)) < k))) = false from by first | (simp only [eq_true c_1, decide_true, decide_false, Bool.not_true, Bool.not_false, Bool.true_and, Bool.false_and, Bool.and_true, Bool.and_false, Bool.true_or, Bool.false_or, Bool.or_true, Bool.or_false, if_true, if_false, ite_true, ite_false, cond_true, cond_false, Bool.false_eq_true, reduceIte]; done) | (simp [c_1]; done) | (simp_all; done)]; rfl)
  · -- not taken
    refine r_iload_n X 0 d_Nm_isKind_4 rfl rfl ?_
    refine r_iconst X (v := nI (2)) d_Nm_isKind_5 (by decide) ?_
    refine r_icgt X (tgt := 13) (c := (nI (2)) < k) d_Nm_isKind_6 (by decide) (Iff.rfl) (fun c_6 => ?_) (fun c_6 => ?_)
    · -- taken
      refine r_iconst X (v := nI (0)) d_Nm_isKind_13 (by decide) ?_
      exact V.eq hJ_1 rfl rfl rfl (by rw [show ((!decide (k < 0) && !decide ((nI (2)) < k))) = false from by first | (simp only [eq_false c_1, eq_true c_6, decide_true, decide_false, Bool.not_true, Bool.not_false, Bool.true_and, Bool.false_and, Bool.and_true, Bool.and_false, Bool.true_or, Bool.false_or, Bool.or_true, Bool.or_false, if_true, if_false, ite_true, ite_false, cond_true, cond_false, Bool.false_eq_true, reduceIte]; done) | (simp [c_1, c_6]; done) | (simp_all; done)]; rfl)
    · -- not taken
      refine r_iconst X (v := nI (1)) d_Nm_isKind_9 (by decide) ?_
      refine r_goto X (tgt := 14) d_Nm_isKind_10 (by decide) ?_
      exact V.eq hJ_1 rfl rfl rfl (by rw [show ((!decide (k < 0) && !decide ((nI (2)) < k))) = true from by first | (simp only [eq_false c_1, eq_false c_6, decide_true, decide_false, Bool.not_true, Bool.not_false, Bool.true_and, Bool.false_and, Bool.and_true, Bool.and_false, Bool.true_or, Bool.false_or, Bool.or_true, Bool.or_false, if_true, if_false, ite_true, ite_false, cond_true, cond_false, Bool.false_eq_true, reduceIte]; done) | (simp [c_1, c_6]; done) | (simp_all; done)]; rfl)

set_option maxHeartbeats 4000000 in
set_option maxRecDepth 100000 in
theorem m_Nm_isDistance (l : Launch) (o : OM) (mi : MI) (ml : ML) (k : Int32)  : ConD l y_Nm_isDistance c_Nm_isDistance 1 (some .boolean) 0 0 o [.int (k)] mi ml (some (.int (bI (!decide (k < 0) && !decide (nI 64 < k))))) mi ml := by
  refine Con.mk (by decide) (Nat.le_of_ble_eq_true rfl) (fun γ X => ?_)
  show V γ o 1 mi ml 0 [(0, .int (k))] []
  refine r_iload_n X 0 d_Nm_isDistance_0 rfl rfl ?_
  have hJ_1 : V γ o 1 mi ml 15 [(0, .int (k))] [.int (bI ((!decide (k < 0) && !decide ((nI (64)) < k))))] := by
    refine r_end_z X (bI_nar _) d_Nm_isDistance_15 ?_
    first | exact ⟨rfl, rfl, rfl⟩ | (refine ⟨?_, rfl, rfl⟩; simp_all)
  refine r_iflt X (tgt := 14) (c := k < 0) d_Nm_isDistance_1 (by decide) (Iff.rfl) (fun c_1 => ?_) (fun c_1 => ?_)
  · -- taken
    refine r_iconst X (v := nI (0)) d_Nm_isDistance_14 (by decide) ?_
    exact V.eq hJ_1 rfl rfl rfl (by rw [show ((!decide (k < 0) && !decide ((nI (64)) < k))) = false from by first | (simp only [eq_true c_1, decide_true, decide_false, Bool.not_true, Bool.not_false, Bool.true_and, Bool.false_and, Bool.and_true, Bool.and_false, Bool.true_or, Bool.false_or, Bool.or_true, Bool.or_false, if_true, if_false, ite_true, ite_false, cond_true, cond_false, Bool.false_eq_true, reduceIte]; done) | (simp [c_1]; done) | (simp_all; done)]; rfl)
  · -- not taken
    refine r_iload_n X 0 d_Nm_isDistance_4 rfl rfl ?_
    refine r_bipush X (v := nI (64)) d_Nm_isDistance_5 (by decide) ?_
    refine r_icgt X (tgt := 14) (c := (nI (64)) < k) d_Nm_isDistance_7 (by decide) (Iff.rfl) (fun c_7 => ?_) (fun c_7 => ?_)
    · -- taken
      refine r_iconst X (v := nI (0)) d_Nm_isDistance_14 (by decide) ?_
      exact V.eq hJ_1 rfl rfl rfl (by rw [show ((!decide (k < 0) && !decide ((nI (64)) < k))) = false from by first | (simp only [eq_false c_1, eq_true c_7, decide_true, decide_false, Bool.not_true, Bool.not_false, Bool.true_and, Bool.false_and, Bool.and_true, Bool.and_false, Bool.true_or, Bool.false_or, Bool.or_true, Bool.or_false, if_true, if_false, ite_true, ite_false, cond_true, cond_false, Bool.false_eq_true, reduceIte]; done) | (simp [c_1, c_7]; done) | (simp_all; done)]; rfl)
    · -- not taken
      refine r_iconst X (v := nI (1)) d_Nm_isDistance_10 (by decide) ?_
      refine r_goto X (tgt := 15) d_Nm_isDistance_11 (by decide) ?_
      exact V.eq hJ_1 rfl rfl rfl (by rw [show ((!decide (k < 0) && !decide ((nI (64)) < k))) = true from by first | (simp only [eq_false c_1, eq_false c_7, decide_true, decide_false, Bool.not_true, Bool.not_false, Bool.true_and, Bool.false_and, Bool.and_true, Bool.and_false, Bool.true_or, Bool.false_or, Bool.or_true, Bool.or_false, if_true, if_false, ite_true, ite_false, cond_true, cond_false, Bool.false_eq_true, reduceIte]; done) | (simp [c_1, c_7]; done) | (simp_all; done)]; rfl)

set_option maxHeartbeats 4000000 in
set_option maxRecDepth 100000 in
theorem m_St_has (l : Launch) (o : OM) (mi : MI) (ml : ML) (a : Nat) (k : Int32) (n : Nat) (hS : isSt a) (hn : mi a 2 = nI n) (hn40 : n ≤ 40) : ConD l y_St_has c_St_has 2 (some .boolean) 0 0 o [.ref (ads o (a)), .int (k)] mi ml (some (.int (bI (isMk n k)))) mi ml := by
  refine Con.mk (by decide) (Nat.le_of_ble_eq_true rfl) (fun γ X => ?_)
  show V γ o 2 mi ml 0 [(0, .ref (ads o (a))), (1, .int (k))] []
  refine r_iload_n X 1 d_St_has_0 rfl rfl ?_
  have hJ_1 : V γ o 2 mi ml 17 [(0, .ref (ads o (a))), (1, .int (k))] [.int (bI ((!decide (k < 0) && !decide ((nI (n)) ≤ k))))] := by
    refine r_end_z X (bI_nar _) d_St_has_17 ?_
    refine ⟨?_, rfl, rfl⟩; rw [isMk_cl]
  refine r_iflt X (tgt := 16) (c := k < 0) d_St_has_1 (by decide) (Iff.rfl) (fun c_1 => ?_) (fun c_1 => ?_)
  · -- taken
    refine r_iconst X (v := nI (0)) d_St_has_16 (by decide) ?_
    exact V.eq hJ_1 rfl rfl rfl (by rw [show ((!decide (k < 0) && !decide ((nI (n)) ≤ k))) = false from by first | (simp only [eq_true c_1, decide_true, decide_false, Bool.not_true, Bool.not_false, Bool.true_and, Bool.false_and, Bool.and_true, Bool.and_false, Bool.true_or, Bool.false_or, Bool.or_true, Bool.or_false, if_true, if_false, ite_true, ite_false, cond_true, cond_false, Bool.false_eq_true, reduceIte]; done) | (simp [c_1]; done) | (simp_all; done)]; rfl)
  · -- not taken
    refine r_iload_n X 1 d_St_has_4 rfl rfl ?_
    refine r_aload_n X 0 d_St_has_5 rfl rfl ?_
    refine r_get X f_St_28 hS.b0 hS.e0 (v := .int (nI (n))) (congrArg (fun z => some (Value.int z)) (hn)) d_St_has_6 ?_
    refine r_icge X (tgt := 16) (c := (nI (n)) ≤ k) d_St_has_9 (by decide) (Iff.rfl) (fun c_9 => ?_) (fun c_9 => ?_)
    · -- taken
      refine r_iconst X (v := nI (0)) d_St_has_16 (by decide) ?_
      exact V.eq hJ_1 rfl rfl rfl (by rw [show ((!decide (k < 0) && !decide ((nI (n)) ≤ k))) = false from by first | (simp only [eq_false c_1, eq_true c_9, decide_true, decide_false, Bool.not_true, Bool.not_false, Bool.true_and, Bool.false_and, Bool.and_true, Bool.and_false, Bool.true_or, Bool.false_or, Bool.or_true, Bool.or_false, if_true, if_false, ite_true, ite_false, cond_true, cond_false, Bool.false_eq_true, reduceIte]; done) | (simp [c_1, c_9]; done) | (simp_all; done)]; rfl)
    · -- not taken
      refine r_iconst X (v := nI (1)) d_St_has_12 (by decide) ?_
      refine r_goto X (tgt := 17) d_St_has_13 (by decide) ?_
      exact V.eq hJ_1 rfl rfl rfl (by rw [show ((!decide (k < 0) && !decide ((nI (n)) ≤ k))) = true from by first | (simp only [eq_false c_1, eq_false c_9, decide_true, decide_false, Bool.not_true, Bool.not_false, Bool.true_and, Bool.false_and, Bool.and_true, Bool.and_false, Bool.true_or, Bool.false_or, Bool.or_true, Bool.or_false, if_true, if_false, ite_true, ite_false, cond_true, cond_false, Bool.false_eq_true, reduceIte]; done) | (simp [c_1, c_9]; done) | (simp_all; done)]; rfl)

set_option maxHeartbeats 4000000 in
set_option maxRecDepth 100000 in
theorem m_St_hasBoth (l : Launch) (o : OM) (mi : MI) (ml : ML) (a : Nat) (j : Int32) (k : Int32) (n : Nat) (hS : isSt a) (hn : mi a 2 = nI n) (hn40 : n ≤ 40) : ConD l y_St_hasBoth c_St_hasBoth 3 (some .boolean) 1 21 o [.ref (ads o (a)), .int (j), .int (k)] mi ml (some (.int (bI ((isMk n j && (isMk n k && !decide (j = k))))))) mi ml := by
  refine Con.mk (by decide) (Nat.le_of_ble_eq_true rfl) (fun γ X => ?_)
  show V γ o 3 mi ml 0 [(0, .ref (ads o (a))), (1, .int (j)), (2, .int (k))] []
  refine r_aload_n X 0 d_St_hasBoth_0 rfl rfl ?_
  refine r_iload_n X 1 d_St_hasBoth_1 rfl rfl ?_
  refine r_callV X (m_St_has l o mi ml a j n hS (hn) hn40) ok_St_has w_St_32 rfl hS.b0 hS.e0 rfl ⟨Nat.le_of_ble_eq_true rfl, Nat.le_of_ble_eq_true rfl⟩ (rest := []) rfl (Nat.le_of_ble_eq_true rfl) d_St_hasBoth_2 ?_
  refine kD (st' := [.int (bI (isMk n j))]) rfl ?_
  have hJ_1 : V γ o 3 mi ml 26 [(0, .ref (ads o (a))), (1, .int (j)), (2, .int (k))] [.int (bI (((isMk n j) && ((isMk n k) && !decide (j = k)))))] := by
    refine r_end_z X (bI_nar _) d_St_hasBoth_26 ?_
    first | exact ⟨rfl, rfl, rfl⟩ | (refine ⟨?_, rfl, rfl⟩; simp_all)
  refine r_ifeqB X (tgt := 25) (b := isMk n j) d_St_hasBoth_5 (by decide) (fun c_5 => ?_) (fun c_5 => ?_)
  · -- taken
    refine r_iconst X (v := nI (0)) d_St_hasBoth_25 (by decide) ?_
    exact V.eq hJ_1 rfl rfl rfl (by rw [show (((isMk n j) && ((isMk n k) && !decide (j = k)))) = false from by first | (simp only [c_5, decide_true, decide_false, Bool.not_true, Bool.not_false, Bool.true_and, Bool.false_and, Bool.and_true, Bool.and_false, Bool.true_or, Bool.false_or, Bool.or_true, Bool.or_false, if_true, if_false, ite_true, ite_false, cond_true, cond_false, Bool.false_eq_true, reduceIte]; done) | (simp [c_5]; done) | (simp_all; done)]; rfl)
  · -- not taken
    refine r_aload_n X 0 d_St_hasBoth_8 rfl rfl ?_
    refine r_iload_n X 2 d_St_hasBoth_9 rfl rfl ?_
    refine r_callV X (m_St_has l o mi ml a k n hS (hn) hn40) ok_St_has w_St_32 rfl hS.b0 hS.e0 rfl ⟨Nat.le_of_ble_eq_true rfl, Nat.le_of_ble_eq_true rfl⟩ (rest := []) rfl (Nat.le_of_ble_eq_true rfl) d_St_hasBoth_10 ?_
    refine kD (st' := [.int (bI (isMk n k))]) rfl ?_
    refine r_ifeqB X (tgt := 25) (b := isMk n k) d_St_hasBoth_13 (by decide) (fun c_13 => ?_) (fun c_13 => ?_)
    · -- taken
      refine r_iconst X (v := nI (0)) d_St_hasBoth_25 (by decide) ?_
      exact V.eq hJ_1 rfl rfl rfl (by rw [show (((isMk n j) && ((isMk n k) && !decide (j = k)))) = false from by first | (simp only [c_5, c_13, decide_true, decide_false, Bool.not_true, Bool.not_false, Bool.true_and, Bool.false_and, Bool.and_true, Bool.and_false, Bool.true_or, Bool.false_or, Bool.or_true, Bool.or_false, if_true, if_false, ite_true, ite_false, cond_true, cond_false, Bool.false_eq_true, reduceIte]; done) | (simp [c_5, c_13]; done) | (simp_all; done)]; rfl)
    · -- not taken
      refine r_iload_n X 1 d_St_hasBoth_16 rfl rfl ?_
      refine r_iload_n X 2 d_St_hasBoth_17 rfl rfl ?_
      refine r_iceq X (tgt := 25) (c := j = k) d_St_hasBoth_18 (by decide) (Iff.rfl) (fun c_18 => ?_) (fun c_18 => ?_)
      · -- taken
        refine r_iconst X (v := nI (0)) d_St_hasBoth_25 (by decide) ?_
        exact V.eq hJ_1 rfl rfl rfl (by rw [show (((isMk n j) && ((isMk n k) && !decide (j = k)))) = false from by first | (simp only [c_5, c_13, eq_true c_18, decide_true, decide_false, Bool.not_true, Bool.not_false, Bool.true_and, Bool.false_and, Bool.and_true, Bool.and_false, Bool.true_or, Bool.false_or, Bool.or_true, Bool.or_false, if_true, if_false, ite_true, ite_false, cond_true, cond_false, Bool.false_eq_true, reduceIte]; done) | (simp [c_5, c_13, c_18]; done) | (simp_all; done)]; rfl)
      · -- not taken
        refine r_iconst X (v := nI (1)) d_St_hasBoth_21 (by decide) ?_
        refine r_goto X (tgt := 26) d_St_hasBoth_22 (by decide) ?_
        exact V.eq hJ_1 rfl rfl rfl (by rw [show (((isMk n j) && ((isMk n k) && !decide (j = k)))) = true from by first | (simp only [c_5, c_13, eq_false c_18, decide_true, decide_false, Bool.not_true, Bool.not_false, Bool.true_and, Bool.false_and, Bool.and_true, Bool.and_false, Bool.true_or, Bool.false_or, Bool.or_true, Bool.or_false, if_true, if_false, ite_true, ite_false, cond_true, cond_false, Bool.false_eq_true, reduceIte]; done) | (simp [c_5, c_13, c_18]; done) | (simp_all; done)]; rfl)

set_option maxHeartbeats 4000000 in
set_option maxRecDepth 100000 in
theorem m_St_numberOf (l : Launch) (o : OM) (mi : MI) (ml : ML) (a : Nat) (x : Int64) (n : Nat) (hS : isSt a) (hn : mi a 2 = nI n) (hn40 : n ≤ 40) : ConD l y_St_numberOf c_St_numberOf 4 (some .int) 0 0 o [.ref (ads o (a)), .long (x)] mi ml (some (.int ((fromB (fun k => decide (ml (a + 1) k = x)) n 0)))) mi ml := by
  refine Con.mk (by decide) (Nat.le_of_ble_eq_true rfl) (fun γ X => ?_)
  show V γ o 4 mi ml 0 [(0, .ref (ads o (a))), (1, .long (x))] []
  refine r_iconst X (v := nI (0)) d_St_numberOf_0 (by decide) ?_
  refine r_istore_n X [(3, .int (nI (0))), (0, .ref (ads o (a))), (1, .long (x))] d_St_numberOf_1 rfl (Nat.le_of_ble_eq_true rfl) rfl ?_
  have L2_1 : ∀ (d_i i : Nat), i + d_i = n → (fromB (fun k => decide (ml (a + 1) k = x)) n 0 = fromB (fun k => decide (ml (a + 1) k = x)) d_i (i)) → V γ o 4 mi ml 2 [(0, .ref (ads o (a))), (1, .long (x)), (3, .int (nI (i)))] [] := by
    intro d_i
    induction d_i with
    | zero =>
      intro i hi_L2_1 hr
      have he_L2_1 : n = i := by omega
      subst he_L2_1
      refine r_iload_n X 2 d_St_numberOf_2 rfl rfl ?_
      refine r_aload_n X 0 d_St_numberOf_3 rfl rfl ?_
      refine r_get X f_St_28 hS.b0 hS.e0 (v := .int (nI (n))) (congrArg (fun z => some (Value.int z)) (hn)) d_St_numberOf_4 ?_
      refine r_icge X (tgt := 29) (c := n ≤ n) d_St_numberOf_7 (by decide) (nI_leI (by omega) (by omega)) (fun c_7 => ?_) (fun c_7 => ?_)
      · -- taken
        refine r_iconst X (v := ((-1 : Int32))) d_St_numberOf_29 (by decide) ?_
        refine r_end_i X d_St_numberOf_30 ?_
        refine ⟨?_, rfl, rfl⟩; rw [hr]; rfl
      · -- not taken
        exact False.elim (by omega)
    | succ d_i ih_L2_1 =>
      intro i hi_L2_1 hr
      have hlt_L2_1 : i < n := by omega
      refine r_iload_n X 2 d_St_numberOf_2 rfl rfl ?_
      refine r_aload_n X 0 d_St_numberOf_3 rfl rfl ?_
      refine r_get X f_St_28 hS.b0 hS.e0 (v := .int (nI (n))) (congrArg (fun z => some (Value.int z)) (hn)) d_St_numberOf_4 ?_
      refine r_icge X (tgt := 29) (c := n ≤ i) d_St_numberOf_7 (by decide) (nI_leI (by omega) (by omega)) (fun c_7_2 => ?_) (fun c_7_2 => ?_)
      · -- taken
        exact False.elim (by omega)
      · -- not taken
        refine r_aload_n X 0 d_St_numberOf_10 rfl rfl ?_
        refine r_get X f_St_17 hS.b0 hS.e0 (v := .ref (ads o (a + 1))) rfl d_St_numberOf_11 ?_
        refine r_iload_n X 2 d_St_numberOf_14 rfl rfl ?_
        refine r_lald X (v := ml (a + 1) i) hS.b1 hS.e1 (Nat.le_of_ble_eq_true rfl) (by omega) rfl d_St_numberOf_15 ?_
        refine r_lload_n X 1 d_St_numberOf_16 rfl rfl ?_
        refine r_lcmp X d_St_numberOf_17 ?_
        refine r_ifneP X (tgt := 23) (c := (ml (a + 1) i) = x) d_St_numberOf_18 (by decide) (lg_cmp_eq _ _) (fun c_18 => ?_) (fun c_18 => ?_)
        · -- taken
          refine r_iinc X 2 (v := nI (i + 1)) [(3, .int (nI (i + 1))), (0, .ref (ads o (a))), (1, .long (x))] d_St_numberOf_23 rfl (nI_add _ 1) (Nat.le_of_ble_eq_true rfl) rfl ?_
          refine r_goto X (tgt := 2) d_St_numberOf_26 (by decide) ?_
          refine V.wk [1, 2, 0] (V.eq (ih_L2_1 (i + 1) (by omega) (hr.trans (fromB_miss (by simp_all)))) ?_ ?_ ?_ rfl) (rfl : lv_pick _ [1, 2, 0] = [(0, .ref (ads o (a))), (1, .long (x)), (3, .int (nI (i + 1)))])
          · rfl
          · rfl
          · first | rfl | (simp_all [ct, lastB, alB, fromB]; done)
        · -- not taken
          refine r_iload_n X 2 d_St_numberOf_21 rfl rfl ?_
          refine r_end_i X d_St_numberOf_22 ?_
          refine ⟨?_, rfl, rfl⟩; exact congrArg (fun z => some (Value.int z)) (hr.trans (fromB_hit (by simp_all))).symm
  refine V.wk [1, 2, 0] (V.eq (L2_1 (n - 0) 0 (by omega) (rfl)) ?_ ?_ ?_ rfl) (rfl : lv_pick _ [1, 2, 0] = [(0, .ref (ads o (a))), (1, .long (x)), (3, .int (nI (0)))])
  · rfl
  · rfl
  · rfl

set_option maxHeartbeats 4000000 in
set_option maxRecDepth 100000 in
theorem m_St_addHand (l : Launch) (o : OM) (mi : MI) (ml : ML) (a : Nat) (q : Nat) (n : Nat) (h : Int64) (hS : isSt a) (hn : mi a 2 = nI n) (hn40 : n < 40) (hh : ml a 0 = h) : ConD l y_St_addHand c_St_addHand 2 none 0 0 o [.ref (ads o (a)), .int (nI (q))] mi ml none (u2 (u2 mi (a + 2) n (nI q)) a 2 (nI (n + 1))) (u2 ml (a + 1) n h) := by
  refine Con.mk (by decide) (Nat.le_of_ble_eq_true rfl) (fun γ X => ?_)
  show V γ o 2 mi ml 0 [(0, .ref (ads o (a))), (1, .int (nI (q)))] []
  refine r_aload_n X 0 d_St_addHand_0 rfl rfl ?_
  refine r_get X f_St_28 hS.b0 hS.e0 (v := .int (nI (n))) (congrArg (fun z => some (Value.int z)) (hn)) d_St_addHand_1 ?_
  refine r_bipush X (v := nI (40)) d_St_addHand_4 (by decide) ?_
  refine r_icge X (tgt := 42) (c := 40 ≤ n) d_St_addHand_6 (by decide) (nI_leI (Nat.le_of_ble_eq_true rfl) (by omega)) (fun c_6 => ?_) (fun c_6 => ?_)
  · -- taken
    exact False.elim (by omega)
  · -- not taken
    refine r_aload_n X 0 d_St_addHand_9 rfl rfl ?_
    refine r_get X f_St_17 hS.b0 hS.e0 (v := .ref (ads o (a + 1))) rfl d_St_addHand_10 ?_
    refine r_aload_n X 0 d_St_addHand_13 rfl rfl ?_
    refine r_get X f_St_28 hS.b0 hS.e0 (v := .int (nI (n))) (congrArg (fun z => some (Value.int z)) (hn)) d_St_addHand_14 ?_
    refine r_aload_n X 0 d_St_addHand_17 rfl rfl ?_
    refine r_get X f_St_25 hS.b0 hS.e0 (v := .long (h)) (congrArg (fun z => some (Value.long z)) (hh)) d_St_addHand_18 ?_
    refine r_last X hS.b1 hS.e1 (Nat.le_of_ble_eq_true rfl) (by omega) d_St_addHand_21 ?_
    refine r_aload_n X 0 d_St_addHand_22 rfl rfl ?_
    refine r_get X f_St_21 hS.b0 hS.e0 (v := .ref (ads o (a + 2))) rfl d_St_addHand_23 ?_
    refine r_aload_n X 0 d_St_addHand_26 rfl rfl ?_
    refine r_get X f_St_28 hS.b0 hS.e0 (v := .int (nI (n))) (congrArg (fun z => some (Value.int z)) (hn)) d_St_addHand_27 ?_
    refine r_iload_n X 1 d_St_addHand_30 rfl rfl ?_
    refine r_iast X hS.b2 hS.e2 (Nat.le_of_ble_eq_true rfl) (by omega) d_St_addHand_31 ?_
    refine r_aload_n X 0 d_St_addHand_32 rfl rfl ?_
    refine r_dup X d_St_addHand_33 rfl ?_
    refine r_get X f_St_28 hS.b0 hS.e0 (v := .int (nI (n))) (congrArg (fun z => some (Value.int z)) ((by rw [u2_n _ _ _ (by omega)] <;> exact hn))) d_St_addHand_34 ?_
    refine r_iconst X (v := nI (1)) d_St_addHand_37 (by decide) ?_
    refine r_iadd X (v := nI (n + 1)) d_St_addHand_38 (nI_add _ _) ?_
    refine r_putI X fw_St_28 hS.b0 hS.e0 (fun _ _ => rfl) (Nat.le_of_ble_eq_true rfl) d_St_addHand_39 ?_
    refine r_end_v X d_St_addHand_42 ?_
    exact ⟨rfl, rfl, rfl⟩

set_option maxHeartbeats 4000000 in
set_option maxRecDepth 100000 in
theorem m_St_remove (l : Launch) (o : OM) (mi : MI) (ml : ML) (a : Nat) (k : Nat) (n : Nat) (hS : isSt a) (hn : mi a 2 = nI n) (hn40 : n ≤ 40) (hk : k < n) : ConD l y_St_remove c_St_remove 3 none 0 0 o [.ref (ads o (a)), .int (nI (k))] mi ml none (u2 (shL mi (a + 2) k 1 (n - (k + 1))) a 2 (nI (n - 1))) (shL ml (a + 1) k 1 (n - (k + 1))) := by
  refine Con.mk (by decide) (Nat.le_of_ble_eq_true rfl) (fun γ X => ?_)
  show V γ o 3 mi ml 0 [(0, .ref (ads o (a))), (1, .int (nI (k)))] []
  refine r_iload_n X 1 d_St_remove_0 rfl rfl ?_
  refine r_iconst X (v := nI (1)) d_St_remove_1 (by decide) ?_
  refine r_iadd X (v := nI (k + 1)) d_St_remove_2 (nI_add _ _) ?_
  refine r_istore_n X [(2, .int (nI (k + 1))), (0, .ref (ads o (a))), (1, .int (nI (k)))] d_St_remove_3 rfl (Nat.le_of_ble_eq_true rfl) rfl ?_
  have L4_1 : ∀ (d_i i : Nat), i + d_i = n - (k + 1) → V γ o 3 (shL mi (a + 2) k 1 (i)) (shL ml (a + 1) k 1 (i)) 4 [(0, .ref (ads o (a))), (1, .int (nI (k))), (2, .int (nI (k + 1 + i)))] [] := by
    intro d_i
    induction d_i with
    | zero =>
      intro i hi_L4_1 
      have he_L4_1 : n - (k + 1) = i := by omega
      subst he_L4_1
      refine r_iload_n X 2 d_St_remove_4 rfl rfl ?_
      refine r_aload_n X 0 d_St_remove_5 rfl rfl ?_
      refine r_get X f_St_28 hS.b0 hS.e0 (v := .int (nI (n))) (congrArg (fun z => some (Value.int z)) ((by rw [shL_n _ (by omega)]; exact hn))) d_St_remove_6 ?_
      refine r_icge X (tgt := 46) (c := n ≤ (k + 1 + (n - (k + 1)))) d_St_remove_9 (by decide) (nI_leI (by omega) (by omega)) (fun c_9 => ?_) (fun c_9 => ?_)
      · -- taken
        refine r_aload_n X 0 d_St_remove_46 rfl rfl ?_
        refine r_dup X d_St_remove_47 rfl ?_
        refine r_get X f_St_28 hS.b0 hS.e0 (v := .int (nI (n))) (congrArg (fun z => some (Value.int z)) ((by rw [shL_n _ (by omega)]; exact hn))) d_St_remove_48 ?_
        refine r_iconst X (v := nI (1)) d_St_remove_51 (by decide) ?_
        refine r_isub X (v := nI (n - 1)) d_St_remove_52 (pk_sub (by omega)) ?_
        refine r_putI X fw_St_28 hS.b0 hS.e0 (fun _ _ => rfl) (Nat.le_of_ble_eq_true rfl) d_St_remove_53 ?_
        refine r_end_v X d_St_remove_56 ?_
        exact ⟨rfl, rfl, rfl⟩
      · -- not taken
        exact False.elim (by omega)
    | succ d_i ih_L4_1 =>
      intro i hi_L4_1 
      have hlt_L4_1 : i < n - (k + 1) := by omega
      refine r_iload_n X 2 d_St_remove_4 rfl rfl ?_
      refine r_aload_n X 0 d_St_remove_5 rfl rfl ?_
      refine r_get X f_St_28 hS.b0 hS.e0 (v := .int (nI (n))) (congrArg (fun z => some (Value.int z)) ((by rw [shL_n _ (by omega)]; exact hn))) d_St_remove_6 ?_
      refine r_icge X (tgt := 46) (c := n ≤ (k + 1 + i)) d_St_remove_9 (by decide) (nI_leI (by omega) (by omega)) (fun c_9_2 => ?_) (fun c_9_2 => ?_)
      · -- taken
        exact False.elim (by omega)
      · -- not taken
        refine r_aload_n X 0 d_St_remove_12 rfl rfl ?_
        refine r_get X f_St_17 hS.b0 hS.e0 (v := .ref (ads o (a + 1))) rfl d_St_remove_13 ?_
        refine r_iload_n X 2 d_St_remove_16 rfl rfl ?_
        refine r_iconst X (v := nI (1)) d_St_remove_17 (by decide) ?_
        refine r_isub X (v := nI (k + 1 + i - 1)) d_St_remove_18 (pk_sub (by omega)) ?_
        refine r_aload_n X 0 d_St_remove_19 rfl rfl ?_
        refine r_get X f_St_17 hS.b0 hS.e0 (v := .ref (ads o (a + 1))) rfl d_St_remove_20 ?_
        refine r_iload_n X 2 d_St_remove_23 rfl rfl ?_
        refine r_lald X (v := (shL ml (a + 1) k 1 (i)) (a + 1) (k + 1 + i)) hS.b1 hS.e1 (Nat.le_of_ble_eq_true rfl) (by omega) rfl d_St_remove_24 ?_
        refine r_last X hS.b1 hS.e1 (Nat.le_of_ble_eq_true rfl) (by omega) d_St_remove_25 ?_
        refine r_aload_n X 0 d_St_remove_26 rfl rfl ?_
        refine r_get X f_St_21 hS.b0 hS.e0 (v := .ref (ads o (a + 2))) rfl d_St_remove_27 ?_
        refine r_iload_n X 2 d_St_remove_30 rfl rfl ?_
        refine r_iconst X (v := nI (1)) d_St_remove_31 (by decide) ?_
        refine r_isub X (v := nI (k + 1 + i - 1)) d_St_remove_32 (pk_sub (by omega)) ?_
        refine r_aload_n X 0 d_St_remove_33 rfl rfl ?_
        refine r_get X f_St_21 hS.b0 hS.e0 (v := .ref (ads o (a + 2))) rfl d_St_remove_34 ?_
        refine r_iload_n X 2 d_St_remove_37 rfl rfl ?_
        refine r_iald X (v := ((shL mi (a + 2) k 1 (i)) (a + 2) (k + 1 + i))) hS.b2 hS.e2 (Nat.le_of_ble_eq_true rfl) (by omega) rfl d_St_remove_38 ?_
        refine r_iast X hS.b2 hS.e2 (Nat.le_of_ble_eq_true rfl) (by omega) d_St_remove_39 ?_
        refine r_iinc X 2 (v := nI (k + 1 + i + 1)) [(2, .int (nI (k + 1 + i + 1))), (0, .ref (ads o (a))), (1, .int (nI (k)))] d_St_remove_40 rfl (nI_add _ 1) (Nat.le_of_ble_eq_true rfl) rfl ?_
        refine r_goto X (tgt := 4) d_St_remove_43 (by decide) ?_
        refine V.wk [1, 2, 0] (V.eq (ih_L4_1 (i + 1) (by omega) ) ?_ ?_ ?_ rfl) (rfl : lv_pick _ [1, 2, 0] = [(0, .ref (ads o (a))), (1, .int (nI (k))), (2, .int (nI (k + 1 + i + 1)))])
        · exact shL_step _ (by decide) (by omega) (by omega)
        · exact shL_step _ (by decide) (by omega) (by omega)
        · rfl
  refine V.wk [1, 2, 0] (V.eq (L4_1 ((n - (k + 1)) - 0) 0 (by omega) ) ?_ ?_ ?_ rfl) (rfl : lv_pick _ [1, 2, 0] = [(0, .ref (ads o (a))), (1, .int (nI (k))), (2, .int (nI (k + 1)))])
  · exact shL_0 _ _ _ _
  · exact shL_0 _ _ _ _
  · rfl

set_option maxHeartbeats 4000000 in
set_option maxRecDepth 100000 in
theorem m_St_fromHand (l : Launch) (o : OM) (mi : MI) (ml : ML) (a : Nat) (k : Nat) (hS : isSt a) (hk : k < 40) : ConD l y_St_fromHand c_St_fromHand 2 (some .int) 2 44 o [.ref (ads o (a)), .int (nI (k))] mi ml (some (.int (nI (ds (ml (a + 1) k) (ml a 0))))) mi ml := by
  refine Con.mk (by decide) (Nat.le_of_ble_eq_true rfl) (fun γ X => ?_)
  show V γ o 2 mi ml 0 [(0, .ref (ads o (a))), (1, .int (nI (k)))] []
  refine r_aload_n X 0 d_St_fromHand_0 rfl rfl ?_
  refine r_get X f_St_17 hS.b0 hS.e0 (v := .ref (ads o (a + 1))) rfl d_St_fromHand_1 ?_
  refine r_iload_n X 1 d_St_fromHand_4 rfl rfl ?_
  refine r_lald X (v := ml (a + 1) k) hS.b1 hS.e1 (Nat.le_of_ble_eq_true rfl) (by omega) rfl d_St_fromHand_5 ?_
  refine r_aload_n X 0 d_St_fromHand_6 rfl rfl ?_
  refine r_get X f_St_25 hS.b0 hS.e0 (v := .long (ml a 0)) rfl d_St_fromHand_7 ?_
  refine r_callN X (m_Nm_distanceOf l o mi ml (ml (a + 1) k) (ml a 0)) ok_Nm_distanceOf (host := "NearMarks") (by decide +kernel) rfl ⟨Nat.le_of_ble_eq_true rfl, Nat.le_of_ble_eq_true rfl⟩ (rest := []) rfl (Nat.le_of_ble_eq_true rfl) d_St_fromHand_10 ?_
  refine kD (st' := [.int (nI (ds (ml (a + 1) k) (ml a 0)))]) rfl ?_
  refine r_end_i X d_St_fromHand_13 ?_
  first | exact ⟨rfl, rfl, rfl⟩ | (refine ⟨?_, rfl, rfl⟩; simp_all)

set_option maxHeartbeats 4000000 in
set_option maxRecDepth 100000 in
theorem m_St_between (l : Launch) (o : OM) (mi : MI) (ml : ML) (a : Nat) (j : Nat) (k : Nat) (hS : isSt a) (hj : j < 40) (hk : k < 40) : ConD l y_St_between c_St_between 3 (some .int) 2 44 o [.ref (ads o (a)), .int (nI (j)), .int (nI (k))] mi ml (some (.int (nI (ds (ml (a + 1) j) (ml (a + 1) k))))) mi ml := by
  refine Con.mk (by decide) (Nat.le_of_ble_eq_true rfl) (fun γ X => ?_)
  show V γ o 3 mi ml 0 [(0, .ref (ads o (a))), (1, .int (nI (j))), (2, .int (nI (k)))] []
  refine r_aload_n X 0 d_St_between_0 rfl rfl ?_
  refine r_get X f_St_17 hS.b0 hS.e0 (v := .ref (ads o (a + 1))) rfl d_St_between_1 ?_
  refine r_iload_n X 1 d_St_between_4 rfl rfl ?_
  refine r_lald X (v := ml (a + 1) j) hS.b1 hS.e1 (Nat.le_of_ble_eq_true rfl) (by omega) rfl d_St_between_5 ?_
  refine r_aload_n X 0 d_St_between_6 rfl rfl ?_
  refine r_get X f_St_17 hS.b0 hS.e0 (v := .ref (ads o (a + 1))) rfl d_St_between_7 ?_
  refine r_iload_n X 2 d_St_between_10 rfl rfl ?_
  refine r_lald X (v := ml (a + 1) k) hS.b1 hS.e1 (Nat.le_of_ble_eq_true rfl) (by omega) rfl d_St_between_11 ?_
  refine r_callN X (m_Nm_distanceOf l o mi ml (ml (a + 1) j) (ml (a + 1) k)) ok_Nm_distanceOf (host := "NearMarks") (by decide +kernel) rfl ⟨Nat.le_of_ble_eq_true rfl, Nat.le_of_ble_eq_true rfl⟩ (rest := []) rfl (Nat.le_of_ble_eq_true rfl) d_St_between_12 ?_
  refine kD (st' := [.int (nI (ds (ml (a + 1) j) (ml (a + 1) k)))]) rfl ?_
  refine r_end_i X d_St_between_15 ?_
  first | exact ⟨rfl, rfl, rfl⟩ | (refine ⟨?_, rfl, rfl⟩; simp_all)

set_option maxHeartbeats 4000000 in
set_option maxRecDepth 100000 in
theorem m_St_countNearerThan (l : Launch) (o : OM) (mi : MI) (ml : ML) (a : Nat) (k : Nat) (n : Nat) (hS : isSt a) (hn : mi a 2 = nI n) (hn40 : n ≤ 40) (hk : k < n) : ConD l y_St_countNearerThan c_St_countNearerThan 6 (some .int) 3 65 o [.ref (ads o (a)), .int (nI (k))] mi ml (some (.int (nI (ahd (fun q => ds (ml (a + 1) q) (ml a 0)) n k)))) mi ml := by
  refine Con.mk (by decide) (Nat.le_of_ble_eq_true rfl) (fun γ X => ?_)
  show V γ o 6 mi ml 0 [(0, .ref (ads o (a))), (1, .int (nI (k)))] []
  refine r_aload_n X 0 d_St_countNearerThan_0 rfl rfl ?_
  refine r_iload_n X 1 d_St_countNearerThan_1 rfl rfl ?_
  refine r_callV X (m_St_fromHand l o mi ml a k hS (by omega)) ok_St_fromHand w_St_44 rfl hS.b0 hS.e0 rfl ⟨Nat.le_of_ble_eq_true rfl, Nat.le_of_ble_eq_true rfl⟩ (rest := []) rfl (Nat.le_of_ble_eq_true rfl) d_St_countNearerThan_2 ?_
  refine kD (st' := [.int (nI (ds (ml (a + 1) k) (ml a 0)))]) rfl ?_
  refine r_istore_n X [(2, .int (nI (ds (ml (a + 1) k) (ml a 0)))), (0, .ref (ads o (a))), (1, .int (nI (k)))] d_St_countNearerThan_5 rfl (Nat.le_of_ble_eq_true rfl) rfl ?_
  refine r_iconst X (v := nI (0)) d_St_countNearerThan_6 (by decide) ?_
  refine r_istore_n X [(3, .int (nI (0))), (2, .int (nI (ds (ml (a + 1) k) (ml a 0)))), (0, .ref (ads o (a))), (1, .int (nI (k)))] d_St_countNearerThan_7 rfl (Nat.le_of_ble_eq_true rfl) rfl ?_
  refine r_iconst X (v := nI (0)) d_St_countNearerThan_8 (by decide) ?_
  refine r_istore X [(4, .int (nI (0))), (3, .int (nI (0))), (2, .int (nI (ds (ml (a + 1) k) (ml a 0)))), (0, .ref (ads o (a))), (1, .int (nI (k)))] d_St_countNearerThan_9 (Nat.le_of_ble_eq_true rfl) rfl ?_
  have L11_1 : ∀ (d_i i : Nat), i + d_i = n → V γ o 6 mi ml 11 [(0, .ref (ads o (a))), (1, .int (nI (k))), (2, .int (nI (ds (ml (a + 1) k) (ml a 0)))), (3, .int (nI (ct (fun j => decide (ds (ml (a + 1) j) (ml a 0) < ds (ml (a + 1) k) (ml a 0)) || (decide (ds (ml (a + 1) j) (ml a 0) = ds (ml (a + 1) k) (ml a 0)) && !decide (k ≤ j))) (i)))), (4, .int (nI (i)))] [] := by
    intro d_i
    induction d_i with
    | zero =>
      intro i hi_L11_1 
      have he_L11_1 : n = i := by omega
      subst he_L11_1
      refine r_iload X 4 d_St_countNearerThan_11 rfl ?_
      refine r_aload_n X 0 d_St_countNearerThan_13 rfl rfl ?_
      refine r_get X f_St_28 hS.b0 hS.e0 (v := .int (nI (n))) (congrArg (fun z => some (Value.int z)) (hn)) d_St_countNearerThan_14 ?_
      refine r_icge X (tgt := 55) (c := n ≤ n) d_St_countNearerThan_17 (by decide) (nI_leI (by omega) (by omega)) (fun c_17 => ?_) (fun c_17 => ?_)
      · -- taken
        refine r_iload_n X 3 d_St_countNearerThan_55 rfl rfl ?_
        refine r_end_i X d_St_countNearerThan_56 ?_
        first | exact ⟨rfl, rfl, rfl⟩ | (refine ⟨?_, rfl, rfl⟩; simp_all)
      · -- not taken
        exact False.elim (by omega)
    | succ d_i ih_L11_1 =>
      intro i hi_L11_1 
      have hlt_L11_1 : i < n := by omega
      refine r_iload X 4 d_St_countNearerThan_11 rfl ?_
      refine r_aload_n X 0 d_St_countNearerThan_13 rfl rfl ?_
      refine r_get X f_St_28 hS.b0 hS.e0 (v := .int (nI (n))) (congrArg (fun z => some (Value.int z)) (hn)) d_St_countNearerThan_14 ?_
      refine r_icge X (tgt := 55) (c := n ≤ i) d_St_countNearerThan_17 (by decide) (nI_leI (by omega) (by omega)) (fun c_17_2 => ?_) (fun c_17_2 => ?_)
      · -- taken
        exact False.elim (by omega)
      · -- not taken
        refine r_aload_n X 0 d_St_countNearerThan_20 rfl rfl ?_
        refine r_iload X 4 d_St_countNearerThan_21 rfl ?_
        refine r_callV X (m_St_fromHand l o mi ml a i hS (by omega)) ok_St_fromHand w_St_44 rfl hS.b0 hS.e0 rfl ⟨Nat.le_of_ble_eq_true rfl, Nat.le_of_ble_eq_true rfl⟩ (rest := []) rfl (Nat.le_of_ble_eq_true rfl) d_St_countNearerThan_23 ?_
        refine kD (st' := [.int (nI (ds (ml (a + 1) i) (ml a 0)))]) rfl ?_
        refine r_istore X [(5, .int (nI (ds (ml (a + 1) i) (ml a 0)))), (0, .ref (ads o (a))), (1, .int (nI (k))), (2, .int (nI (ds (ml (a + 1) k) (ml a 0)))), (3, .int (nI (ct (fun j => decide (ds (ml (a + 1) j) (ml a 0) < ds (ml (a + 1) k) (ml a 0)) || (decide (ds (ml (a + 1) j) (ml a 0) = ds (ml (a + 1) k) (ml a 0)) && !decide (k ≤ j))) (i)))), (4, .int (nI (i)))] d_St_countNearerThan_26 (Nat.le_of_ble_eq_true rfl) rfl ?_
        refine r_iload X 0 d_St_countNearerThan_28 rfl ?_
        refine r_iload_n X 3 d_St_countNearerThan_30 rfl rfl ?_
        refine r_iclt X (tgt := 46) (c := (ds (ml (a + 1) i) (ml a 0)) < (ds (ml (a + 1) k) (ml a 0))) d_St_countNearerThan_31 (by decide) (nI_ltI (ds_lt _ _) (ds_lt _ _)) (fun c_31 => ?_) (fun c_31 => ?_)
        · -- taken
          refine r_iinc X 4 (v := nI (ct (fun j => decide (ds (ml (a + 1) j) (ml a 0) < ds (ml (a + 1) k) (ml a 0)) || (decide (ds (ml (a + 1) j) (ml a 0) = ds (ml (a + 1) k) (ml a 0)) && !decide (k ≤ j))) (i) + 1)) [(3, .int (nI (ct (fun j => decide (ds (ml (a + 1) j) (ml a 0) < ds (ml (a + 1) k) (ml a 0)) || (decide (ds (ml (a + 1) j) (ml a 0) = ds (ml (a + 1) k) (ml a 0)) && !decide (k ≤ j))) (i) + 1))), (5, .int (nI (ds (ml (a + 1) i) (ml a 0)))), (0, .ref (ads o (a))), (1, .int (nI (k))), (2, .int (nI (ds (ml (a + 1) k) (ml a 0)))), (4, .int (nI (i)))] d_St_countNearerThan_46 rfl (nI_add _ 1) (Nat.le_of_ble_eq_true rfl) rfl ?_
          refine r_iinc X 5 (v := nI (i + 1)) [(4, .int (nI (i + 1))), (3, .int (nI (ct (fun j => decide (ds (ml (a + 1) j) (ml a 0) < ds (ml (a + 1) k) (ml a 0)) || (decide (ds (ml (a + 1) j) (ml a 0) = ds (ml (a + 1) k) (ml a 0)) && !decide (k ≤ j))) (i) + 1))), (5, .int (nI (ds (ml (a + 1) i) (ml a 0)))), (0, .ref (ads o (a))), (1, .int (nI (k))), (2, .int (nI (ds (ml (a + 1) k) (ml a 0))))] d_St_countNearerThan_49 rfl (nI_add _ 1) (Nat.le_of_ble_eq_true rfl) rfl ?_
          refine r_goto X (tgt := 11) d_St_countNearerThan_52 (by decide) ?_
          refine V.wk [3, 4, 5, 1, 0] (V.eq (ih_L11_1 (i + 1) (by omega) ) ?_ ?_ ?_ rfl) (rfl : lv_pick _ [3, 4, 5, 1, 0] = [(0, .ref (ads o (a))), (1, .int (nI (k))), (2, .int (nI (ds (ml (a + 1) k) (ml a 0)))), (3, .int (nI (ct (fun j => decide (ds (ml (a + 1) j) (ml a 0) < ds (ml (a + 1) k) (ml a 0)) || (decide (ds (ml (a + 1) j) (ml a 0) = ds (ml (a + 1) k) (ml a 0)) && !decide (k ≤ j))) (i) + 1))), (4, .int (nI (i + 1)))])
          · rfl
          · rfl
          · first | rfl | (rw [ct_t] <;> simp_all; done) | (rw [ct_f] <;> simp_all; done)
        · -- not taken
          refine r_iload X 0 d_St_countNearerThan_34 rfl ?_
          refine r_iload_n X 3 d_St_countNearerThan_36 rfl rfl ?_
          refine r_icneP X (tgt := 49) (c := (ds (ml (a + 1) i) (ml a 0)) = (ds (ml (a + 1) k) (ml a 0))) d_St_countNearerThan_37 (by decide) (nI_eq (ds_lt _ _) (ds_lt _ _)) (fun c_37 => ?_) (fun c_37 => ?_)
          · -- taken
            refine r_iinc X 5 (v := nI (i + 1)) [(4, .int (nI (i + 1))), (5, .int (nI (ds (ml (a + 1) i) (ml a 0)))), (0, .ref (ads o (a))), (1, .int (nI (k))), (2, .int (nI (ds (ml (a + 1) k) (ml a 0)))), (3, .int (nI (ct (fun j => decide (ds (ml (a + 1) j) (ml a 0) < ds (ml (a + 1) k) (ml a 0)) || (decide (ds (ml (a + 1) j) (ml a 0) = ds (ml (a + 1) k) (ml a 0)) && !decide (k ≤ j))) (i))))] d_St_countNearerThan_49 rfl (nI_add _ 1) (Nat.le_of_ble_eq_true rfl) rfl ?_
            refine r_goto X (tgt := 11) d_St_countNearerThan_52 (by decide) ?_
            refine V.wk [2, 3, 4, 5, 0] (V.eq (ih_L11_1 (i + 1) (by omega) ) ?_ ?_ ?_ rfl) (rfl : lv_pick _ [2, 3, 4, 5, 0] = [(0, .ref (ads o (a))), (1, .int (nI (k))), (2, .int (nI (ds (ml (a + 1) k) (ml a 0)))), (3, .int (nI (ct (fun j => decide (ds (ml (a + 1) j) (ml a 0) < ds (ml (a + 1) k) (ml a 0)) || (decide (ds (ml (a + 1) j) (ml a 0) = ds (ml (a + 1) k) (ml a 0)) && !decide (k ≤ j))) (i)))), (4, .int (nI (i + 1)))])
            · rfl
            · rfl
            · first | rfl | (rw [ct_t] <;> simp_all; done) | (rw [ct_f] <;> simp_all; done)
          · -- not taken
            refine r_iload X 5 d_St_countNearerThan_40 rfl ?_
            refine r_iload_n X 2 d_St_countNearerThan_42 rfl rfl ?_
            refine r_icge X (tgt := 49) (c := k ≤ i) d_St_countNearerThan_43 (by decide) (nI_leI (by omega) (by omega)) (fun c_43 => ?_) (fun c_43 => ?_)
            · -- taken
              refine r_iinc X 5 (v := nI (i + 1)) [(4, .int (nI (i + 1))), (5, .int (nI (ds (ml (a + 1) i) (ml a 0)))), (0, .ref (ads o (a))), (1, .int (nI (k))), (2, .int (nI (ds (ml (a + 1) k) (ml a 0)))), (3, .int (nI (ct (fun j => decide (ds (ml (a + 1) j) (ml a 0) < ds (ml (a + 1) k) (ml a 0)) || (decide (ds (ml (a + 1) j) (ml a 0) = ds (ml (a + 1) k) (ml a 0)) && !decide (k ≤ j))) (i))))] d_St_countNearerThan_49 rfl (nI_add _ 1) (Nat.le_of_ble_eq_true rfl) rfl ?_
              refine r_goto X (tgt := 11) d_St_countNearerThan_52 (by decide) ?_
              refine V.wk [2, 3, 4, 5, 0] (V.eq (ih_L11_1 (i + 1) (by omega) ) ?_ ?_ ?_ rfl) (rfl : lv_pick _ [2, 3, 4, 5, 0] = [(0, .ref (ads o (a))), (1, .int (nI (k))), (2, .int (nI (ds (ml (a + 1) k) (ml a 0)))), (3, .int (nI (ct (fun j => decide (ds (ml (a + 1) j) (ml a 0) < ds (ml (a + 1) k) (ml a 0)) || (decide (ds (ml (a + 1) j) (ml a 0) = ds (ml (a + 1) k) (ml a 0)) && !decide (k ≤ j))) (i)))), (4, .int (nI (i + 1)))])
              · rfl
              · rfl
              · first | rfl | (rw [ct_t] <;> simp_all; done) | (rw [ct_f] <;> simp_all; done)
            · -- not taken
              refine r_iinc X 4 (v := nI (ct (fun j => decide (ds (ml (a + 1) j) (ml a 0) < ds (ml (a + 1) k) (ml a 0)) || (decide (ds (ml (a + 1) j) (ml a 0) = ds (ml (a + 1) k) (ml a 0)) && !decide (k ≤ j))) (i) + 1)) [(3, .int (nI (ct (fun j => decide (ds (ml (a + 1) j) (ml a 0) < ds (ml (a + 1) k) (ml a 0)) || (decide (ds (ml (a + 1) j) (ml a 0) = ds (ml (a + 1) k) (ml a 0)) && !decide (k ≤ j))) (i) + 1))), (5, .int (nI (ds (ml (a + 1) i) (ml a 0)))), (0, .ref (ads o (a))), (1, .int (nI (k))), (2, .int (nI (ds (ml (a + 1) k) (ml a 0)))), (4, .int (nI (i)))] d_St_countNearerThan_46 rfl (nI_add _ 1) (Nat.le_of_ble_eq_true rfl) rfl ?_
              refine r_iinc X 5 (v := nI (i + 1)) [(4, .int (nI (i + 1))), (3, .int (nI (ct (fun j => decide (ds (ml (a + 1) j) (ml a 0) < ds (ml (a + 1) k) (ml a 0)) || (decide (ds (ml (a + 1) j) (ml a 0) = ds (ml (a + 1) k) (ml a 0)) && !decide (k ≤ j))) (i) + 1))), (5, .int (nI (ds (ml (a + 1) i) (ml a 0)))), (0, .ref (ads o (a))), (1, .int (nI (k))), (2, .int (nI (ds (ml (a + 1) k) (ml a 0))))] d_St_countNearerThan_49 rfl (nI_add _ 1) (Nat.le_of_ble_eq_true rfl) rfl ?_
              refine r_goto X (tgt := 11) d_St_countNearerThan_52 (by decide) ?_
              refine V.wk [3, 4, 5, 1, 0] (V.eq (ih_L11_1 (i + 1) (by omega) ) ?_ ?_ ?_ rfl) (rfl : lv_pick _ [3, 4, 5, 1, 0] = [(0, .ref (ads o (a))), (1, .int (nI (k))), (2, .int (nI (ds (ml (a + 1) k) (ml a 0)))), (3, .int (nI (ct (fun j => decide (ds (ml (a + 1) j) (ml a 0) < ds (ml (a + 1) k) (ml a 0)) || (decide (ds (ml (a + 1) j) (ml a 0) = ds (ml (a + 1) k) (ml a 0)) && !decide (k ≤ j))) (i) + 1))), (4, .int (nI (i + 1)))])
              · rfl
              · rfl
              · first | rfl | (rw [ct_t] <;> simp_all; done) | (rw [ct_f] <;> simp_all; done)
  refine V.wk [3, 4, 2, 1, 0] (V.eq (L11_1 (n - 0) 0 (by omega) ) ?_ ?_ ?_ rfl) (rfl : lv_pick _ [3, 4, 2, 1, 0] = [(0, .ref (ads o (a))), (1, .int (nI (k))), (2, .int (nI (ds (ml (a + 1) k) (ml a 0)))), (3, .int (nI (0))), (4, .int (nI (0)))])
  · rfl
  · rfl
  · rfl

set_option maxHeartbeats 4000000 in
set_option maxRecDepth 100000 in
theorem m_St_byDistance (l : Launch) (o : OM) (mi : MI) (ml : ML) (a : Nat) (w : Int32) (n : Nat) (hS : isSt a) (hn : mi a 2 = nI n) (hn40 : n ≤ 40) : ConD l y_St_byDistance c_St_byDistance 3 (some .int) 4 90 o [.ref (ads o (a)), .int (w)] mi ml (some (.int ((fromB (fun k => decide (nI (ahd (fun q => ds (ml (a + 1) q) (ml a 0)) n k) = w)) n 0)))) mi ml := by
  refine Con.mk (by decide) (Nat.le_of_ble_eq_true rfl) (fun γ X => ?_)
  show V γ o 3 mi ml 0 [(0, .ref (ads o (a))), (1, .int (w))] []
  refine r_iconst X (v := nI (0)) d_St_byDistance_0 (by decide) ?_
  refine r_istore_n X [(2, .int (nI (0))), (0, .ref (ads o (a))), (1, .int (w))] d_St_byDistance_1 rfl (Nat.le_of_ble_eq_true rfl) rfl ?_
  have L2_1 : ∀ (d_i i : Nat), i + d_i = n → (fromB (fun k => decide (nI (ahd (fun q => ds (ml (a + 1) q) (ml a 0)) n k) = w)) n 0 = fromB (fun k => decide (nI (ahd (fun q => ds (ml (a + 1) q) (ml a 0)) n k) = w)) d_i (i)) → V γ o 3 mi ml 2 [(0, .ref (ads o (a))), (1, .int (w)), (2, .int (nI (i)))] [] := by
    intro d_i
    induction d_i with
    | zero =>
      intro i hi_L2_1 hr
      have he_L2_1 : n = i := by omega
      subst he_L2_1
      refine r_iload_n X 2 d_St_byDistance_2 rfl rfl ?_
      refine r_aload_n X 0 d_St_byDistance_3 rfl rfl ?_
      refine r_get X f_St_28 hS.b0 hS.e0 (v := .int (nI (n))) (congrArg (fun z => some (Value.int z)) (hn)) d_St_byDistance_4 ?_
      refine r_icge X (tgt := 27) (c := n ≤ n) d_St_byDistance_7 (by decide) (nI_leI (by omega) (by omega)) (fun c_7 => ?_) (fun c_7 => ?_)
      · -- taken
        refine r_iconst X (v := ((-1 : Int32))) d_St_byDistance_27 (by decide) ?_
        refine r_end_i X d_St_byDistance_28 ?_
        refine ⟨?_, rfl, rfl⟩; rw [hr]; rfl
      · -- not taken
        exact False.elim (by omega)
    | succ d_i ih_L2_1 =>
      intro i hi_L2_1 hr
      have hlt_L2_1 : i < n := by omega
      refine r_iload_n X 2 d_St_byDistance_2 rfl rfl ?_
      refine r_aload_n X 0 d_St_byDistance_3 rfl rfl ?_
      refine r_get X f_St_28 hS.b0 hS.e0 (v := .int (nI (n))) (congrArg (fun z => some (Value.int z)) (hn)) d_St_byDistance_4 ?_
      refine r_icge X (tgt := 27) (c := n ≤ i) d_St_byDistance_7 (by decide) (nI_leI (by omega) (by omega)) (fun c_7_2 => ?_) (fun c_7_2 => ?_)
      · -- taken
        exact False.elim (by omega)
      · -- not taken
        refine r_aload_n X 0 d_St_byDistance_10 rfl rfl ?_
        refine r_iload_n X 2 d_St_byDistance_11 rfl rfl ?_
        refine r_callV X (m_St_countNearerThan l o mi ml a i n hS (hn) hn40 (by omega)) ok_St_countNearerThan w_St_40 rfl hS.b0 hS.e0 rfl ⟨Nat.le_of_ble_eq_true rfl, Nat.le_of_ble_eq_true rfl⟩ (rest := []) rfl (Nat.le_of_ble_eq_true rfl) d_St_byDistance_12 ?_
        refine kD (st' := [.int (nI (ahd (fun q => ds (ml (a + 1) q) (ml a 0)) n i))]) rfl ?_
        refine r_iload_n X 1 d_St_byDistance_15 rfl rfl ?_
        refine r_icneP X (tgt := 21) (c := (nI (ahd (fun q => ds (ml (a + 1) q) (ml a 0)) n i)) = w) d_St_byDistance_16 (by decide) (Iff.rfl) (fun c_16 => ?_) (fun c_16 => ?_)
        · -- taken
          refine r_iinc X 2 (v := nI (i + 1)) [(2, .int (nI (i + 1))), (0, .ref (ads o (a))), (1, .int (w))] d_St_byDistance_21 rfl (nI_add _ 1) (Nat.le_of_ble_eq_true rfl) rfl ?_
          refine r_goto X (tgt := 2) d_St_byDistance_24 (by decide) ?_
          refine V.wk [1, 2, 0] (V.eq (ih_L2_1 (i + 1) (by omega) (hr.trans (fromB_miss (by simp_all)))) ?_ ?_ ?_ rfl) (rfl : lv_pick _ [1, 2, 0] = [(0, .ref (ads o (a))), (1, .int (w)), (2, .int (nI (i + 1)))])
          · rfl
          · rfl
          · first | rfl | (simp_all [ct, lastB, alB, fromB]; done)
        · -- not taken
          refine r_iload_n X 2 d_St_byDistance_19 rfl rfl ?_
          refine r_end_i X d_St_byDistance_20 ?_
          refine ⟨?_, rfl, rfl⟩; exact congrArg (fun z => some (Value.int z)) (hr.trans (fromB_hit (by simp_all))).symm
  refine V.wk [1, 2, 0] (V.eq (L2_1 (n - 0) 0 (by omega) (rfl)) ?_ ?_ ?_ rfl) (rfl : lv_pick _ [1, 2, 0] = [(0, .ref (ads o (a))), (1, .int (w)), (2, .int (nI (0)))])
  · rfl
  · rfl
  · rfl

set_option maxHeartbeats 4000000 in
set_option maxRecDepth 100000 in
theorem m_St_widthOf (l : Launch) (o : OM) (mi : MI) (ml : ML) (a : Nat) (x : Int64) (n : Nat) (hS : isSt a) (hn : mi a 2 = nI n) (hn40 : n ≤ 40) : ConD l y_St_widthOf c_St_widthOf 6 (some .int) 3 66 o [.ref (ads o (a)), .long (x)] mi ml (some (.int (nI (wdO (bt x) (fun p q => ds (ml (a + 1) p) (ml (a + 1) q)) n n)))) mi ml := by
  refine Con.mk (by decide) (Nat.le_of_ble_eq_true rfl) (fun γ X => ?_)
  show V γ o 6 mi ml 0 [(0, .ref (ads o (a))), (1, .long (x))] []
  refine r_iconst X (v := nI (0)) d_St_widthOf_0 (by decide) ?_
  refine r_istore_n X [(3, .int (nI (0))), (0, .ref (ads o (a))), (1, .long (x))] d_St_widthOf_1 rfl (Nat.le_of_ble_eq_true rfl) rfl ?_
  refine r_iconst X (v := nI (0)) d_St_widthOf_2 (by decide) ?_
  refine r_istore X [(4, .int (nI (0))), (3, .int (nI (0))), (0, .ref (ads o (a))), (1, .long (x))] d_St_widthOf_3 (Nat.le_of_ble_eq_true rfl) rfl ?_
  have L5_1 : ∀ (d_i i : Nat), i + d_i = n → V γ o 6 mi ml 5 [(0, .ref (ads o (a))), (1, .long (x)), (3, .int (nI (wdO (bt x) (fun p q => ds (ml (a + 1) p) (ml (a + 1) q)) n (i)))), (4, .int (nI (i)))] [] := by
    intro d_i
    induction d_i with
    | zero =>
      intro i hi_L5_1 
      have he_L5_1 : n = i := by omega
      subst he_L5_1
      refine r_iload X 3 d_St_widthOf_5 rfl ?_
      refine r_aload_n X 0 d_St_widthOf_7 rfl rfl ?_
      refine r_get X f_St_28 hS.b0 hS.e0 (v := .int (nI (n))) (congrArg (fun z => some (Value.int z)) (hn)) d_St_widthOf_8 ?_
      refine r_icge X (tgt := 72) (c := n ≤ n) d_St_widthOf_11 (by decide) (nI_leI (by omega) (by omega)) (fun c_11 => ?_) (fun c_11 => ?_)
      · -- taken
        refine r_iload_n X 2 d_St_widthOf_72 rfl rfl ?_
        refine r_end_i X d_St_widthOf_73 ?_
        first | exact ⟨rfl, rfl, rfl⟩ | (refine ⟨?_, rfl, rfl⟩; simp_all)
      · -- not taken
        exact False.elim (by omega)
    | succ d_i ih_L5_1 =>
      intro i hi_L5_1 
      have hlt_L5_1 : i < n := by omega
      have hw : wdO (bt x) (fun p q => ds (ml (a + 1) p) (ml (a + 1) q)) n i ≤ 64 := wdO_le (fun _ _ => ds_le _ _) i
      refine r_iload X 3 d_St_widthOf_5 rfl ?_
      refine r_aload_n X 0 d_St_widthOf_7 rfl rfl ?_
      refine r_get X f_St_28 hS.b0 hS.e0 (v := .int (nI (n))) (congrArg (fun z => some (Value.int z)) (hn)) d_St_widthOf_8 ?_
      refine r_icge X (tgt := 72) (c := n ≤ i) d_St_widthOf_11 (by decide) (nI_leI (by omega) (by omega)) (fun c_11_2 => ?_) (fun c_11_2 => ?_)
      · -- taken
        exact False.elim (by omega)
      · -- not taken
        refine r_iload X 3 d_St_widthOf_14 rfl ?_
        refine r_iconst X (v := nI (1)) d_St_widthOf_16 (by decide) ?_
        refine r_iadd X (v := nI (i + 1)) d_St_widthOf_17 (nI_add _ _) ?_
        refine r_istore X [(5, .int (nI (i + 1))), (0, .ref (ads o (a))), (1, .long (x)), (3, .int (nI (wdO (bt x) (fun p q => ds (ml (a + 1) p) (ml (a + 1) q)) n (i)))), (4, .int (nI (i)))] d_St_widthOf_18 (Nat.le_of_ble_eq_true rfl) rfl ?_
        have L20_3 : ∀ (d_j j : Nat), j + d_j = n - (i + 1) → V γ o 6 mi ml 20 [(0, .ref (ads o (a))), (1, .long (x)), (3, .int (nI (wdI (bt x) (fun p q => ds (ml (a + 1) p) (ml (a + 1) q)) i (wdO (bt x) (fun p q => ds (ml (a + 1) p) (ml (a + 1) q)) n i) (j)))), (4, .int (nI (i))), (5, .int (nI (i + 1 + j)))] [] := by
          intro d_j
          induction d_j with
          | zero =>
            intro j hi_L20_3 
            have he_L20_3 : n - (i + 1) = j := by omega
            subst he_L20_3
            refine r_iload X 4 d_St_widthOf_20 rfl ?_
            refine r_aload_n X 0 d_St_widthOf_22 rfl rfl ?_
            refine r_get X f_St_28 hS.b0 hS.e0 (v := .int (nI (n))) (congrArg (fun z => some (Value.int z)) (hn)) d_St_widthOf_23 ?_
            refine r_icge X (tgt := 66) (c := n ≤ (i + 1 + (n - (i + 1)))) d_St_widthOf_26 (by decide) (nI_leI (by omega) (by omega)) (fun c_26 => ?_) (fun c_26 => ?_)
            · -- taken
              refine r_iinc X 3 (v := nI (i + 1)) [(4, .int (nI (i + 1))), (0, .ref (ads o (a))), (1, .long (x)), (3, .int (nI (wdI (bt x) (fun p q => ds (ml (a + 1) p) (ml (a + 1) q)) i (wdO (bt x) (fun p q => ds (ml (a + 1) p) (ml (a + 1) q)) n i) (n - (i + 1))))), (5, .int (nI (i + 1 + (n - (i + 1)))))] d_St_widthOf_66 rfl (nI_add _ 1) (Nat.le_of_ble_eq_true rfl) rfl ?_
              refine r_goto X (tgt := 5) d_St_widthOf_69 (by decide) ?_
              refine V.wk [1, 2, 3, 0] (V.eq (ih_L5_1 (i + 1) (by omega) ) ?_ ?_ ?_ rfl) (rfl : lv_pick _ [1, 2, 3, 0] = [(0, .ref (ads o (a))), (1, .long (x)), (3, .int (nI (wdI (bt x) (fun p q => ds (ml (a + 1) p) (ml (a + 1) q)) i (wdO (bt x) (fun p q => ds (ml (a + 1) p) (ml (a + 1) q)) n i) (n - (i + 1))))), (4, .int (nI (i + 1)))])
              · rfl
              · rfl
              · first | rfl | (simp_all [ct, lastB, alB, fromB]; done)
            · -- not taken
              exact False.elim (by omega)
          | succ d_j ih_L20_3 =>
            intro j hi_L20_3 
            have hlt_L20_3 : j < n - (i + 1) := by omega
            have hwi : wdI (bt x) (fun p q => ds (ml (a + 1) p) (ml (a + 1) q)) i (wdO (bt x) (fun p q => ds (ml (a + 1) p) (ml (a + 1) q)) n i) j ≤ 64 := wdI_le (fun _ _ => ds_le _ _) hw j
            have hds := ds_le (ml (a + 1) i) (ml (a + 1) (i + 1 + j))
            refine r_iload X 4 d_St_widthOf_20 rfl ?_
            refine r_aload_n X 0 d_St_widthOf_22 rfl rfl ?_
            refine r_get X f_St_28 hS.b0 hS.e0 (v := .int (nI (n))) (congrArg (fun z => some (Value.int z)) (hn)) d_St_widthOf_23 ?_
            refine r_icge X (tgt := 66) (c := n ≤ (i + 1 + j)) d_St_widthOf_26 (by decide) (nI_leI (by omega) (by omega)) (fun c_26_4 => ?_) (fun c_26_4 => ?_)
            · -- taken
              exact False.elim (by omega)
            · -- not taken
              refine r_lload_n X 1 d_St_widthOf_29 rfl rfl ?_
              refine r_iload X 3 d_St_widthOf_30 rfl ?_
              refine r_callN X (m_Nm_hasBit l o mi ml x i (by omega)) ok_Nm_hasBit (host := "NearMarks") (by decide +kernel) rfl ⟨Nat.le_of_ble_eq_true rfl, Nat.le_of_ble_eq_true rfl⟩ (rest := []) rfl (Nat.le_of_ble_eq_true rfl) d_St_widthOf_32 ?_
              refine kD (st' := [.int (bI (bt x i))]) rfl ?_
              refine r_ifeqB X (tgt := 60) (b := bt x i) d_St_widthOf_35 (by decide) (fun c_35 => ?_) (fun c_35 => ?_)
              · -- taken
                refine r_iinc X 4 (v := nI (i + 1 + j + 1)) [(5, .int (nI (i + 1 + j + 1))), (0, .ref (ads o (a))), (1, .long (x)), (3, .int (nI (wdI (bt x) (fun p q => ds (ml (a + 1) p) (ml (a + 1) q)) i (wdO (bt x) (fun p q => ds (ml (a + 1) p) (ml (a + 1) q)) n i) (j)))), (4, .int (nI (i)))] d_St_widthOf_60 rfl (nI_add _ 1) (Nat.le_of_ble_eq_true rfl) rfl ?_
                refine r_goto X (tgt := 20) d_St_widthOf_63 (by decide) ?_
                refine V.wk [1, 2, 3, 4, 0] (V.eq (ih_L20_3 (j + 1) (by omega) ) ?_ ?_ ?_ rfl) (rfl : lv_pick _ [1, 2, 3, 4, 0] = [(0, .ref (ads o (a))), (1, .long (x)), (3, .int (nI (wdI (bt x) (fun p q => ds (ml (a + 1) p) (ml (a + 1) q)) i (wdO (bt x) (fun p q => ds (ml (a + 1) p) (ml (a + 1) q)) n i) (j)))), (4, .int (nI (i))), (5, .int (nI (i + 1 + j + 1)))])
                · rfl
                · rfl
                · first | (rw [wdI_y (by assumption) (by assumption)]; first | done | rfl) | (rw [wdI_n1 (by assumption)]; first | done | rfl) | (rw [wdI_n2 (by assumption)]; first | done | rfl)
              · -- not taken
                refine r_lload_n X 1 d_St_widthOf_38 rfl rfl ?_
                refine r_iload X 4 d_St_widthOf_39 rfl ?_
                refine r_callN X (m_Nm_hasBit l o mi ml x (i + 1 + j) (by omega)) ok_Nm_hasBit (host := "NearMarks") (by decide +kernel) rfl ⟨Nat.le_of_ble_eq_true rfl, Nat.le_of_ble_eq_true rfl⟩ (rest := []) rfl (Nat.le_of_ble_eq_true rfl) d_St_widthOf_41 ?_
                refine kD (st' := [.int (bI (bt x (i + 1 + j)))]) rfl ?_
                refine r_ifeqB X (tgt := 60) (b := bt x (i + 1 + j)) d_St_widthOf_44 (by decide) (fun c_44 => ?_) (fun c_44 => ?_)
                · -- taken
                  refine r_iinc X 4 (v := nI (i + 1 + j + 1)) [(5, .int (nI (i + 1 + j + 1))), (0, .ref (ads o (a))), (1, .long (x)), (3, .int (nI (wdI (bt x) (fun p q => ds (ml (a + 1) p) (ml (a + 1) q)) i (wdO (bt x) (fun p q => ds (ml (a + 1) p) (ml (a + 1) q)) n i) (j)))), (4, .int (nI (i)))] d_St_widthOf_60 rfl (nI_add _ 1) (Nat.le_of_ble_eq_true rfl) rfl ?_
                  refine r_goto X (tgt := 20) d_St_widthOf_63 (by decide) ?_
                  refine V.wk [1, 2, 3, 4, 0] (V.eq (ih_L20_3 (j + 1) (by omega) ) ?_ ?_ ?_ rfl) (rfl : lv_pick _ [1, 2, 3, 4, 0] = [(0, .ref (ads o (a))), (1, .long (x)), (3, .int (nI (wdI (bt x) (fun p q => ds (ml (a + 1) p) (ml (a + 1) q)) i (wdO (bt x) (fun p q => ds (ml (a + 1) p) (ml (a + 1) q)) n i) (j)))), (4, .int (nI (i))), (5, .int (nI (i + 1 + j + 1)))])
                  · rfl
                  · rfl
                  · first | (rw [wdI_y (by assumption) (by assumption)]; first | done | rfl) | (rw [wdI_n1 (by assumption)]; first | done | rfl) | (rw [wdI_n2 (by assumption)]; first | done | rfl)
                · -- not taken
                  refine r_iload_n X 2 d_St_widthOf_47 rfl rfl ?_
                  refine r_aload_n X 0 d_St_widthOf_48 rfl rfl ?_
                  refine r_iload X 3 d_St_widthOf_49 rfl ?_
                  refine r_iload X 4 d_St_widthOf_51 rfl ?_
                  refine r_callV X (m_St_between l o mi ml a i (i + 1 + j) hS (by omega) (by omega)) ok_St_between w_St_51 rfl hS.b0 hS.e0 rfl ⟨Nat.le_of_ble_eq_true rfl, Nat.le_of_ble_eq_true rfl⟩ (rest := [.int (nI (wdI (bt x) (fun p q => ds (ml (a + 1) p) (ml (a + 1) q)) i (wdO (bt x) (fun p q => ds (ml (a + 1) p) (ml (a + 1) q)) n i) (j)))]) rfl (Nat.le_of_ble_eq_true rfl) d_St_widthOf_53 ?_
                  refine kD (st' := [.int (nI (ds (ml (a + 1) i) (ml (a + 1) (i + 1 + j)))), .int (nI (wdI (bt x) (fun p q => ds (ml (a + 1) p) (ml (a + 1) q)) i (wdO (bt x) (fun p q => ds (ml (a + 1) p) (ml (a + 1) q)) n i) (j)))]) rfl ?_
                  refine r_max X (by omega) (ds_lt _ _) w_St_55 (Nat.le_of_ble_eq_true rfl) (Nat.le_of_ble_eq_true rfl) d_St_widthOf_56 ?_
                  refine r_istore_n X [(3, .int (nI (if decide ((wdI (bt x) (fun p q => ds (ml (a + 1) p) (ml (a + 1) q)) i (wdO (bt x) (fun p q => ds (ml (a + 1) p) (ml (a + 1) q)) n i) (j)) < (ds (ml (a + 1) i) (ml (a + 1) (i + 1 + j)))) then ds (ml (a + 1) i) (ml (a + 1) (i + 1 + j)) else wdI (bt x) (fun p q => ds (ml (a + 1) p) (ml (a + 1) q)) i (wdO (bt x) (fun p q => ds (ml (a + 1) p) (ml (a + 1) q)) n i) (j)))), (0, .ref (ads o (a))), (1, .long (x)), (4, .int (nI (i))), (5, .int (nI (i + 1 + j)))] d_St_widthOf_59 rfl (Nat.le_of_ble_eq_true rfl) rfl ?_
                  refine r_iinc X 4 (v := nI (i + 1 + j + 1)) [(5, .int (nI (i + 1 + j + 1))), (3, .int (nI (if decide ((wdI (bt x) (fun p q => ds (ml (a + 1) p) (ml (a + 1) q)) i (wdO (bt x) (fun p q => ds (ml (a + 1) p) (ml (a + 1) q)) n i) (j)) < (ds (ml (a + 1) i) (ml (a + 1) (i + 1 + j)))) then ds (ml (a + 1) i) (ml (a + 1) (i + 1 + j)) else wdI (bt x) (fun p q => ds (ml (a + 1) p) (ml (a + 1) q)) i (wdO (bt x) (fun p q => ds (ml (a + 1) p) (ml (a + 1) q)) n i) (j)))), (0, .ref (ads o (a))), (1, .long (x)), (4, .int (nI (i)))] d_St_widthOf_60 rfl (nI_add _ 1) (Nat.le_of_ble_eq_true rfl) rfl ?_
                  refine r_goto X (tgt := 20) d_St_widthOf_63 (by decide) ?_
                  refine V.wk [2, 3, 1, 4, 0] (V.eq (ih_L20_3 (j + 1) (by omega) ) ?_ ?_ ?_ rfl) (rfl : lv_pick _ [2, 3, 1, 4, 0] = [(0, .ref (ads o (a))), (1, .long (x)), (3, .int (nI (if decide ((wdI (bt x) (fun p q => ds (ml (a + 1) p) (ml (a + 1) q)) i (wdO (bt x) (fun p q => ds (ml (a + 1) p) (ml (a + 1) q)) n i) (j)) < (ds (ml (a + 1) i) (ml (a + 1) (i + 1 + j)))) then ds (ml (a + 1) i) (ml (a + 1) (i + 1 + j)) else wdI (bt x) (fun p q => ds (ml (a + 1) p) (ml (a + 1) q)) i (wdO (bt x) (fun p q => ds (ml (a + 1) p) (ml (a + 1) q)) n i) (j)))), (4, .int (nI (i))), (5, .int (nI (i + 1 + j + 1)))])
                  · rfl
                  · rfl
                  · first | (rw [wdI_y (by assumption) (by assumption)]; first | done | rfl) | (rw [wdI_n1 (by assumption)]; first | done | rfl) | (rw [wdI_n2 (by assumption)]; first | done | rfl)
        refine V.wk [1, 2, 3, 4, 0] (V.eq (L20_3 ((n - (i + 1)) - 0) 0 (by omega) ) ?_ ?_ ?_ rfl) (rfl : lv_pick _ [1, 2, 3, 4, 0] = [(0, .ref (ads o (a))), (1, .long (x)), (3, .int (nI (wdO (bt x) (fun p q => ds (ml (a + 1) p) (ml (a + 1) q)) n (i)))), (4, .int (nI (i))), (5, .int (nI (i + 1)))])
        · rfl
        · rfl
        · rfl
  refine V.wk [2, 3, 1, 0] (V.eq (L5_1 (n - 0) 0 (by omega) ) ?_ ?_ ?_ rfl) (rfl : lv_pick _ [2, 3, 1, 0] = [(0, .ref (ads o (a))), (1, .long (x)), (3, .int (nI (0))), (4, .int (nI (0)))])
  · rfl
  · rfl
  · rfl

set_option maxHeartbeats 4000000 in
set_option maxRecDepth 100000 in
theorem m_St_become (l : Launch) (o : OM) (mi : MI) (ml : ML) (a : Nat) (b : Nat) (n : Nat) (hS : isSt a) (hT : isSt b) (hn : mi b 2 = nI n) (hn40 : n ≤ 40) (hab : a + 3 ≤ b ∨ b + 3 ≤ a) : ConD l y_St_become c_St_become 3 none 0 0 o [.ref (ads o (a)), .ref (ads o (b))] mi ml none (bcI mi a b n) (bcL ml a b n) := by
  refine Con.mk (by decide) (Nat.le_of_ble_eq_true rfl) (fun γ X => ?_)
  show V γ o 3 mi ml 0 [(0, .ref (ads o (a))), (1, .ref (ads o (b)))] []
  refine r_aload_n X 0 d_St_become_0 rfl rfl ?_
  refine r_aload_n X 1 d_St_become_1 rfl rfl ?_
  refine r_get X f_St_25 hT.b0 hT.e0 (v := .long (ml b 0)) (congrArg (fun z => some (Value.long z)) (rfl)) d_St_become_2 ?_
  refine r_putL X fw_St_25 hS.b0 hS.e0 (fun _ _ => rfl) (Nat.le_of_ble_eq_true rfl) d_St_become_5 ?_
  refine r_aload_n X 0 d_St_become_8 rfl rfl ?_
  refine r_aload_n X 1 d_St_become_9 rfl rfl ?_
  refine r_get X f_St_11 hT.b0 hT.e0 (v := .long (ml b 1)) (congrArg (fun z => some (Value.long z)) ((by rw [u2_n _ _ _ (by omega)] <;> exact rfl))) d_St_become_10 ?_
  refine r_putL X fw_St_11 hS.b0 hS.e0 (fun _ _ => rfl) (Nat.le_of_ble_eq_true rfl) d_St_become_13 ?_
  refine r_aload_n X 0 d_St_become_16 rfl rfl ?_
  refine r_aload_n X 1 d_St_become_17 rfl rfl ?_
  refine r_get X f_St_28 hT.b0 hT.e0 (v := .int (nI (n))) (congrArg (fun z => some (Value.int z)) (hn)) d_St_become_18 ?_
  refine r_putI X fw_St_28 hS.b0 hS.e0 (fun _ _ => rfl) (Nat.le_of_ble_eq_true rfl) d_St_become_21 ?_
  refine r_iconst X (v := nI (0)) d_St_become_24 (by decide) ?_
  refine r_istore_n X [(2, .int (nI (0))), (0, .ref (ads o (a))), (1, .ref (ads o (b)))] d_St_become_25 rfl (Nat.le_of_ble_eq_true rfl) rfl ?_
  have L26_1 : ∀ (d_i i : Nat), i + d_i = n → V γ o 3 (cpL (u2 mi a 2 (nI n)) (a + 2) 0 (b + 2) 0 (i)) (cpL (u2 (u2 ml a 0 (ml b 0)) a 1 (ml b 1)) (a + 1) 0 (b + 1) 0 (i)) 26 [(0, .ref (ads o (a))), (1, .ref (ads o (b))), (2, .int (nI (i)))] [] := by
    intro d_i
    induction d_i with
    | zero =>
      intro i hi_L26_1 
      have he_L26_1 : n = i := by omega
      subst he_L26_1
      refine r_iload_n X 2 d_St_become_26 rfl rfl ?_
      refine r_aload_n X 0 d_St_become_27 rfl rfl ?_
      refine r_get X f_St_28 hS.b0 hS.e0 (v := .int (nI (n))) (congrArg (fun z => some (Value.int z)) ((by rw [cpL_n _ (by omega), u2_s, uf_s]))) d_St_become_28 ?_
      refine r_icge X (tgt := 64) (c := n ≤ n) d_St_become_31 (by decide) (nI_leI (by omega) (by omega)) (fun c_31 => ?_) (fun c_31 => ?_)
      · -- taken
        refine r_end_v X d_St_become_64 ?_
        exact ⟨rfl, rfl, rfl⟩
      · -- not taken
        exact False.elim (by omega)
    | succ d_i ih_L26_1 =>
      intro i hi_L26_1 
      have hlt_L26_1 : i < n := by omega
      refine r_iload_n X 2 d_St_become_26 rfl rfl ?_
      refine r_aload_n X 0 d_St_become_27 rfl rfl ?_
      refine r_get X f_St_28 hS.b0 hS.e0 (v := .int (nI (n))) (congrArg (fun z => some (Value.int z)) ((by rw [cpL_n _ (by omega), u2_s, uf_s]))) d_St_become_28 ?_
      refine r_icge X (tgt := 64) (c := n ≤ i) d_St_become_31 (by decide) (nI_leI (by omega) (by omega)) (fun c_31_2 => ?_) (fun c_31_2 => ?_)
      · -- taken
        exact False.elim (by omega)
      · -- not taken
        refine r_aload_n X 0 d_St_become_34 rfl rfl ?_
        refine r_get X f_St_17 hS.b0 hS.e0 (v := .ref (ads o (a + 1))) rfl d_St_become_35 ?_
        refine r_iload_n X 2 d_St_become_38 rfl rfl ?_
        refine r_aload_n X 1 d_St_become_39 rfl rfl ?_
        refine r_get X f_St_17 hT.b0 hT.e0 (v := .ref (ads o (b + 1))) rfl d_St_become_40 ?_
        refine r_iload_n X 2 d_St_become_43 rfl rfl ?_
        refine r_lald X (v := (cpL (u2 (u2 ml a 0 (ml b 0)) a 1 (ml b 1)) (a + 1) 0 (b + 1) 0 (i)) (b + 1) i) hT.b1 hT.e1 (Nat.le_of_ble_eq_true rfl) (by omega) rfl d_St_become_44 ?_
        refine r_last X hS.b1 hS.e1 (Nat.le_of_ble_eq_true rfl) (by omega) d_St_become_45 ?_
        refine r_aload_n X 0 d_St_become_46 rfl rfl ?_
        refine r_get X f_St_21 hS.b0 hS.e0 (v := .ref (ads o (a + 2))) rfl d_St_become_47 ?_
        refine r_iload_n X 2 d_St_become_50 rfl rfl ?_
        refine r_aload_n X 1 d_St_become_51 rfl rfl ?_
        refine r_get X f_St_21 hT.b0 hT.e0 (v := .ref (ads o (b + 2))) rfl d_St_become_52 ?_
        refine r_iload_n X 2 d_St_become_55 rfl rfl ?_
        refine r_iald X (v := ((cpL (u2 mi a 2 (nI n)) (a + 2) 0 (b + 2) 0 (i)) (b + 2) i)) hT.b2 hT.e2 (Nat.le_of_ble_eq_true rfl) (by omega) rfl d_St_become_56 ?_
        refine r_iast X hS.b2 hS.e2 (Nat.le_of_ble_eq_true rfl) (by omega) d_St_become_57 ?_
        refine r_iinc X 2 (v := nI (i + 1)) [(2, .int (nI (i + 1))), (0, .ref (ads o (a))), (1, .ref (ads o (b)))] d_St_become_58 rfl (nI_add _ 1) (Nat.le_of_ble_eq_true rfl) rfl ?_
        refine r_goto X (tgt := 26) d_St_become_61 (by decide) ?_
        refine V.wk [1, 2, 0] (V.eq (ih_L26_1 (i + 1) (by omega) ) ?_ ?_ ?_ rfl) (rfl : lv_pick _ [1, 2, 0] = [(0, .ref (ads o (a))), (1, .ref (ads o (b))), (2, .int (nI (i + 1)))])
        · exact cpL_step _ (by omega) (Nat.zero_add _).symm (Nat.zero_add _).symm
        · exact cpL_step _ (by omega) (Nat.zero_add _).symm (Nat.zero_add _).symm
        · rfl
  refine V.wk [1, 2, 0] (V.eq (L26_1 (n - 0) 0 (by omega) ) ?_ ?_ ?_ rfl) (rfl : lv_pick _ [1, 2, 0] = [(0, .ref (ads o (a))), (1, .ref (ads o (b))), (2, .int (nI (0)))])
  · exact cpL_0 _ _ _ _ _
  · exact cpL_0 _ _ _ _ _
  · rfl
end
section
set_option maxHeartbeats 4000000 in
set_option maxRecDepth 100000 in
theorem m_Pi_firstRow (l : Launch) (o : OM) (mi : MI) (ml : ML) (x : Int64)  : ConD l y_Pi_firstRow c_Pi_firstRow 2 (some .int) 0 0 o [.long (x)] mi ml (some (.int ((((x) &&& (255 : Int64)).toInt32)))) mi ml := by
  refine Con.mk (by decide) (Nat.le_of_ble_eq_true rfl) (fun γ X => ?_)
  show V γ o 2 mi ml 0 [(0, .long (x))] []
  refine r_lload_n X 0 d_Pi_firstRow_0 rfl rfl ?_
  refine r_ldc2 X (v := (255 : Int64)) k_Pi_9 d_Pi_firstRow_1 ?_
  refine r_land X (v := (x) &&& ((255 : Int64))) d_Pi_firstRow_4 (rfl) ?_
  refine r_l2i X (v := (((x) &&& ((255 : Int64))).toInt32)) d_Pi_firstRow_5 (rfl) ?_
  refine r_end_i X d_Pi_firstRow_6 ?_
  first | exact ⟨rfl, rfl, rfl⟩ | (refine ⟨?_, rfl, rfl⟩; simp_all)

set_option maxHeartbeats 4000000 in
set_option maxRecDepth 100000 in
theorem m_Pi_withRow (l : Launch) (o : OM) (mi : MI) (ml : ML) (x : Int64) (r : Nat) (d : Nat) (hr : r < 8) (hd : d < 256) : ConD l y_Pi_withRow c_Pi_withRow 5 (some .long) 0 0 o [.long (x), .int (nI (r)), .int (nI (d))] mi ml (some (.long (typed x r d))) mi ml := by
  refine Con.mk (by decide) (Nat.le_of_ble_eq_true rfl) (fun γ X => ?_)
  show V γ o 5 mi ml 0 [(0, .long (x)), (2, .int (nI (r))), (3, .int (nI (d)))] []
  refine r_bipush X (v := nI (8)) d_Pi_withRow_0 (by decide) ?_
  refine r_iload_n X 1 d_Pi_withRow_2 rfl rfl ?_
  refine r_imul X (v := nI (8 * r)) d_Pi_withRow_3 (pk_mul _ _) ?_
  refine r_istore X [(4, .int (nI (8 * r))), (0, .long (x)), (2, .int (nI (r))), (3, .int (nI (d)))] d_Pi_withRow_4 (Nat.le_of_ble_eq_true rfl) rfl ?_
  refine r_lload_n X 1 d_Pi_withRow_6 rfl rfl ?_
  refine r_ldc2 X (v := (255 : Int64)) k_Pi_9 d_Pi_withRow_7 ?_
  refine r_iload X 0 d_Pi_withRow_10 rfl ?_
  refine r_lshl X (v := shl ((255 : Int64)) (8 * r)) d_Pi_withRow_12 (rfl) ?_
  refine r_ldc2 X (v := (-1 : Int64)) k_Pi_11 d_Pi_withRow_13 ?_
  refine r_lxor X (v := (shl ((255 : Int64)) (8 * r)) ^^^ ((-1 : Int64))) d_Pi_withRow_16 (rfl) ?_
  refine r_land X (v := (x) &&& ((shl ((255 : Int64)) (8 * r)) ^^^ ((-1 : Int64)))) d_Pi_withRow_17 (rfl) ?_
  refine r_iload_n X 3 d_Pi_withRow_18 rfl rfl ?_
  refine r_i2l X (v := lN (d)) d_Pi_withRow_19 (nI_l (by omega)) ?_
  refine r_iload X 0 d_Pi_withRow_20 rfl ?_
  refine r_lshl X (v := shl (lN (d)) (8 * r)) d_Pi_withRow_22 (rfl) ?_
  refine r_lor X (v := ((x) &&& ((shl ((255 : Int64)) (8 * r)) ^^^ ((-1 : Int64)))) ||| (shl (lN (d)) (8 * r))) d_Pi_withRow_23 (rfl) ?_
  refine r_end_l X d_Pi_withRow_24 ?_
  first | exact ⟨rfl, rfl, rfl⟩ | (refine ⟨?_, rfl, rfl⟩; simp_all)

set_option maxHeartbeats 4000000 in
set_option maxRecDepth 100000 in
theorem m_Pi_ofEqualRows (l : Launch) (o : OM) (mi : MI) (ml : ML) (d : Nat) (hd : d < 256) : ConD l y_Pi_ofEqualRows c_Pi_ofEqualRows 4 (some .long) 1 24 o [.int (nI (d))] mi ml (some (.long (rowsE d 8))) mi ml := by
  refine Con.mk (by decide) (Nat.le_of_ble_eq_true rfl) (fun γ X => ?_)
  show V γ o 4 mi ml 0 [(0, .int (nI (d)))] []
  refine r_lconst X (v := 0) d_Pi_ofEqualRows_0 (by decide) ?_
  refine r_lstore_n X [(1, .long (0)), (0, .int (nI (d)))] d_Pi_ofEqualRows_1 rfl (Nat.le_of_ble_eq_true rfl) rfl ?_
  refine r_iconst X (v := nI (0)) d_Pi_ofEqualRows_2 (by decide) ?_
  refine r_istore_n X [(3, .int (nI (0))), (1, .long (0)), (0, .int (nI (d)))] d_Pi_ofEqualRows_3 rfl (Nat.le_of_ble_eq_true rfl) rfl ?_
  have L4_1 : ∀ (d_i i : Nat), i + d_i = 8 → V γ o 4 mi ml 4 [(0, .int (nI (d))), (1, .long (rowsE d (i))), (3, .int (nI (i)))] [] := by
    intro d_i
    induction d_i with
    | zero =>
      intro i hi_L4_1 
      have he_L4_1 : 8 = i := by omega
      subst he_L4_1
      refine r_iload_n X 2 d_Pi_ofEqualRows_4 rfl rfl ?_
      refine r_bipush X (v := nI (8)) d_Pi_ofEqualRows_5 (by decide) ?_
      refine r_icge X (tgt := 23) (c := 8 ≤ 8) d_Pi_ofEqualRows_7 (by decide) (nI_leI (Nat.le_of_ble_eq_true rfl) (by omega)) (fun c_7 => ?_) (fun c_7 => ?_)
      · -- taken
        refine r_lload_n X 1 d_Pi_ofEqualRows_23 rfl rfl ?_
        refine r_end_l X d_Pi_ofEqualRows_24 ?_
        first | exact ⟨rfl, rfl, rfl⟩ | (refine ⟨?_, rfl, rfl⟩; simp_all)
      · -- not taken
        exact False.elim (by omega)
    | succ d_i ih_L4_1 =>
      intro i hi_L4_1 
      have hlt_L4_1 : i < 8 := by omega
      refine r_iload_n X 2 d_Pi_ofEqualRows_4 rfl rfl ?_
      refine r_bipush X (v := nI (8)) d_Pi_ofEqualRows_5 (by decide) ?_
      refine r_icge X (tgt := 23) (c := 8 ≤ i) d_Pi_ofEqualRows_7 (by decide) (nI_leI (Nat.le_of_ble_eq_true rfl) (by omega)) (fun c_7_2 => ?_) (fun c_7_2 => ?_)
      · -- taken
        exact False.elim (by omega)
      · -- not taken
        refine r_lload_n X 1 d_Pi_ofEqualRows_10 rfl rfl ?_
        refine r_iload_n X 2 d_Pi_ofEqualRows_11 rfl rfl ?_
        refine r_iload_n X 0 d_Pi_ofEqualRows_12 rfl rfl ?_
        refine r_callS X (m_Pi_withRow l o mi ml (rowsE d (i)) i d (by omega) hd) ok_Pi_withRow w_Pi_13 rfl ⟨Nat.le_of_ble_eq_true rfl, Nat.le_of_ble_eq_true rfl⟩ (rest := []) rfl (Nat.le_of_ble_eq_true rfl) d_Pi_ofEqualRows_13 ?_
        refine kD (st' := [.long (typed (rowsE d (i)) i d)]) rfl ?_
        refine r_lstore_n X [(1, .long (typed (rowsE d (i)) i d)), (0, .int (nI (d))), (3, .int (nI (i)))] d_Pi_ofEqualRows_16 rfl (Nat.le_of_ble_eq_true rfl) rfl ?_
        refine r_iinc X 2 (v := nI (i + 1)) [(3, .int (nI (i + 1))), (1, .long (typed (rowsE d (i)) i d)), (0, .int (nI (d)))] d_Pi_ofEqualRows_17 rfl (nI_add _ 1) (Nat.le_of_ble_eq_true rfl) rfl ?_
        refine r_goto X (tgt := 4) d_Pi_ofEqualRows_20 (by decide) ?_
        refine V.wk [2, 1, 0] (V.eq (ih_L4_1 (i + 1) (by omega) ) ?_ ?_ ?_ rfl) (rfl : lv_pick _ [2, 1, 0] = [(0, .int (nI (d))), (1, .long (typed (rowsE d (i)) i d)), (3, .int (nI (i + 1)))])
        · rfl
        · rfl
        · first | rfl | (simp_all [ct, lastB, alB, fromB]; done)
  refine V.wk [2, 1, 0] (V.eq (L4_1 (8 - 0) 0 (by omega) ) ?_ ?_ ?_ rfl) (rfl : lv_pick _ [2, 1, 0] = [(0, .int (nI (d))), (1, .long (0)), (3, .int (nI (0)))])
  · rfl
  · rfl
  · rfl

set_option maxHeartbeats 4000000 in
set_option maxRecDepth 100000 in
theorem m_Pi_hasDot (l : Launch) (o : OM) (mi : MI) (ml : ML) (x : Int64) (r : Nat) (c : Nat) (hr : r < 8) (hc : c < 8) : ConD l y_Pi_hasDot c_Pi_hasDot 4 (some .boolean) 1 22 o [.long (x), .int (nI (r)), .int (nI (c))] mi ml (some (.int (bI (bt x (8 * r + c))))) mi ml := by
  refine Con.mk (by decide) (Nat.le_of_ble_eq_true rfl) (fun γ X => ?_)
  show V γ o 4 mi ml 0 [(0, .long (x)), (2, .int (nI (r))), (3, .int (nI (c)))] []
  refine r_lload_n X 0 d_Pi_hasDot_0 rfl rfl ?_
  refine r_bipush X (v := nI (8)) d_Pi_hasDot_1 (by decide) ?_
  refine r_iload_n X 1 d_Pi_hasDot_3 rfl rfl ?_
  refine r_imul X (v := nI (8 * r)) d_Pi_hasDot_4 (pk_mul _ _) ?_
  refine r_iload_n X 2 d_Pi_hasDot_5 rfl rfl ?_
  refine r_iadd X (v := nI (8 * r + c)) d_Pi_hasDot_6 (nI_add _ _) ?_
  refine r_callN X (m_Nm_hasBit l o mi ml x (8 * r + c) (by omega)) ok_Nm_hasBit (host := "NearMarks") (by decide +kernel) rfl ⟨Nat.le_of_ble_eq_true rfl, Nat.le_of_ble_eq_true rfl⟩ (rest := []) rfl (Nat.le_of_ble_eq_true rfl) d_Pi_hasDot_7 ?_
  refine kD (st' := [.int (bI (bt x (8 * r + c)))]) rfl ?_
  refine r_end_z X (bI_nar _) d_Pi_hasDot_10 ?_
  first | exact ⟨rfl, rfl, rfl⟩ | (refine ⟨?_, rfl, rfl⟩; simp_all)

set_option maxHeartbeats 4000000 in
set_option maxRecDepth 100000 in
theorem m_Pi_dotAt (l : Launch) (o : OM) (mi : MI) (ml : ML) (r : Nat) (c : Nat)  : ConD l y_Pi_dotAt c_Pi_dotAt 2 (some .long) 0 0 o [.int (nI (r)), .int (nI (c))] mi ml (some (.long (shl (1) (8 * r + c)))) mi ml := by
  refine Con.mk (by decide) (Nat.le_of_ble_eq_true rfl) (fun γ X => ?_)
  show V γ o 2 mi ml 0 [(0, .int (nI (r))), (1, .int (nI (c)))] []
  refine r_lconst X (v := 1) d_Pi_dotAt_0 (by decide) ?_
  refine r_bipush X (v := nI (8)) d_Pi_dotAt_1 (by decide) ?_
  refine r_iload_n X 0 d_Pi_dotAt_3 rfl rfl ?_
  refine r_imul X (v := nI (8 * r)) d_Pi_dotAt_4 (pk_mul _ _) ?_
  refine r_iload_n X 1 d_Pi_dotAt_5 rfl rfl ?_
  refine r_iadd X (v := nI (8 * r + c)) d_Pi_dotAt_6 (nI_add _ _) ?_
  refine r_lshl X (v := shl (1) (8 * r + c)) d_Pi_dotAt_7 (rfl) ?_
  refine r_end_l X d_Pi_dotAt_8 ?_
  first | exact ⟨rfl, rfl, rfl⟩ | (refine ⟨?_, rfl, rfl⟩; simp_all)

set_option maxHeartbeats 4000000 in
set_option maxRecDepth 100000 in
theorem m_Pi_turned (l : Launch) (o : OM) (mi : MI) (ml : ML) (x : Int64)  : ConD l y_Pi_turned c_Pi_turned 6 (some .long) 2 45 o [.long (x)] mi ml (some (.long (turnS x 64))) mi ml := by
  refine Con.mk (by decide) (Nat.le_of_ble_eq_true rfl) (fun γ X => ?_)
  show V γ o 6 mi ml 0 [(0, .long (x))] []
  refine r_lconst X (v := 0) d_Pi_turned_0 (by decide) ?_
  refine r_lstore_n X [(2, .long (0)), (0, .long (x))] d_Pi_turned_1 rfl (Nat.le_of_ble_eq_true rfl) rfl ?_
  refine r_iconst X (v := nI (0)) d_Pi_turned_2 (by decide) ?_
  refine r_istore X [(4, .int (nI (0))), (2, .long (0)), (0, .long (x))] d_Pi_turned_3 (Nat.le_of_ble_eq_true rfl) rfl ?_
  have L5_1 : ∀ (d_r r : Nat), r + d_r = 8 → V γ o 6 mi ml 5 [(0, .long (x)), (2, .long (turnS x (8 * r))), (4, .int (nI (r)))] [] := by
    intro d_r
    induction d_r with
    | zero =>
      intro r hi_L5_1 
      have he_L5_1 : 8 = r := by omega
      subst he_L5_1
      refine r_iload X 2 d_Pi_turned_5 rfl ?_
      refine r_bipush X (v := nI (8)) d_Pi_turned_7 (by decide) ?_
      refine r_icge X (tgt := 58) (c := 8 ≤ 8) d_Pi_turned_9 (by decide) (nI_leI (Nat.le_of_ble_eq_true rfl) (by omega)) (fun c_9 => ?_) (fun c_9 => ?_)
      · -- taken
        refine r_lload_n X 1 d_Pi_turned_58 rfl rfl ?_
        refine r_end_l X d_Pi_turned_59 ?_
        first | exact ⟨rfl, rfl, rfl⟩ | (refine ⟨?_, rfl, rfl⟩; simp_all)
      · -- not taken
        exact False.elim (by omega)
    | succ d_r ih_L5_1 =>
      intro r hi_L5_1 
      have hlt_L5_1 : r < 8 := by omega
      refine r_iload X 2 d_Pi_turned_5 rfl ?_
      refine r_bipush X (v := nI (8)) d_Pi_turned_7 (by decide) ?_
      refine r_icge X (tgt := 58) (c := 8 ≤ r) d_Pi_turned_9 (by decide) (nI_leI (Nat.le_of_ble_eq_true rfl) (by omega)) (fun c_9_2 => ?_) (fun c_9_2 => ?_)
      · -- taken
        exact False.elim (by omega)
      · -- not taken
        refine r_iconst X (v := nI (0)) d_Pi_turned_12 (by decide) ?_
        refine r_istore X [(5, .int (nI (0))), (0, .long (x)), (2, .long (turnS x (8 * r))), (4, .int (nI (r)))] d_Pi_turned_13 (Nat.le_of_ble_eq_true rfl) rfl ?_
        have L15_3 : ∀ (d_c c : Nat), c + d_c = 8 → V γ o 6 mi ml 15 [(0, .long (x)), (2, .long (turnS x (8 * r + c))), (4, .int (nI (r))), (5, .int (nI (c)))] [] := by
          intro d_c
          induction d_c with
          | zero =>
            intro c hi_L15_3 
            have he_L15_3 : 8 = c := by omega
            subst he_L15_3
            refine r_iload X 3 d_Pi_turned_15 rfl ?_
            refine r_bipush X (v := nI (8)) d_Pi_turned_17 (by decide) ?_
            refine r_icge X (tgt := 52) (c := 8 ≤ 8) d_Pi_turned_19 (by decide) (nI_leI (Nat.le_of_ble_eq_true rfl) (by omega)) (fun c_19 => ?_) (fun c_19 => ?_)
            · -- taken
              refine r_iinc X 2 (v := nI (r + 1)) [(4, .int (nI (r + 1))), (0, .long (x)), (2, .long (turnS x (8 * r + 8))), (5, .int (nI (8)))] d_Pi_turned_52 rfl (nI_add _ 1) (Nat.le_of_ble_eq_true rfl) rfl ?_
              refine r_goto X (tgt := 5) d_Pi_turned_55 (by decide) ?_
              refine V.wk [1, 2, 0] (V.eq (ih_L5_1 (r + 1) (by omega) ) ?_ ?_ ?_ rfl) (rfl : lv_pick _ [1, 2, 0] = [(0, .long (x)), (2, .long (turnS x (8 * r + 8))), (4, .int (nI (r + 1)))])
              · rfl
              · rfl
              · first | rfl | (simp_all [ct, lastB, alB, fromB]; done)
            · -- not taken
              exact False.elim (by omega)
          | succ d_c ih_L15_3 =>
            intro c hi_L15_3 
            have hlt_L15_3 : c < 8 := by omega
            refine r_iload X 3 d_Pi_turned_15 rfl ?_
            refine r_bipush X (v := nI (8)) d_Pi_turned_17 (by decide) ?_
            refine r_icge X (tgt := 52) (c := 8 ≤ c) d_Pi_turned_19 (by decide) (nI_leI (Nat.le_of_ble_eq_true rfl) (by omega)) (fun c_19_4 => ?_) (fun c_19_4 => ?_)
            · -- taken
              exact False.elim (by omega)
            · -- not taken
              refine r_lload_n X 0 d_Pi_turned_22 rfl rfl ?_
              refine r_iload X 2 d_Pi_turned_23 rfl ?_
              refine r_iload X 3 d_Pi_turned_25 rfl ?_
              refine r_callS X (m_Pi_hasDot l o mi ml x r c (by omega) (by omega)) ok_Pi_hasDot w_Pi_23 rfl ⟨Nat.le_of_ble_eq_true rfl, Nat.le_of_ble_eq_true rfl⟩ (rest := []) rfl (Nat.le_of_ble_eq_true rfl) d_Pi_turned_27 ?_
              refine kD (st' := [.int (bI (bt x (8 * r + c)))]) rfl ?_
              refine r_ifeqB X (tgt := 46) (b := bt x (8 * r + c)) d_Pi_turned_30 (by decide) (fun c_30 => ?_) (fun c_30 => ?_)
              · -- taken
                refine r_iinc X 3 (v := nI (c + 1)) [(5, .int (nI (c + 1))), (0, .long (x)), (2, .long (turnS x (8 * r + c))), (4, .int (nI (r)))] d_Pi_turned_46 rfl (nI_add _ 1) (Nat.le_of_ble_eq_true rfl) rfl ?_
                refine r_goto X (tgt := 15) d_Pi_turned_49 (by decide) ?_
                refine V.wk [1, 2, 3, 0] (V.eq (ih_L15_3 (c + 1) (by omega) ) ?_ ?_ ?_ rfl) (rfl : lv_pick _ [1, 2, 3, 0] = [(0, .long (x)), (2, .long (turnS x (8 * r + c))), (4, .int (nI (r))), (5, .int (nI (c + 1)))])
                · rfl
                · rfl
                · first | (rw [show turnS x (8 * r + (c + 1)) = _ from (turn_y (by omega) (by assumption)).resolve_right (by omega)]; first | done | rfl) | (rw [show turnS x (8 * r + (c + 1)) = _ from turn_n (by assumption)]; first | done | rfl)
              · -- not taken
                refine r_lload_n X 1 d_Pi_turned_33 rfl rfl ?_
                refine r_iload X 3 d_Pi_turned_34 rfl ?_
                refine r_bipush X (v := nI (7)) d_Pi_turned_36 (by decide) ?_
                refine r_iload X 2 d_Pi_turned_38 rfl ?_
                refine r_isub X (v := nI (7 - r)) d_Pi_turned_40 (pk_sub (by omega)) ?_
                refine r_callS X (m_Pi_dotAt l o mi ml c (7 - r)) ok_Pi_dotAt w_Pi_27 rfl ⟨Nat.le_of_ble_eq_true rfl, Nat.le_of_ble_eq_true rfl⟩ (rest := [.long (turnS x (8 * r + c))]) rfl (Nat.le_of_ble_eq_true rfl) d_Pi_turned_41 ?_
                refine kD (st' := [.long (shl (1) (8 * c + (7 - r))), .long (turnS x (8 * r + c))]) rfl ?_
                refine r_lor X (v := (turnS x (8 * r + c)) ||| (shl (1) (8 * c + (7 - r)))) d_Pi_turned_44 (rfl) ?_
                refine r_lstore_n X [(2, .long ((turnS x (8 * r + c)) ||| (shl (1) (8 * c + (7 - r))))), (0, .long (x)), (4, .int (nI (r))), (5, .int (nI (c)))] d_Pi_turned_45 rfl (Nat.le_of_ble_eq_true rfl) rfl ?_
                refine r_iinc X 3 (v := nI (c + 1)) [(5, .int (nI (c + 1))), (2, .long ((turnS x (8 * r + c)) ||| (shl (1) (8 * c + (7 - r))))), (0, .long (x)), (4, .int (nI (r)))] d_Pi_turned_46 rfl (nI_add _ 1) (Nat.le_of_ble_eq_true rfl) rfl ?_
                refine r_goto X (tgt := 15) d_Pi_turned_49 (by decide) ?_
                refine V.wk [2, 1, 3, 0] (V.eq (ih_L15_3 (c + 1) (by omega) ) ?_ ?_ ?_ rfl) (rfl : lv_pick _ [2, 1, 3, 0] = [(0, .long (x)), (2, .long ((turnS x (8 * r + c)) ||| (shl (1) (8 * c + (7 - r))))), (4, .int (nI (r))), (5, .int (nI (c + 1)))])
                · rfl
                · rfl
                · first | (rw [show turnS x (8 * r + (c + 1)) = _ from (turn_y (by omega) (by assumption)).resolve_right (by omega)]; first | done | rfl) | (rw [show turnS x (8 * r + (c + 1)) = _ from turn_n (by assumption)]; first | done | rfl)
        refine V.wk [1, 2, 3, 0] (V.eq (L15_3 (8 - 0) 0 (by omega) ) ?_ ?_ ?_ rfl) (rfl : lv_pick _ [1, 2, 3, 0] = [(0, .long (x)), (2, .long (turnS x (8 * r))), (4, .int (nI (r))), (5, .int (nI (0)))])
        · rfl
        · rfl
        · rfl
  refine V.wk [2, 1, 0] (V.eq (L5_1 (8 - 0) 0 (by omega) ) ?_ ?_ ?_ rfl) (rfl : lv_pick _ [2, 1, 0] = [(0, .long (x)), (2, .long (0)), (4, .int (nI (0)))])
  · rfl
  · rfl
  · rfl

set_option maxHeartbeats 4000000 in
set_option maxRecDepth 100000 in
theorem m_Pi_mirrored (l : Launch) (o : OM) (mi : MI) (ml : ML) (x : Int64)  : ConD l y_Pi_mirrored c_Pi_mirrored 6 (some .long) 2 45 o [.long (x)] mi ml (some (.long (mirS x 64))) mi ml := by
  refine Con.mk (by decide) (Nat.le_of_ble_eq_true rfl) (fun γ X => ?_)
  show V γ o 6 mi ml 0 [(0, .long (x))] []
  refine r_lconst X (v := 0) d_Pi_mirrored_0 (by decide) ?_
  refine r_lstore_n X [(2, .long (0)), (0, .long (x))] d_Pi_mirrored_1 rfl (Nat.le_of_ble_eq_true rfl) rfl ?_
  refine r_iconst X (v := nI (0)) d_Pi_mirrored_2 (by decide) ?_
  refine r_istore X [(4, .int (nI (0))), (2, .long (0)), (0, .long (x))] d_Pi_mirrored_3 (Nat.le_of_ble_eq_true rfl) rfl ?_
  have L5_1 : ∀ (d_r r : Nat), r + d_r = 8 → V γ o 6 mi ml 5 [(0, .long (x)), (2, .long (mirS x (8 * r))), (4, .int (nI (r)))] [] := by
    intro d_r
    induction d_r with
    | zero =>
      intro r hi_L5_1 
      have he_L5_1 : 8 = r := by omega
      subst he_L5_1
      refine r_iload X 2 d_Pi_mirrored_5 rfl ?_
      refine r_bipush X (v := nI (8)) d_Pi_mirrored_7 (by decide) ?_
      refine r_icge X (tgt := 58) (c := 8 ≤ 8) d_Pi_mirrored_9 (by decide) (nI_leI (Nat.le_of_ble_eq_true rfl) (by omega)) (fun c_9 => ?_) (fun c_9 => ?_)
      · -- taken
        refine r_lload_n X 1 d_Pi_mirrored_58 rfl rfl ?_
        refine r_end_l X d_Pi_mirrored_59 ?_
        first | exact ⟨rfl, rfl, rfl⟩ | (refine ⟨?_, rfl, rfl⟩; simp_all)
      · -- not taken
        exact False.elim (by omega)
    | succ d_r ih_L5_1 =>
      intro r hi_L5_1 
      have hlt_L5_1 : r < 8 := by omega
      refine r_iload X 2 d_Pi_mirrored_5 rfl ?_
      refine r_bipush X (v := nI (8)) d_Pi_mirrored_7 (by decide) ?_
      refine r_icge X (tgt := 58) (c := 8 ≤ r) d_Pi_mirrored_9 (by decide) (nI_leI (Nat.le_of_ble_eq_true rfl) (by omega)) (fun c_9_2 => ?_) (fun c_9_2 => ?_)
      · -- taken
        exact False.elim (by omega)
      · -- not taken
        refine r_iconst X (v := nI (0)) d_Pi_mirrored_12 (by decide) ?_
        refine r_istore X [(5, .int (nI (0))), (0, .long (x)), (2, .long (mirS x (8 * r))), (4, .int (nI (r)))] d_Pi_mirrored_13 (Nat.le_of_ble_eq_true rfl) rfl ?_
        have L15_3 : ∀ (d_c c : Nat), c + d_c = 8 → V γ o 6 mi ml 15 [(0, .long (x)), (2, .long (mirS x (8 * r + c))), (4, .int (nI (r))), (5, .int (nI (c)))] [] := by
          intro d_c
          induction d_c with
          | zero =>
            intro c hi_L15_3 
            have he_L15_3 : 8 = c := by omega
            subst he_L15_3
            refine r_iload X 3 d_Pi_mirrored_15 rfl ?_
            refine r_bipush X (v := nI (8)) d_Pi_mirrored_17 (by decide) ?_
            refine r_icge X (tgt := 52) (c := 8 ≤ 8) d_Pi_mirrored_19 (by decide) (nI_leI (Nat.le_of_ble_eq_true rfl) (by omega)) (fun c_19 => ?_) (fun c_19 => ?_)
            · -- taken
              refine r_iinc X 2 (v := nI (r + 1)) [(4, .int (nI (r + 1))), (0, .long (x)), (2, .long (mirS x (8 * r + 8))), (5, .int (nI (8)))] d_Pi_mirrored_52 rfl (nI_add _ 1) (Nat.le_of_ble_eq_true rfl) rfl ?_
              refine r_goto X (tgt := 5) d_Pi_mirrored_55 (by decide) ?_
              refine V.wk [1, 2, 0] (V.eq (ih_L5_1 (r + 1) (by omega) ) ?_ ?_ ?_ rfl) (rfl : lv_pick _ [1, 2, 0] = [(0, .long (x)), (2, .long (mirS x (8 * r + 8))), (4, .int (nI (r + 1)))])
              · rfl
              · rfl
              · first | rfl | (simp_all [ct, lastB, alB, fromB]; done)
            · -- not taken
              exact False.elim (by omega)
          | succ d_c ih_L15_3 =>
            intro c hi_L15_3 
            have hlt_L15_3 : c < 8 := by omega
            refine r_iload X 3 d_Pi_mirrored_15 rfl ?_
            refine r_bipush X (v := nI (8)) d_Pi_mirrored_17 (by decide) ?_
            refine r_icge X (tgt := 52) (c := 8 ≤ c) d_Pi_mirrored_19 (by decide) (nI_leI (Nat.le_of_ble_eq_true rfl) (by omega)) (fun c_19_4 => ?_) (fun c_19_4 => ?_)
            · -- taken
              exact False.elim (by omega)
            · -- not taken
              refine r_lload_n X 0 d_Pi_mirrored_22 rfl rfl ?_
              refine r_iload X 2 d_Pi_mirrored_23 rfl ?_
              refine r_iload X 3 d_Pi_mirrored_25 rfl ?_
              refine r_callS X (m_Pi_hasDot l o mi ml x r c (by omega) (by omega)) ok_Pi_hasDot w_Pi_23 rfl ⟨Nat.le_of_ble_eq_true rfl, Nat.le_of_ble_eq_true rfl⟩ (rest := []) rfl (Nat.le_of_ble_eq_true rfl) d_Pi_mirrored_27 ?_
              refine kD (st' := [.int (bI (bt x (8 * r + c)))]) rfl ?_
              refine r_ifeqB X (tgt := 46) (b := bt x (8 * r + c)) d_Pi_mirrored_30 (by decide) (fun c_30 => ?_) (fun c_30 => ?_)
              · -- taken
                refine r_iinc X 3 (v := nI (c + 1)) [(5, .int (nI (c + 1))), (0, .long (x)), (2, .long (mirS x (8 * r + c))), (4, .int (nI (r)))] d_Pi_mirrored_46 rfl (nI_add _ 1) (Nat.le_of_ble_eq_true rfl) rfl ?_
                refine r_goto X (tgt := 15) d_Pi_mirrored_49 (by decide) ?_
                refine V.wk [1, 2, 3, 0] (V.eq (ih_L15_3 (c + 1) (by omega) ) ?_ ?_ ?_ rfl) (rfl : lv_pick _ [1, 2, 3, 0] = [(0, .long (x)), (2, .long (mirS x (8 * r + c))), (4, .int (nI (r))), (5, .int (nI (c + 1)))])
                · rfl
                · rfl
                · first | (rw [show mirS x (8 * r + (c + 1)) = _ from mir_y (by omega) (by assumption)]; first | done | rfl) | (rw [show mirS x (8 * r + (c + 1)) = _ from mir_n (by assumption)]; first | done | rfl)
              · -- not taken
                refine r_lload_n X 1 d_Pi_mirrored_33 rfl rfl ?_
                refine r_iload X 2 d_Pi_mirrored_34 rfl ?_
                refine r_bipush X (v := nI (7)) d_Pi_mirrored_36 (by decide) ?_
                refine r_iload X 3 d_Pi_mirrored_38 rfl ?_
                refine r_isub X (v := nI (7 - c)) d_Pi_mirrored_40 (pk_sub (by omega)) ?_
                refine r_callS X (m_Pi_dotAt l o mi ml r (7 - c)) ok_Pi_dotAt w_Pi_27 rfl ⟨Nat.le_of_ble_eq_true rfl, Nat.le_of_ble_eq_true rfl⟩ (rest := [.long (mirS x (8 * r + c))]) rfl (Nat.le_of_ble_eq_true rfl) d_Pi_mirrored_41 ?_
                refine kD (st' := [.long (shl (1) (8 * r + (7 - c))), .long (mirS x (8 * r + c))]) rfl ?_
                refine r_lor X (v := (mirS x (8 * r + c)) ||| (shl (1) (8 * r + (7 - c)))) d_Pi_mirrored_44 (rfl) ?_
                refine r_lstore_n X [(2, .long ((mirS x (8 * r + c)) ||| (shl (1) (8 * r + (7 - c))))), (0, .long (x)), (4, .int (nI (r))), (5, .int (nI (c)))] d_Pi_mirrored_45 rfl (Nat.le_of_ble_eq_true rfl) rfl ?_
                refine r_iinc X 3 (v := nI (c + 1)) [(5, .int (nI (c + 1))), (2, .long ((mirS x (8 * r + c)) ||| (shl (1) (8 * r + (7 - c))))), (0, .long (x)), (4, .int (nI (r)))] d_Pi_mirrored_46 rfl (nI_add _ 1) (Nat.le_of_ble_eq_true rfl) rfl ?_
                refine r_goto X (tgt := 15) d_Pi_mirrored_49 (by decide) ?_
                refine V.wk [2, 1, 3, 0] (V.eq (ih_L15_3 (c + 1) (by omega) ) ?_ ?_ ?_ rfl) (rfl : lv_pick _ [2, 1, 3, 0] = [(0, .long (x)), (2, .long ((mirS x (8 * r + c)) ||| (shl (1) (8 * r + (7 - c))))), (4, .int (nI (r))), (5, .int (nI (c + 1)))])
                · rfl
                · rfl
                · first | (rw [show mirS x (8 * r + (c + 1)) = _ from mir_y (by omega) (by assumption)]; first | done | rfl) | (rw [show mirS x (8 * r + (c + 1)) = _ from mir_n (by assumption)]; first | done | rfl)
        refine V.wk [1, 2, 3, 0] (V.eq (L15_3 (8 - 0) 0 (by omega) ) ?_ ?_ ?_ rfl) (rfl : lv_pick _ [1, 2, 3, 0] = [(0, .long (x)), (2, .long (mirS x (8 * r))), (4, .int (nI (r))), (5, .int (nI (0)))])
        · rfl
        · rfl
        · rfl
  refine V.wk [2, 1, 0] (V.eq (L5_1 (8 - 0) 0 (by omega) ) ?_ ?_ ?_ rfl) (rfl : lv_pick _ [2, 1, 0] = [(0, .long (x)), (2, .long (0)), (4, .int (nI (0)))])
  · rfl
  · rfl
  · rfl

set_option maxHeartbeats 4000000 in
set_option maxRecDepth 100000 in
theorem m_Dr_next (l : Launch) (o : OM) (mi : MI) (ml : ML) (m : Nat) (z : Nat) (hz : mi 94 0 = nI z) (hz31 : z < 2147483648) (hm : 0 < m) (hm2 : m < 2147483648) : ConD l y_Dr_next c_Dr_next 2 (some .int) 1 21 o [.ref (ads o (94)), .int (nI (m))] mi ml (some (.int (nI (nxt z / 65536 % m)))) (u2 mi 94 0 (nI (nxt z))) ml := by
  refine Con.mk (by decide) (Nat.le_of_ble_eq_true rfl) (fun γ X => ?_)
  have hnx := nxt_lt z
  show V γ o 2 mi ml 0 [(0, .ref (ads o (94))), (1, .int (nI (m)))] []
  refine r_aload_n X 0 d_Dr_next_0 rfl rfl ?_
  refine r_aload_n X 0 d_Dr_next_1 rfl rfl ?_
  refine r_get X f_Dr_7 b_94 e_94 (v := .int (nI (z))) (congrArg (fun z => some (Value.int z)) (hz)) d_Dr_next_2 ?_
  refine r_i2l X (v := lN z) d_Dr_next_5 (nI_l (by omega)) ?_
  refine r_ldc2 X (v := (1103515245 : Int64)) k_Dr_13 d_Dr_next_6 ?_
  refine r_lmul X (v := lN (z * 1103515245)) d_Dr_next_9 (lN_mul _ _) ?_
  refine r_ldc2 X (v := (12345 : Int64)) k_Dr_15 d_Dr_next_10 ?_
  refine r_ladd X (v := lN (z * 1103515245 + 12345)) d_Dr_next_13 (lN_add _ _) ?_
  refine r_ldc2 X (v := (2147483647 : Int64)) k_Dr_17 d_Dr_next_14 ?_
  refine r_land X (v := lN (nxt z)) d_Dr_next_17 (lN_mask31 _) ?_
  refine r_l2i X (v := nI (nxt z)) d_Dr_next_18 (lN_i _) ?_
  refine r_putI X fw_Dr_7 b_94 e_94 (fun _ _ => rfl) (Nat.le_of_ble_eq_true rfl) d_Dr_next_19 ?_
  refine r_aload_n X 0 d_Dr_next_22 rfl rfl ?_
  refine r_get X f_Dr_7 b_94 e_94 (v := .int (nI (nxt z))) (congrArg (fun z => some (Value.int z)) ((by rw [u2_s, uf_s]))) d_Dr_next_23 ?_
  refine r_ldc X (v := nI (65536)) k_Dr_19 (by decide) d_Dr_next_26 ?_
  refine r_idiv X (v := nI ((nxt z) / (65536))) d_Dr_next_28 (nI_ne0 (by omega) (Nat.le_of_ble_eq_true rfl)) (pk_div (nxt_lt _) (by omega) (Nat.le_of_ble_eq_true rfl)) ?_
  refine r_iload_n X 1 d_Dr_next_29 rfl rfl ?_
  refine r_iconst X (v := nI (1)) d_Dr_next_30 (by decide) ?_
  refine r_max X (by omega) (Nat.le_of_ble_eq_true rfl) w_Dr_20 (Nat.le_of_ble_eq_true rfl) (Nat.le_of_ble_eq_true rfl) d_Dr_next_31 ?_
  refine V.eq (st' := [.int (nI (m)), .int (nI ((nxt z) / (65536)))]) ?_ rfl rfl rfl (congrArg (fun zq => Value.int (nI zq) :: [.int (nI ((nxt z) / (65536)))]) (show (m) = (if decide (m < 1) then 1 else m) from by rw [if_neg (by simp; omega)]))
  refine r_irem X (v := nI (((nxt z) / (65536)) % (m))) d_Dr_next_34 (nI_ne0 (by omega) (by omega)) (pk_rem (by omega) (by omega) (by omega)) ?_
  refine r_end_i X d_Dr_next_35 ?_
  exact ⟨rfl, rfl, rfl⟩

set_option maxHeartbeats 4000000 in
set_option maxRecDepth 100000 in
theorem m_Pa_remember (l : Launch) (o : OM) (mi : MI) (ml : ML) (nx : Nat) (c : Nat) (n : Nat) (hnx : mi 4 1 = nI nx) (hnx20 : nx < 20) (hc : mi 4 2 = nI c) (hc20 : c ≤ 20) (hn : mi 1 2 = nI n) (hn40 : n ≤ 40) : ConD l y_Pa_remember c_Pa_remember 2 none 1 22 o [.ref (ads o (4)), .ref (ads o (1))] mi ml none (remI mi nx c n) (remL ml nx n) := by
  refine Con.mk (by decide) (Nat.le_of_ble_eq_true rfl) (fun γ X => ?_)
  show V γ o 2 mi ml 0 [(0, .ref (ads o (4))), (1, .ref (ads o (1)))] []
  refine r_aload_n X 0 d_Pa_remember_0 rfl rfl ?_
  refine r_get X f_Pa_11 b_4 e_4 (v := .ref (ads o (5))) rfl d_Pa_remember_1 ?_
  refine r_aload_n X 0 d_Pa_remember_4 rfl rfl ?_
  refine r_get X f_Pa_18 b_4 e_4 (v := .int (nI (nx))) (congrArg (fun z => some (Value.int z)) (hnx)) d_Pa_remember_5 ?_
  refine r_aaldS X (a := ads o (6 + 3 * nx)) b_5 e_5 (Nat.le_of_ble_eq_true rfl) (by omega) rfl d_Pa_remember_8 ?_
  refine r_aload_n X 1 d_Pa_remember_9 rfl rfl ?_
  refine r_callV X (m_St_become l o mi ml (6 + 3 * nx) 1 n (isSt.ring (k := nx) (by omega)) isSt.now (hn) hn40 (Or.inr (by omega))) ok_St_become w_Pa_22 rfl (isSt.ring (k := nx) (by omega)).b0 (isSt.ring (k := nx) (by omega)).e0 rfl ⟨Nat.le_of_ble_eq_true rfl, Nat.le_of_ble_eq_true rfl⟩ (rest := []) rfl (Nat.le_of_ble_eq_true rfl) d_Pa_remember_10 ?_
  refine kD (st' := []) rfl ?_
  refine r_aload_n X 0 d_Pa_remember_13 rfl rfl ?_
  refine r_aload_n X 0 d_Pa_remember_14 rfl rfl ?_
  refine r_get X f_Pa_18 b_4 e_4 (v := .int (nI (nx))) (congrArg (fun z => some (Value.int z)) ((by rw [bcI_n _ (by omega) (by omega)] <;> exact hnx))) d_Pa_remember_15 ?_
  refine r_iconst X (v := nI (1)) d_Pa_remember_18 (by decide) ?_
  refine r_iadd X (v := nI (nx + 1)) d_Pa_remember_19 (nI_add _ _) ?_
  refine r_bipush X (v := nI (20)) d_Pa_remember_20 (by decide) ?_
  have hJ_1 : V γ o 2 (bcI mi (6 + 3 * nx) 1 n) (bcL ml (6 + 3 * nx) 1 n) 35 [(0, .ref (ads o (4))), (1, .ref (ads o (1)))] [.int (nI (if decide (20 ≤ (nx + 1)) then 0 else nx + 1)), .ref (ads o (4))] := by
    refine r_putI X fw_Pa_18 b_4 e_4 (fun _ _ => rfl) (Nat.le_of_ble_eq_true rfl) d_Pa_remember_35 ?_
    refine r_aload_n X 0 d_Pa_remember_38 rfl rfl ?_
    refine r_aload_n X 0 d_Pa_remember_39 rfl rfl ?_
    refine r_get X f_Pa_26 b_4 e_4 (v := .int (nI (c))) (congrArg (fun z => some (Value.int z)) ((by rw [u2_s, uf_n _ _ (by decide)] <;> exact (by rw [bcI_n _ (by omega) (by omega)] <;> exact hc)))) d_Pa_remember_40 ?_
    refine r_iconst X (v := nI (1)) d_Pa_remember_43 (by decide) ?_
    refine r_iadd X (v := nI (c + 1)) d_Pa_remember_44 (nI_add _ _) ?_
    refine r_bipush X (v := nI (20)) d_Pa_remember_45 (by decide) ?_
    refine r_min X (by omega) (Nat.le_of_ble_eq_true rfl) w_Pa_29 (Nat.le_of_ble_eq_true rfl) (Nat.le_of_ble_eq_true rfl) d_Pa_remember_47 ?_
    refine r_putI X fw_Pa_26 b_4 e_4 (fun _ _ => rfl) (Nat.le_of_ble_eq_true rfl) d_Pa_remember_50 ?_
    refine r_end_v X d_Pa_remember_53 ?_
    exact ⟨rfl, rfl, rfl⟩
  refine r_icge X (tgt := 34) (c := 20 ≤ (nx + 1)) d_Pa_remember_22 (by decide) (nI_leI (Nat.le_of_ble_eq_true rfl) (by omega)) (fun c_22 => ?_) (fun c_22 => ?_)
  · -- taken
    refine r_iconst X (v := nI (0)) d_Pa_remember_34 (by decide) ?_
    exact V.eq hJ_1 rfl rfl rfl (by rw [show (nI (if decide (20 ≤ (nx + 1)) then 0 else nx + 1)) = (nI (0)) from by first | (simp only [eq_true c_22, decide_true, decide_false, Bool.not_true, Bool.not_false, Bool.true_and, Bool.false_and, Bool.and_true, Bool.and_false, Bool.true_or, Bool.false_or, Bool.or_true, Bool.or_false, if_true, if_false, ite_true, ite_false, cond_true, cond_false, Bool.false_eq_true, reduceIte]; done) | (simp [c_22]; done) | (simp_all; done)])
  · -- not taken
    refine r_aload_n X 0 d_Pa_remember_25 rfl rfl ?_
    refine r_get X f_Pa_18 b_4 e_4 (v := .int (nI (nx))) (congrArg (fun z => some (Value.int z)) ((by rw [bcI_n _ (by omega) (by omega)] <;> exact hnx))) d_Pa_remember_26 ?_
    refine r_iconst X (v := nI (1)) d_Pa_remember_29 (by decide) ?_
    refine r_iadd X (v := nI (nx + 1)) d_Pa_remember_30 (nI_add _ _) ?_
    refine r_goto X (tgt := 35) d_Pa_remember_31 (by decide) ?_
    exact V.eq hJ_1 rfl rfl rfl (by rw [show (nI (if decide (20 ≤ (nx + 1)) then 0 else nx + 1)) = (nI (nx + 1)) from by first | (simp only [eq_false c_22, decide_true, decide_false, Bool.not_true, Bool.not_false, Bool.true_and, Bool.false_and, Bool.and_true, Bool.and_false, Bool.true_or, Bool.false_or, Bool.or_true, Bool.or_false, if_true, if_false, ite_true, ite_false, cond_true, cond_false, Bool.false_eq_true, reduceIte]; done) | (simp [c_22]; done) | (simp_all; done)])

set_option maxHeartbeats 4000000 in
set_option maxRecDepth 100000 in
theorem m_Pa_bringBack (l : Launch) (o : OM) (mi : MI) (ml : ML) (q : Nat) (nx : Nat) (c : Nat) (nb : Nat) (hnx : mi 4 1 = nI nx) (hnx20 : nx < 20) (hc : mi 4 2 = nI c) (hc20 : c ≤ 20) (hq1 : 1 ≤ q) (hqc : q ≤ c) (hq20 : q ≤ 20) (hnb : mi (6 + 3 * (bkN nx q)) 2 = nI nb) (hnb40 : nb ≤ 40) : ConD l y_Pa_bringBack c_Pa_bringBack 3 none 1 22 o [.ref (ads o (4)), .int (nI (q)), .ref (ads o (1))] mi ml none (bcI (u2 (u2 mi 4 1 (nI (bkN nx q))) 4 2 (nI (c - q))) 1 (6 + 3 * (bkN nx q)) nb) (bcL ml 1 (6 + 3 * (bkN nx q)) nb) := by
  refine Con.mk (by decide) (Nat.le_of_ble_eq_true rfl) (fun γ X => ?_)
  show V γ o 3 mi ml 0 [(0, .ref (ads o (4))), (1, .int (nI (q))), (2, .ref (ads o (1)))] []
  refine r_aload_n X 0 d_Pa_bringBack_0 rfl rfl ?_
  refine r_aload_n X 0 d_Pa_bringBack_1 rfl rfl ?_
  refine r_get X f_Pa_18 b_4 e_4 (v := .int (nI (nx))) (congrArg (fun z => some (Value.int z)) (hnx)) d_Pa_bringBack_2 ?_
  refine r_iload_n X 1 d_Pa_bringBack_5 rfl rfl ?_
  have hJ_1 : V γ o 3 mi ml 27 [(0, .ref (ads o (4))), (1, .int (nI (q))), (2, .ref (ads o (1)))] [.int (nI (if decide (nx < q) then nx + 20 - q else nx - q)), .ref (ads o (4))] := by
    refine V.eq (st' := [.int (nI (bkN nx q)), .ref (ads o (4))]) ?_ rfl rfl rfl rfl
    refine r_putI X fw_Pa_18 b_4 e_4 (fun _ _ => rfl) (Nat.le_of_ble_eq_true rfl) d_Pa_bringBack_27 ?_
    refine r_aload_n X 0 d_Pa_bringBack_30 rfl rfl ?_
    refine r_dup X d_Pa_bringBack_31 rfl ?_
    refine r_get X f_Pa_26 b_4 e_4 (v := .int (nI (c))) (congrArg (fun z => some (Value.int z)) ((by rw [u2_s, uf_n _ _ (by decide)] <;> exact hc))) d_Pa_bringBack_32 ?_
    refine r_iload_n X 1 d_Pa_bringBack_35 rfl rfl ?_
    refine r_isub X (v := nI (c - q)) d_Pa_bringBack_36 (pk_sub (by omega)) ?_
    refine r_putI X fw_Pa_26 b_4 e_4 (fun _ _ => rfl) (Nat.le_of_ble_eq_true rfl) d_Pa_bringBack_37 ?_
    refine r_aload_n X 2 d_Pa_bringBack_40 rfl rfl ?_
    refine r_aload_n X 0 d_Pa_bringBack_41 rfl rfl ?_
    refine r_get X f_Pa_11 b_4 e_4 (v := .ref (ads o (5))) rfl d_Pa_bringBack_42 ?_
    refine r_aload_n X 0 d_Pa_bringBack_45 rfl rfl ?_
    refine r_get X f_Pa_18 b_4 e_4 (v := .int (nI (bkN nx q))) (congrArg (fun z => some (Value.int z)) ((by rw [u2_s, uf_n _ _ (by decide)] <;> exact (by rw [u2_s, uf_s])))) d_Pa_bringBack_46 ?_
    refine r_aaldS X (a := ads o (6 + 3 * (bkN nx q))) b_5 e_5 (Nat.le_of_ble_eq_true rfl) (bkN_lt hnx20 hq20 hq1) rfl d_Pa_bringBack_49 ?_
    refine r_callV X (m_St_become l o (u2 (u2 mi 4 1 (nI (bkN nx q))) 4 2 (nI (c - q))) ml 1 (6 + 3 * (bkN nx q)) nb isSt.now (isSt.ring (k := (bkN nx q)) (bkN_lt hnx20 hq20 hq1)) ((by rw [u2_n _ _ _ (by omega)] <;> exact (by rw [u2_n _ _ _ (by omega)] <;> exact hnb))) (by omega) (Or.inl (by omega))) ok_St_become w_Pa_22 rfl b_1 e_1 rfl ⟨Nat.le_of_ble_eq_true rfl, Nat.le_of_ble_eq_true rfl⟩ (rest := []) rfl (Nat.le_of_ble_eq_true rfl) d_Pa_bringBack_50 ?_
    refine kD (st' := []) rfl ?_
    refine r_end_v X d_Pa_bringBack_53 ?_
    exact ⟨rfl, rfl, rfl⟩
  refine r_iclt X (tgt := 18) (c := nx < q) d_Pa_bringBack_6 (by decide) (nI_ltI (by omega) (by omega)) (fun c_6 => ?_) (fun c_6 => ?_)
  · -- taken
    refine r_aload_n X 0 d_Pa_bringBack_18 rfl rfl ?_
    refine r_get X f_Pa_18 b_4 e_4 (v := .int (nI (nx))) (congrArg (fun z => some (Value.int z)) (hnx)) d_Pa_bringBack_19 ?_
    refine r_iload_n X 1 d_Pa_bringBack_22 rfl rfl ?_
    refine r_isub X (v := (nI (nx) - nI (q))) d_Pa_bringBack_23 (rfl) ?_
    refine r_bipush X (v := nI (20)) d_Pa_bringBack_24 (by decide) ?_
    refine r_iadd X (v := nI (nx + 20 - q)) d_Pa_bringBack_26 (sub_add20 (by omega)) ?_
    exact V.eq hJ_1 rfl rfl rfl (by rw [show (nI (if decide (nx < q) then nx + 20 - q else nx - q)) = (nI (nx + 20 - q)) from by first | (simp only [eq_true c_6, decide_true, decide_false, Bool.not_true, Bool.not_false, Bool.true_and, Bool.false_and, Bool.and_true, Bool.and_false, Bool.true_or, Bool.false_or, Bool.or_true, Bool.or_false, if_true, if_false, ite_true, ite_false, cond_true, cond_false, Bool.false_eq_true, reduceIte]; done) | (simp [c_6]; done) | (simp_all; done)])
  · -- not taken
    refine r_aload_n X 0 d_Pa_bringBack_9 rfl rfl ?_
    refine r_get X f_Pa_18 b_4 e_4 (v := .int (nI (nx))) (congrArg (fun z => some (Value.int z)) (hnx)) d_Pa_bringBack_10 ?_
    refine r_iload_n X 1 d_Pa_bringBack_13 rfl rfl ?_
    refine r_isub X (v := nI (nx - q)) d_Pa_bringBack_14 (pk_sub (by omega)) ?_
    refine r_goto X (tgt := 27) d_Pa_bringBack_15 (by decide) ?_
    exact V.eq hJ_1 rfl rfl rfl (by rw [show (nI (if decide (nx < q) then nx + 20 - q else nx - q)) = (nI (nx - q)) from by first | (simp only [eq_false c_6, decide_true, decide_false, Bool.not_true, Bool.not_false, Bool.true_and, Bool.false_and, Bool.and_true, Bool.and_false, Bool.true_or, Bool.false_or, Bool.or_true, Bool.or_false, if_true, if_false, ite_true, ite_false, cond_true, cond_false, Bool.false_eq_true, reduceIte]; done) | (simp [c_6]; done) | (simp_all; done)])

set_option maxHeartbeats 4000000 in
set_option maxRecDepth 100000 in
theorem m_Pa_forget (l : Launch) (o : OM) (mi : MI) (ml : ML)   : ConD l y_Pa_forget c_Pa_forget 1 none 0 0 o [.ref (ads o (4))] mi ml none (u2 mi 4 2 (nI 0)) ml := by
  refine Con.mk (by decide) (Nat.le_of_ble_eq_true rfl) (fun γ X => ?_)
  show V γ o 1 mi ml 0 [(0, .ref (ads o (4)))] []
  refine r_aload_n X 0 d_Pa_forget_0 rfl rfl ?_
  refine r_iconst X (v := nI (0)) d_Pa_forget_1 (by decide) ?_
  refine r_putI X fw_Pa_26 b_4 e_4 (fun _ _ => rfl) (Nat.le_of_ble_eq_true rfl) d_Pa_forget_2 ?_
  refine r_end_v X d_Pa_forget_5 ?_
  exact ⟨rfl, rfl, rfl⟩

set_option maxHeartbeats 4000000 in
set_option maxRecDepth 100000 in
theorem m_Pt_reach (l : Launch) (o : OM) (mi : MI) (ml : ML) (a : Nat) (c : Nat) (hQ : isPt a) (hc : mi a 2 = nI c) (hc8 : c ≤ 8) (hc1 : 1 ≤ c) : ConD l y_Pt_reach c_Pt_reach 1 (some .int) 0 0 o [.ref (ads o (a))] mi ml (some (.int (nI (c - 1)))) mi ml := by
  refine Con.mk (by decide) (Nat.le_of_ble_eq_true rfl) (fun γ X => ?_)
  show V γ o 1 mi ml 0 [(0, .ref (ads o (a)))] []
  refine r_aload_n X 0 d_Pt_reach_0 rfl rfl ?_
  refine r_get X f_Pt_19 hQ.b0 hQ.e0 (v := .int (nI (c))) (congrArg (fun z => some (Value.int z)) (hc)) d_Pt_reach_1 ?_
  refine r_iconst X (v := nI (1)) d_Pt_reach_4 (by decide) ?_
  refine r_isub X (v := nI (c - 1)) d_Pt_reach_5 (pk_sub (by omega)) ?_
  refine r_end_i X d_Pt_reach_6 ?_
  first | exact ⟨rfl, rfl, rfl⟩ | (refine ⟨?_, rfl, rfl⟩; simp_all)

set_option maxHeartbeats 4000000 in
set_option maxRecDepth 100000 in
theorem m_Pt_anyAlike (l : Launch) (o : OM) (mi : MI) (ml : ML) (a : Nat) (x : Int64) (c : Nat) (hQ : isPt a) (hc : mi a 2 = nI c) (hc8 : c ≤ 8) : ConD l y_Pt_anyAlike c_Pt_anyAlike 4 (some .boolean) 0 0 o [.ref (ads o (a)), .long (x)] mi ml (some (.int (bI (anyP x (ml (a + 2)) c)))) mi ml := by
  refine Con.mk (by decide) (Nat.le_of_ble_eq_true rfl) (fun γ X => ?_)
  show V γ o 4 mi ml 0 [(0, .ref (ads o (a))), (1, .long (x))] []
  refine r_iconst X (v := nI (0)) d_Pt_anyAlike_0 (by decide) ?_
  refine r_istore_n X [(3, .int (nI (0))), (0, .ref (ads o (a))), (1, .long (x))] d_Pt_anyAlike_1 rfl (Nat.le_of_ble_eq_true rfl) rfl ?_
  have L2_1 : ∀ (d_i i : Nat), i + d_i = c → (alB (fun p => !decide (x &&& ml (a + 2) p = 0)) (i) = true) → V γ o 4 mi ml 2 [(0, .ref (ads o (a))), (1, .long (x)), (3, .int (nI (i)))] [] := by
    intro d_i
    induction d_i with
    | zero =>
      intro i hi_L2_1 hr
      have he_L2_1 : c = i := by omega
      subst he_L2_1
      refine r_iload_n X 2 d_Pt_anyAlike_2 rfl rfl ?_
      refine r_aload_n X 0 d_Pt_anyAlike_3 rfl rfl ?_
      refine r_get X f_Pt_19 hQ.b0 hQ.e0 (v := .int (nI (c))) (congrArg (fun z => some (Value.int z)) (hc)) d_Pt_anyAlike_4 ?_
      refine r_icge X (tgt := 31) (c := c ≤ c) d_Pt_anyAlike_7 (by decide) (nI_leI (by omega) (by omega)) (fun c_7 => ?_) (fun c_7 => ?_)
      · -- taken
        refine r_iconst X (v := nI (0)) d_Pt_anyAlike_31 (by decide) ?_
        refine r_end_z X (rfl) d_Pt_anyAlike_32 ?_
        refine ⟨?_, rfl, rfl⟩; rw [show anyP x (ml (a + 2)) c = false from by unfold anyP; rw [hr]; rfl]; rfl
      · -- not taken
        exact False.elim (by omega)
    | succ d_i ih_L2_1 =>
      intro i hi_L2_1 hr
      have hlt_L2_1 : i < c := by omega
      refine r_iload_n X 2 d_Pt_anyAlike_2 rfl rfl ?_
      refine r_aload_n X 0 d_Pt_anyAlike_3 rfl rfl ?_
      refine r_get X f_Pt_19 hQ.b0 hQ.e0 (v := .int (nI (c))) (congrArg (fun z => some (Value.int z)) (hc)) d_Pt_anyAlike_4 ?_
      refine r_icge X (tgt := 31) (c := c ≤ i) d_Pt_anyAlike_7 (by decide) (nI_leI (by omega) (by omega)) (fun c_7_2 => ?_) (fun c_7_2 => ?_)
      · -- taken
        exact False.elim (by omega)
      · -- not taken
        refine r_lload_n X 1 d_Pt_anyAlike_10 rfl rfl ?_
        refine r_aload_n X 0 d_Pt_anyAlike_11 rfl rfl ?_
        refine r_get X f_Pt_15 hQ.b0 hQ.e0 (v := .ref (ads o (a + 2))) rfl d_Pt_anyAlike_12 ?_
        refine r_iload_n X 2 d_Pt_anyAlike_15 rfl rfl ?_
        refine r_lald X (v := ml (a + 2) i) hQ.b2 hQ.e2 (Nat.le_of_ble_eq_true rfl) (by omega) rfl d_Pt_anyAlike_16 ?_
        refine r_land X (v := (x) &&& (ml (a + 2) i)) d_Pt_anyAlike_17 (rfl) ?_
        refine r_lconst X (v := 0) d_Pt_anyAlike_18 (by decide) ?_
        refine r_lcmp X d_Pt_anyAlike_19 ?_
        refine r_ifneP X (tgt := 25) (c := ((x) &&& (ml (a + 2) i)) = 0) d_Pt_anyAlike_20 (by decide) (lg_cmp_eq _ _) (fun c_20 => ?_) (fun c_20 => ?_)
        · -- taken
          refine r_iinc X 2 (v := nI (i + 1)) [(3, .int (nI (i + 1))), (0, .ref (ads o (a))), (1, .long (x))] d_Pt_anyAlike_25 rfl (nI_add _ 1) (Nat.le_of_ble_eq_true rfl) rfl ?_
          refine r_goto X (tgt := 2) d_Pt_anyAlike_28 (by decide) ?_
          refine V.wk [1, 2, 0] (V.eq (ih_L2_1 (i + 1) (by omega) (by simp_all [alB])) ?_ ?_ ?_ rfl) (rfl : lv_pick _ [1, 2, 0] = [(0, .ref (ads o (a))), (1, .long (x)), (3, .int (nI (i + 1)))])
          · rfl
          · rfl
          · first | rfl | (simp_all [ct, lastB, alB, fromB]; done)
        · -- not taken
          refine r_iconst X (v := nI (1)) d_Pt_anyAlike_23 (by decide) ?_
          refine r_end_z X (rfl) d_Pt_anyAlike_24 ?_
          refine ⟨?_, rfl, rfl⟩; rw [show anyP x (ml (a + 2)) c = true from by unfold anyP; rw [alB_no (i := i + 1) (by simp_all [alB]) (by omega)]; rfl]; rfl
  refine V.wk [1, 2, 0] (V.eq (L2_1 (c - 0) 0 (by omega) (rfl)) ?_ ?_ ?_ rfl) (rfl : lv_pick _ [1, 2, 0] = [(0, .ref (ads o (a))), (1, .long (x)), (3, .int (nI (0)))])
  · rfl
  · rfl
  · rfl

set_option maxHeartbeats 4000000 in
set_option maxRecDepth 100000 in
theorem m_Pt_turnOf (l : Launch) (o : OM) (mi : MI) (ml : ML) (p : Nat) (P : Nat) (h : Nat) (hP1 : 1 ≤ P) (hP8 : P ≤ 8) (hp : p < P) (hh : h < 3) : ConD l y_Pt_turnOf c_Pt_turnOf 3 (some .int) 0 0 o [.int (nI (p)), .int (nI (P)), .int (nI (h))] mi ml (some (.int (nI (turnO p P h)))) mi ml := by
  refine Con.mk (by decide) (Nat.le_of_ble_eq_true rfl) (fun γ X => ?_)
  show V γ o 3 mi ml 0 [(0, .int (nI (p))), (1, .int (nI (P))), (2, .int (nI (h)))] []
  refine r_iload_n X 2 d_Pt_turnOf_0 rfl rfl ?_
  refine r_ifneP X (tgt := 6) (c := h = 0) d_Pt_turnOf_1 (by decide) ((by rw [← nI_0] <;> exact nI_eq (by omega) (Nat.le_of_ble_eq_true rfl))) (fun c_1 => ?_) (fun c_1 => ?_)
  · -- taken
    refine r_iload_n X 2 d_Pt_turnOf_6 rfl rfl ?_
    refine r_iconst X (v := nI (1)) d_Pt_turnOf_7 (by decide) ?_
    refine r_icneP X (tgt := 17) (c := h = 1) d_Pt_turnOf_8 (by decide) (nI_eq (by omega) (Nat.le_of_ble_eq_true rfl)) (fun c_8 => ?_) (fun c_8 => ?_)
    · -- taken
      refine r_iload_n X 0 d_Pt_turnOf_17 rfl rfl ?_
      refine r_iconst X (v := nI (2)) d_Pt_turnOf_18 (by decide) ?_
      refine r_irem X (v := nI ((p) % (2))) d_Pt_turnOf_19 (nI_ne0 (by omega) (Nat.le_of_ble_eq_true rfl)) (pk_rem (by omega) (by omega) (Nat.le_of_ble_eq_true rfl)) ?_
      have hJ_1 : V γ o 3 mi ml 38 [(0, .int (nI (p))), (1, .int (nI (P))), (2, .int (nI (h)))] [.int (nI (if decide (((p) % (2)) = 0) then (p) / (2) else (P + 1) / (2) + ((p) / (2))))] := by
        refine r_end_i X d_Pt_turnOf_38 ?_
        refine ⟨?_, rfl, rfl⟩; unfold turnO; simp_all
      refine r_ifneP X (tgt := 29) (c := ((p) % (2)) = 0) d_Pt_turnOf_20 (by decide) ((by rw [← nI_0] <;> exact nI_eq (by omega) (Nat.le_of_ble_eq_true rfl))) (fun c_20 => ?_) (fun c_20 => ?_)
      · -- taken
        refine r_iload_n X 1 d_Pt_turnOf_29 rfl rfl ?_
        refine r_iconst X (v := nI (1)) d_Pt_turnOf_30 (by decide) ?_
        refine r_iadd X (v := nI (P + 1)) d_Pt_turnOf_31 (nI_add _ _) ?_
        refine r_iconst X (v := nI (2)) d_Pt_turnOf_32 (by decide) ?_
        refine r_idiv X (v := nI ((P + 1) / (2))) d_Pt_turnOf_33 (nI_ne0 (by omega) (Nat.le_of_ble_eq_true rfl)) (pk_div (by omega) (by omega) (Nat.le_of_ble_eq_true rfl)) ?_
        refine r_iload_n X 0 d_Pt_turnOf_34 rfl rfl ?_
        refine r_iconst X (v := nI (2)) d_Pt_turnOf_35 (by decide) ?_
        refine r_idiv X (v := nI ((p) / (2))) d_Pt_turnOf_36 (nI_ne0 (by omega) (Nat.le_of_ble_eq_true rfl)) (pk_div (by omega) (by omega) (Nat.le_of_ble_eq_true rfl)) ?_
        refine r_iadd X (v := nI ((P + 1) / (2) + ((p) / (2)))) d_Pt_turnOf_37 (nI_add _ _) ?_
        exact V.eq hJ_1 rfl rfl rfl (by rw [show (nI (if decide (((p) % (2)) = 0) then (p) / (2) else (P + 1) / (2) + ((p) / (2)))) = (nI ((P + 1) / (2) + ((p) / (2)))) from by first | (simp only [eq_false c_20, decide_true, decide_false, Bool.not_true, Bool.not_false, Bool.true_and, Bool.false_and, Bool.and_true, Bool.and_false, Bool.true_or, Bool.false_or, Bool.or_true, Bool.or_false, if_true, if_false, ite_true, ite_false, cond_true, cond_false, Bool.false_eq_true, reduceIte]; done) | (simp [c_20]; done) | (simp_all; done)])
      · -- not taken
        refine r_iload_n X 0 d_Pt_turnOf_23 rfl rfl ?_
        refine r_iconst X (v := nI (2)) d_Pt_turnOf_24 (by decide) ?_
        refine r_idiv X (v := nI ((p) / (2))) d_Pt_turnOf_25 (nI_ne0 (by omega) (Nat.le_of_ble_eq_true rfl)) (pk_div (by omega) (by omega) (Nat.le_of_ble_eq_true rfl)) ?_
        refine r_goto X (tgt := 38) d_Pt_turnOf_26 (by decide) ?_
        exact V.eq hJ_1 rfl rfl rfl (by rw [show (nI (if decide (((p) % (2)) = 0) then (p) / (2) else (P + 1) / (2) + ((p) / (2)))) = (nI ((p) / (2))) from by first | (simp only [eq_true c_20, decide_true, decide_false, Bool.not_true, Bool.not_false, Bool.true_and, Bool.false_and, Bool.and_true, Bool.and_false, Bool.true_or, Bool.false_or, Bool.or_true, Bool.or_false, if_true, if_false, ite_true, ite_false, cond_true, cond_false, Bool.false_eq_true, reduceIte]; done) | (simp [c_20]; done) | (simp_all; done)])
    · -- not taken
      refine r_iload_n X 1 d_Pt_turnOf_11 rfl rfl ?_
      refine r_iconst X (v := nI (1)) d_Pt_turnOf_12 (by decide) ?_
      refine r_isub X (v := nI (P - 1)) d_Pt_turnOf_13 (pk_sub (by omega)) ?_
      refine r_iload_n X 0 d_Pt_turnOf_14 rfl rfl ?_
      refine r_isub X (v := nI (P - 1 - p)) d_Pt_turnOf_15 (pk_sub (by omega)) ?_
      refine r_end_i X d_Pt_turnOf_16 ?_
      refine ⟨?_, rfl, rfl⟩; unfold turnO; simp_all
  · -- not taken
    refine r_iload_n X 0 d_Pt_turnOf_4 rfl rfl ?_
    refine r_end_i X d_Pt_turnOf_5 ?_
    refine ⟨?_, rfl, rfl⟩; unfold turnO; simp_all

set_option maxHeartbeats 4000000 in
set_option maxRecDepth 100000 in
theorem m_Pt_beginAt (l : Launch) (o : OM) (mi : MI) (ml : ML) (a : Nat) (x : Int64) (hQ : isPt a) (hx0 : bt x 0 = true) (hx8 : pop x ≤ 8) : Con l y_Pt_beginAt c_Pt_beginAt 4 none 1 22 o [.ref (ads o (a)), .long (x)] mi ml (fun v m z => v = none ∧ PtOK m z a x ∧ (∀ t, t ≠ a → t ≠ a + 1 → m t = mi t) ∧ ∀ t, t ≠ a + 2 → z t = ml t) := by
  refine Con.mk (by decide) (Nat.le_of_ble_eq_true rfl) (fun γ X => ?_)
  show V γ o 4 mi ml 0 [(0, .ref (ads o (a))), (1, .long (x))] []
  refine r_aload_n X 0 d_Pt_beginAt_0 rfl rfl ?_
  refine r_iconst X (v := nI (0)) d_Pt_beginAt_1 (by decide) ?_
  refine r_putI X fw_Pt_19 hQ.b0 hQ.e0 (fun _ _ => rfl) (Nat.le_of_ble_eq_true rfl) d_Pt_beginAt_2 ?_
  refine r_iconst X (v := nI (0)) d_Pt_beginAt_5 (by decide) ?_
  refine r_istore_n X [(3, .int (nI (0))), (0, .ref (ads o (a))), (1, .long (x))] d_Pt_beginAt_6 rfl (Nat.le_of_ble_eq_true rfl) rfl ?_
  have L7_1 : ∀ (d_i i : Nat), i + d_i = 64 → ∀ (mi_L7_1 : MI), ∀ (ml_L7_1 : ML), (∀ t, t ≠ a → t ≠ a + 1 → mi_L7_1 t = mi t) → (∀ t, t ≠ a + 2 → ml_L7_1 t = ml t) → (ptI mi_L7_1 a x i) → (ptL ml_L7_1 a x i) → V γ o 4 mi_L7_1 ml_L7_1 7 [(0, .ref (ads o (a))), (1, .long (x)), (3, .int (nI (i)))] [] := by
    intro d_i
    induction d_i with
    | zero =>
      intro i hi_L7_1 mi_L7_1 ml_L7_1 hf hg hI hL
      have he_L7_1 : 64 = i := by omega
      subst he_L7_1
      refine r_iload_n X 2 d_Pt_beginAt_7 rfl rfl ?_
      refine r_bipush X (v := nI (64)) d_Pt_beginAt_8 (by decide) ?_
      refine r_icge X (tgt := 90) (c := 64 ≤ 64) d_Pt_beginAt_10 (by decide) (nI_leI (Nat.le_of_ble_eq_true rfl) (by omega)) (fun c_10 => ?_) (fun c_10 => ?_)
      · -- taken
        refine r_end_v X d_Pt_beginAt_90 ?_
        exact ⟨rfl, ⟨hI.1, hI.2, fun p hp j hj => by rw [hL p hp j hj, mk_end hj]⟩, hf, hg⟩
      · -- not taken
        exact False.elim (by omega)
    | succ d_i ih_L7_1 =>
      intro i hi_L7_1 mi_L7_1 ml_L7_1 hf hg hI hL
      have hlt_L7_1 : i < 64 := by omega
      have hm1 := ct_mono (bt x) (show i + 1 ≤ 64 by omega)
      have hm2 : ct (bt x) i + (bt x i).toNat ≤ pop x := hm1
      have hm3 : 1 ≤ i → 1 ≤ ct (bt x) i := fun h => by have := ct_mono (bt x) h; rw [show ct (bt x) 1 = 1 from by rw [ct_t hx0]; rfl] at this; exact this
      have hm4 : i = 0 → bt x i = true := fun h => by rw [h]; exact hx0
      refine r_iload_n X 2 d_Pt_beginAt_7 rfl rfl ?_
      refine r_bipush X (v := nI (64)) d_Pt_beginAt_8 (by decide) ?_
      refine r_icge X (tgt := 90) (c := 64 ≤ i) d_Pt_beginAt_10 (by decide) (nI_leI (Nat.le_of_ble_eq_true rfl) (by omega)) (fun c_10_2 => ?_) (fun c_10_2 => ?_)
      · -- taken
        exact False.elim (by omega)
      · -- not taken
        refine r_lload_n X 1 d_Pt_beginAt_13 rfl rfl ?_
        refine r_iload_n X 2 d_Pt_beginAt_14 rfl rfl ?_
        refine r_callN X (m_Nm_hasBit l o mi_L7_1 ml_L7_1 x i (by omega)) ok_Nm_hasBit (host := "NearMarks") (by decide +kernel) rfl ⟨Nat.le_of_ble_eq_true rfl, Nat.le_of_ble_eq_true rfl⟩ (rest := []) rfl (Nat.le_of_ble_eq_true rfl) d_Pt_beginAt_15 ?_
        refine kD (st' := [.int (bI (bt x i))]) rfl ?_
        refine r_ifeqB X (tgt := 60) (b := bt x i) d_Pt_beginAt_18 (by decide) (fun c_18 => ?_) (fun c_18 => ?_)
        · -- taken
          refine r_aload_n X 0 d_Pt_beginAt_60 rfl rfl ?_
          refine r_get X f_Pt_19 hQ.b0 hQ.e0 (v := .int (nI (ct (bt x) i))) (congrArg (fun z => some (Value.int z)) (hI.1)) d_Pt_beginAt_61 ?_
          refine r_ifle X (tgt := 84) (c := (ct (bt x) i) ≤ 0) d_Pt_beginAt_64 (by decide) ((by rw [← nI_0] <;> exact nI_leI (by omega) (Nat.le_of_ble_eq_true rfl))) (fun c_64 => ?_) (fun c_64 => ?_)
          · -- taken
            exact False.elim (by have e : ¬ i = 0 := fun h => (by have := hm4 h; simp_all); have := hm3 (by omega); omega)
          · -- not taken
            refine r_aload_n X 0 d_Pt_beginAt_67 rfl rfl ?_
            refine r_get X f_Pt_15 hQ.b0 hQ.e0 (v := .ref (ads o (a + 2))) rfl d_Pt_beginAt_68 ?_
            refine r_aload_n X 0 d_Pt_beginAt_71 rfl rfl ?_
            refine r_get X f_Pt_19 hQ.b0 hQ.e0 (v := .int (nI (ct (bt x) i))) (congrArg (fun z => some (Value.int z)) (hI.1)) d_Pt_beginAt_72 ?_
            refine r_iconst X (v := nI (1)) d_Pt_beginAt_75 (by decide) ?_
            refine r_isub X (v := nI (ct (bt x) i - 1)) d_Pt_beginAt_76 (pk_sub (by omega)) ?_
            refine r_dup2_11 X d_Pt_beginAt_77 rfl rfl ?_
            refine r_lald X (v := ml_L7_1 (a + 2) (ct (bt x) i - 1)) hQ.b2 hQ.e2 (Nat.le_of_ble_eq_true rfl) (by omega) rfl d_Pt_beginAt_78 ?_
            refine r_lconst X (v := 1) d_Pt_beginAt_79 (by decide) ?_
            refine r_iload_n X 2 d_Pt_beginAt_80 rfl rfl ?_
            refine r_lshl X (v := shl (1) (i)) d_Pt_beginAt_81 (rfl) ?_
            refine r_lor X (v := (ml_L7_1 (a + 2) (ct (bt x) i - 1)) ||| (shl (1) (i))) d_Pt_beginAt_82 (rfl) ?_
            refine r_last X hQ.b2 hQ.e2 (Nat.le_of_ble_eq_true rfl) (by omega) d_Pt_beginAt_83 ?_
            refine r_iinc X 2 (v := nI (i + 1)) [(3, .int (nI (i + 1))), (0, .ref (ads o (a))), (1, .long (x))] d_Pt_beginAt_84 rfl (nI_add _ 1) (Nat.le_of_ble_eq_true rfl) rfl ?_
            refine r_goto X (tgt := 7) d_Pt_beginAt_87 (by decide) ?_
            refine V.wk [1, 2, 0] (V.eq (ih_L7_1 (i + 1) (by omega) (mi_L7_1) ((u2 ml_L7_1 (a + 2) (ct (bt x) i - 1) ((ml_L7_1 (a + 2) (ct (bt x) i - 1)) ||| (shl (1) (i))))) (hf) (fun t h1 => by rw [u2_n _ _ _ h1]; exact hg t h1) (pt_miss_I (by assumption) hI) (pt_miss_L hlt_L7_1 (by assumption) (by omega) hL)) ?_ ?_ ?_ rfl) (rfl : lv_pick _ [1, 2, 0] = [(0, .ref (ads o (a))), (1, .long (x)), (3, .int (nI (i + 1)))])
            · rfl
            · rfl
            · first | rfl | (simp_all [ct, lastB, alB, fromB]; done)
        · -- not taken
          refine r_aload_n X 0 d_Pt_beginAt_21 rfl rfl ?_
          refine r_get X f_Pt_19 hQ.b0 hQ.e0 (v := .int (nI (ct (bt x) i))) (congrArg (fun z => some (Value.int z)) (hI.1)) d_Pt_beginAt_22 ?_
          refine r_bipush X (v := nI (8)) d_Pt_beginAt_25 (by decide) ?_
          refine r_icge X (tgt := 60) (c := 8 ≤ (ct (bt x) i)) d_Pt_beginAt_27 (by decide) (nI_leI (Nat.le_of_ble_eq_true rfl) (by omega)) (fun c_27 => ?_) (fun c_27 => ?_)
          · -- taken
            exact False.elim (by have e : (bt x i).toNat = 1 := (by simp_all); omega)
          · -- not taken
            refine r_aload_n X 0 d_Pt_beginAt_30 rfl rfl ?_
            refine r_get X f_Pt_9 hQ.b0 hQ.e0 (v := .ref (ads o (a + 1))) rfl d_Pt_beginAt_31 ?_
            refine r_aload_n X 0 d_Pt_beginAt_34 rfl rfl ?_
            refine r_get X f_Pt_19 hQ.b0 hQ.e0 (v := .int (nI (ct (bt x) i))) (congrArg (fun z => some (Value.int z)) (hI.1)) d_Pt_beginAt_35 ?_
            refine r_iload_n X 2 d_Pt_beginAt_38 rfl rfl ?_
            refine r_iast X hQ.b1 hQ.e1 (Nat.le_of_ble_eq_true rfl) (by have e : (bt x i).toNat = 1 := (by simp_all); omega) d_Pt_beginAt_39 ?_
            refine r_aload_n X 0 d_Pt_beginAt_40 rfl rfl ?_
            refine r_get X f_Pt_15 hQ.b0 hQ.e0 (v := .ref (ads o (a + 2))) rfl d_Pt_beginAt_41 ?_
            refine r_aload_n X 0 d_Pt_beginAt_44 rfl rfl ?_
            refine r_get X f_Pt_19 hQ.b0 hQ.e0 (v := .int (nI (ct (bt x) i))) (congrArg (fun z => some (Value.int z)) ((by rw [u2_n _ _ _ (by omega)] <;> exact hI.1))) d_Pt_beginAt_45 ?_
            refine r_lconst X (v := 0) d_Pt_beginAt_48 (by decide) ?_
            refine r_last X hQ.b2 hQ.e2 (Nat.le_of_ble_eq_true rfl) (by have e : (bt x i).toNat = 1 := (by simp_all); omega) d_Pt_beginAt_49 ?_
            refine r_aload_n X 0 d_Pt_beginAt_50 rfl rfl ?_
            refine r_dup X d_Pt_beginAt_51 rfl ?_
            refine r_get X f_Pt_19 hQ.b0 hQ.e0 (v := .int (nI (ct (bt x) i))) (congrArg (fun z => some (Value.int z)) ((by rw [u2_n _ _ _ (by omega)] <;> exact hI.1))) d_Pt_beginAt_52 ?_
            refine r_iconst X (v := nI (1)) d_Pt_beginAt_55 (by decide) ?_
            refine r_iadd X (v := nI (ct (bt x) i + 1)) d_Pt_beginAt_56 (nI_add _ _) ?_
            refine r_putI X fw_Pt_19 hQ.b0 hQ.e0 (fun _ _ => rfl) (Nat.le_of_ble_eq_true rfl) d_Pt_beginAt_57 ?_
            refine r_aload_n X 0 d_Pt_beginAt_60 rfl rfl ?_
            refine r_get X f_Pt_19 hQ.b0 hQ.e0 (v := .int (nI (ct (bt x) i + 1))) (congrArg (fun z => some (Value.int z)) ((by rw [u2_s, uf_s]))) d_Pt_beginAt_61 ?_
            refine r_ifle X (tgt := 84) (c := (ct (bt x) i + 1) ≤ 0) d_Pt_beginAt_64 (by decide) ((by rw [← nI_0] <;> exact nI_leI (by omega) (Nat.le_of_ble_eq_true rfl))) (fun c_64_3 => ?_) (fun c_64_3 => ?_)
            · -- taken
              exact False.elim (by omega)
            · -- not taken
              refine r_aload_n X 0 d_Pt_beginAt_67 rfl rfl ?_
              refine r_get X f_Pt_15 hQ.b0 hQ.e0 (v := .ref (ads o (a + 2))) rfl d_Pt_beginAt_68 ?_
              refine r_aload_n X 0 d_Pt_beginAt_71 rfl rfl ?_
              refine r_get X f_Pt_19 hQ.b0 hQ.e0 (v := .int (nI (ct (bt x) i + 1))) (congrArg (fun z => some (Value.int z)) ((by rw [u2_s, uf_s]))) d_Pt_beginAt_72 ?_
              refine r_iconst X (v := nI (1)) d_Pt_beginAt_75 (by decide) ?_
              refine r_isub X (v := nI (ct (bt x) i)) d_Pt_beginAt_76 (pk_sub (a := ct (bt x) i + 1) (b := 1) (by omega)) ?_
              refine r_dup2_11 X d_Pt_beginAt_77 rfl rfl ?_
              refine r_lald X (v := 0) hQ.b2 hQ.e2 (Nat.le_of_ble_eq_true rfl) (by omega) ((by rw [u2_s, uf_s])) d_Pt_beginAt_78 ?_
              refine r_lconst X (v := 1) d_Pt_beginAt_79 (by decide) ?_
              refine r_iload_n X 2 d_Pt_beginAt_80 rfl rfl ?_
              refine r_lshl X (v := shl (1) (i)) d_Pt_beginAt_81 (rfl) ?_
              refine r_lor X (v := (0) ||| (shl (1) (i))) d_Pt_beginAt_82 (rfl) ?_
              refine r_last X hQ.b2 hQ.e2 (Nat.le_of_ble_eq_true rfl) (by omega) d_Pt_beginAt_83 ?_
              refine r_iinc X 2 (v := nI (i + 1)) [(3, .int (nI (i + 1))), (0, .ref (ads o (a))), (1, .long (x))] d_Pt_beginAt_84 rfl (nI_add _ 1) (Nat.le_of_ble_eq_true rfl) rfl ?_
              refine r_goto X (tgt := 7) d_Pt_beginAt_87 (by decide) ?_
              refine V.wk [1, 2, 0] (V.eq (ih_L7_1 (i + 1) (by omega) ((u2 (u2 mi_L7_1 (a + 1) (ct (bt x) i) (nI (i))) a 2 (nI (ct (bt x) i + 1)))) ((u2 (u2 ml_L7_1 (a + 2) (ct (bt x) i) (0)) (a + 2) (ct (bt x) i) ((0) ||| (shl (1) (i))))) (fun t h1 h2 => by rw [u2_n _ _ _ h1, u2_n _ _ _ h2]; exact hf t h1 h2) (fun t h1 => by rw [u2_n _ _ _ h1, u2_n _ _ _ h1]; exact hg t h1) (pt_hit_I hlt_L7_1 (by assumption) hI) (pt_hit_L hlt_L7_1 (by assumption) hL)) ?_ ?_ ?_ rfl) (rfl : lv_pick _ [1, 2, 0] = [(0, .ref (ads o (a))), (1, .long (x)), (3, .int (nI (i + 1)))])
              · rfl
              · rfl
              · first | rfl | (simp_all [ct, lastB, alB, fromB]; done)
  refine V.wk [1, 2, 0] (V.eq (L7_1 (64 - 0) 0 (by omega) ((u2 mi a 2 (nI (0)))) (ml) (fun t h1 h2 => by rw [u2_n _ _ _ h1]) (fun _ _ => rfl) (⟨by rw [u2_s, uf_s]; rfl, fun p hp => absurd hp (Nat.not_lt_zero p)⟩) (fun p hp => absurd hp (Nat.not_lt_zero p))) ?_ ?_ ?_ rfl) (rfl : lv_pick _ [1, 2, 0] = [(0, .ref (ads o (a))), (1, .long (x)), (3, .int (nI (0)))])
  · rfl
  · rfl
  · rfl
end
section
set_option maxHeartbeats 4000000 in
set_option maxRecDepth 100000 in
theorem m_Si_fits (l : Launch) (o : OM) (mi : MI) (ml : ML) (x : Int64) (s : Nat) (hs : mi 86 3 = nI s) (hs6 : s ≤ 6) : ConD l y_Si_fits c_Si_fits 4 (some .boolean) 2 44 o [.ref (ads o (86)), .long (x)] mi ml (some (.int (bI (cb x (ml 87) (mi 88) s)))) mi ml := by
  refine Con.mk (by decide) (Nat.le_of_ble_eq_true rfl) (fun γ X => ?_)
  show V γ o 4 mi ml 0 [(0, .ref (ads o (86))), (1, .long (x))] []
  refine r_iconst X (v := nI (0)) d_Si_fits_0 (by decide) ?_
  refine r_istore_n X [(3, .int (nI (0))), (0, .ref (ads o (86))), (1, .long (x))] d_Si_fits_1 rfl (Nat.le_of_ble_eq_true rfl) rfl ?_
  have L2_1 : ∀ (d_i i : Nat), i + d_i = s → (alB (fun i => decide (nI (ds x (ml 87 i)) = mi 88 i)) (i) = true) → V γ o 4 mi ml 2 [(0, .ref (ads o (86))), (1, .long (x)), (3, .int (nI (i)))] [] := by
    intro d_i
    induction d_i with
    | zero =>
      intro i hi_L2_1 hr
      have he_L2_1 : s = i := by omega
      subst he_L2_1
      refine r_iload_n X 2 d_Si_fits_2 rfl rfl ?_
      refine r_aload_n X 0 d_Si_fits_3 rfl rfl ?_
      refine r_get X f_Si_22 b_86 e_86 (v := .int (nI (s))) (congrArg (fun z => some (Value.int z)) (hs)) d_Si_fits_4 ?_
      refine r_icge X (tgt := 37) (c := s ≤ s) d_Si_fits_7 (by decide) (nI_leI (by omega) (by omega)) (fun c_7 => ?_) (fun c_7 => ?_)
      · -- taken
        refine r_iconst X (v := nI (1)) d_Si_fits_37 (by decide) ?_
        refine r_end_z X (rfl) d_Si_fits_38 ?_
        refine ⟨?_, rfl, rfl⟩; rw [show cb x (ml 87) (mi 88) s = true from hr]; rfl
      · -- not taken
        exact False.elim (by omega)
    | succ d_i ih_L2_1 =>
      intro i hi_L2_1 hr
      have hlt_L2_1 : i < s := by omega
      refine r_iload_n X 2 d_Si_fits_2 rfl rfl ?_
      refine r_aload_n X 0 d_Si_fits_3 rfl rfl ?_
      refine r_get X f_Si_22 b_86 e_86 (v := .int (nI (s))) (congrArg (fun z => some (Value.int z)) (hs)) d_Si_fits_4 ?_
      refine r_icge X (tgt := 37) (c := s ≤ i) d_Si_fits_7 (by decide) (nI_leI (by omega) (by omega)) (fun c_7_2 => ?_) (fun c_7_2 => ?_)
      · -- taken
        exact False.elim (by omega)
      · -- not taken
        refine r_lload_n X 1 d_Si_fits_10 rfl rfl ?_
        refine r_aload_n X 0 d_Si_fits_11 rfl rfl ?_
        refine r_get X f_Si_9 b_86 e_86 (v := .ref (ads o (87))) rfl d_Si_fits_12 ?_
        refine r_iload_n X 2 d_Si_fits_15 rfl rfl ?_
        refine r_lald X (v := ml 87 i) b_87 e_87 (Nat.le_of_ble_eq_true rfl) (by omega) rfl d_Si_fits_16 ?_
        refine r_callN X (m_Nm_distanceOf l o mi ml x (ml 87 i)) ok_Nm_distanceOf (host := "NearMarks") (by decide +kernel) rfl ⟨Nat.le_of_ble_eq_true rfl, Nat.le_of_ble_eq_true rfl⟩ (rest := []) rfl (Nat.le_of_ble_eq_true rfl) d_Si_fits_17 ?_
        refine kD (st' := [.int (nI (ds x (ml 87 i)))]) rfl ?_
        refine r_aload_n X 0 d_Si_fits_20 rfl rfl ?_
        refine r_get X f_Si_15 b_86 e_86 (v := .ref (ads o (88))) rfl d_Si_fits_21 ?_
        refine r_iload_n X 2 d_Si_fits_24 rfl rfl ?_
        refine r_iald X (v := (mi 88 i)) b_88 e_88 (Nat.le_of_ble_eq_true rfl) (by omega) rfl d_Si_fits_25 ?_
        refine r_iceq X (tgt := 31) (c := (nI (ds x (ml 87 i))) = (mi 88 i)) d_Si_fits_26 (by decide) (Iff.rfl) (fun c_26 => ?_) (fun c_26 => ?_)
        · -- taken
          refine r_iinc X 2 (v := nI (i + 1)) [(3, .int (nI (i + 1))), (0, .ref (ads o (86))), (1, .long (x))] d_Si_fits_31 rfl (nI_add _ 1) (Nat.le_of_ble_eq_true rfl) rfl ?_
          refine r_goto X (tgt := 2) d_Si_fits_34 (by decide) ?_
          refine V.wk [1, 2, 0] (V.eq (ih_L2_1 (i + 1) (by omega) (by simp_all [alB])) ?_ ?_ ?_ rfl) (rfl : lv_pick _ [1, 2, 0] = [(0, .ref (ads o (86))), (1, .long (x)), (3, .int (nI (i + 1)))])
          · rfl
          · rfl
          · first | rfl | (simp_all [ct, lastB, alB, fromB]; done)
        · -- not taken
          refine r_iconst X (v := nI (0)) d_Si_fits_29 (by decide) ?_
          refine r_end_z X (rfl) d_Si_fits_30 ?_
          refine ⟨?_, rfl, rfl⟩; rw [show cb x (ml 87) (mi 88) s = false from alB_no (i := i + 1) (by simp_all [alB]) (by omega)]; rfl
  refine V.wk [1, 2, 0] (V.eq (L2_1 (s - 0) 0 (by omega) (rfl)) ?_ ?_ ?_ rfl) (rfl : lv_pick _ [1, 2, 0] = [(0, .ref (ads o (86))), (1, .long (x)), (3, .int (nI (0)))])
  · rfl
  · rfl
  · rfl

set_option maxHeartbeats 4000000 in
set_option maxRecDepth 100000 in
theorem m_Si_fitting (l : Launch) (o : OM) (mi : MI) (ml : ML) (n : Nat) (s : Nat) (hn : mi 1 2 = nI n) (hn40 : n ≤ 40) (hs : mi 86 3 = nI s) (hs6 : s ≤ 6) : ConD l y_Si_fitting c_Si_fitting 5 (some .long) 3 67 o [.ref (ads o (86)), .ref (ads o (1))] mi ml (some (.long (stB (fun k => cb (ml 2 k) (ml 87) (mi 88) s) n))) mi ml := by
  refine Con.mk (by decide) (Nat.le_of_ble_eq_true rfl) (fun γ X => ?_)
  show V γ o 5 mi ml 0 [(0, .ref (ads o (86))), (1, .ref (ads o (1)))] []
  refine r_lconst X (v := 0) d_Si_fitting_0 (by decide) ?_
  refine r_lstore_n X [(2, .long (0)), (0, .ref (ads o (86))), (1, .ref (ads o (1)))] d_Si_fitting_1 rfl (Nat.le_of_ble_eq_true rfl) rfl ?_
  refine r_iconst X (v := nI (0)) d_Si_fitting_2 (by decide) ?_
  refine r_istore X [(4, .int (nI (0))), (2, .long (0)), (0, .ref (ads o (86))), (1, .ref (ads o (1)))] d_Si_fitting_3 (Nat.le_of_ble_eq_true rfl) rfl ?_
  have L5_1 : ∀ (d_i i : Nat), i + d_i = n → V γ o 5 mi ml 5 [(0, .ref (ads o (86))), (1, .ref (ads o (1))), (2, .long (stB (fun k => cb (ml 2 k) (ml 87) (mi 88) s) (i))), (4, .int (nI (i)))] [] := by
    intro d_i
    induction d_i with
    | zero =>
      intro i hi_L5_1 
      have he_L5_1 : n = i := by omega
      subst he_L5_1
      refine r_iload X 3 d_Si_fitting_5 rfl ?_
      refine r_aload_n X 1 d_Si_fitting_7 rfl rfl ?_
      refine r_get X f_Si_30 b_1 e_1 (v := .int (nI (n))) (congrArg (fun z => some (Value.int z)) (hn)) d_Si_fitting_8 ?_
      refine r_icge X (tgt := 41) (c := n ≤ n) d_Si_fitting_11 (by decide) (nI_leI (by omega) (by omega)) (fun c_11 => ?_) (fun c_11 => ?_)
      · -- taken
        refine r_lload_n X 2 d_Si_fitting_41 rfl rfl ?_
        refine r_end_l X d_Si_fitting_42 ?_
        first | exact ⟨rfl, rfl, rfl⟩ | (refine ⟨?_, rfl, rfl⟩; simp_all)
      · -- not taken
        exact False.elim (by omega)
    | succ d_i ih_L5_1 =>
      intro i hi_L5_1 
      have hlt_L5_1 : i < n := by omega
      refine r_iload X 3 d_Si_fitting_5 rfl ?_
      refine r_aload_n X 1 d_Si_fitting_7 rfl rfl ?_
      refine r_get X f_Si_30 b_1 e_1 (v := .int (nI (n))) (congrArg (fun z => some (Value.int z)) (hn)) d_Si_fitting_8 ?_
      refine r_icge X (tgt := 41) (c := n ≤ i) d_Si_fitting_11 (by decide) (nI_leI (by omega) (by omega)) (fun c_11_2 => ?_) (fun c_11_2 => ?_)
      · -- taken
        exact False.elim (by omega)
      · -- not taken
        refine r_aload_n X 0 d_Si_fitting_14 rfl rfl ?_
        refine r_aload_n X 1 d_Si_fitting_15 rfl rfl ?_
        refine r_get X f_Si_33 b_1 e_1 (v := .ref (ads o (2))) rfl d_Si_fitting_16 ?_
        refine r_iload X 3 d_Si_fitting_19 rfl ?_
        refine r_lald X (v := ml 2 i) b_2 e_2 (Nat.le_of_ble_eq_true rfl) (by omega) rfl d_Si_fitting_21 ?_
        refine r_callV X (m_Si_fits l o mi ml (ml 2 i) s (hs) hs6) ok_Si_fits w_Si_36 rfl b_86 e_86 rfl ⟨Nat.le_of_ble_eq_true rfl, Nat.le_of_ble_eq_true rfl⟩ (rest := []) rfl (Nat.le_of_ble_eq_true rfl) d_Si_fitting_22 ?_
        refine kD (st' := [.int (bI (cb (ml 2 i) (ml 87) (mi 88) s))]) rfl ?_
        refine r_ifeqB X (tgt := 35) (b := cb (ml 2 i) (ml 87) (mi 88) s) d_Si_fitting_25 (by decide) (fun c_25 => ?_) (fun c_25 => ?_)
        · -- taken
          refine r_iinc X 3 (v := nI (i + 1)) [(4, .int (nI (i + 1))), (0, .ref (ads o (86))), (1, .ref (ads o (1))), (2, .long (stB (fun k => cb (ml 2 k) (ml 87) (mi 88) s) (i)))] d_Si_fitting_35 rfl (nI_add _ 1) (Nat.le_of_ble_eq_true rfl) rfl ?_
          refine r_goto X (tgt := 5) d_Si_fitting_38 (by decide) ?_
          refine V.wk [1, 2, 3, 0] (V.eq (ih_L5_1 (i + 1) (by omega) ) ?_ ?_ ?_ rfl) (rfl : lv_pick _ [1, 2, 3, 0] = [(0, .ref (ads o (86))), (1, .ref (ads o (1))), (2, .long (stB (fun k => cb (ml 2 k) (ml 87) (mi 88) s) (i))), (4, .int (nI (i + 1)))])
          · rfl
          · rfl
          · first | (rw [stB_y (by assumption)]; done) | (rw [stB_n (by assumption)]; done) | (rw [stB_y] <;> simp_all; done) | (rw [stB_n] <;> simp_all; done)
        · -- not taken
          refine r_lload_n X 2 d_Si_fitting_28 rfl rfl ?_
          refine r_lconst X (v := 1) d_Si_fitting_29 (by decide) ?_
          refine r_iload X 3 d_Si_fitting_30 rfl ?_
          refine r_lshl X (v := shl (1) (i)) d_Si_fitting_32 (rfl) ?_
          refine r_lor X (v := (stB (fun k => cb (ml 2 k) (ml 87) (mi 88) s) (i)) ||| (shl (1) (i))) d_Si_fitting_33 (rfl) ?_
          refine r_lstore_n X [(2, .long ((stB (fun k => cb (ml 2 k) (ml 87) (mi 88) s) (i)) ||| (shl (1) (i)))), (0, .ref (ads o (86))), (1, .ref (ads o (1))), (4, .int (nI (i)))] d_Si_fitting_34 rfl (Nat.le_of_ble_eq_true rfl) rfl ?_
          refine r_iinc X 3 (v := nI (i + 1)) [(4, .int (nI (i + 1))), (2, .long ((stB (fun k => cb (ml 2 k) (ml 87) (mi 88) s) (i)) ||| (shl (1) (i)))), (0, .ref (ads o (86))), (1, .ref (ads o (1)))] d_Si_fitting_35 rfl (nI_add _ 1) (Nat.le_of_ble_eq_true rfl) rfl ?_
          refine r_goto X (tgt := 5) d_Si_fitting_38 (by decide) ?_
          refine V.wk [2, 3, 1, 0] (V.eq (ih_L5_1 (i + 1) (by omega) ) ?_ ?_ ?_ rfl) (rfl : lv_pick _ [2, 3, 1, 0] = [(0, .ref (ads o (86))), (1, .ref (ads o (1))), (2, .long ((stB (fun k => cb (ml 2 k) (ml 87) (mi 88) s) (i)) ||| (shl (1) (i)))), (4, .int (nI (i + 1)))])
          · rfl
          · rfl
          · first | (rw [stB_y (by assumption)]; done) | (rw [stB_n (by assumption)]; done) | (rw [stB_y] <;> simp_all; done) | (rw [stB_n] <;> simp_all; done)
  refine V.wk [2, 3, 1, 0] (V.eq (L5_1 (n - 0) 0 (by omega) ) ?_ ?_ ?_ rfl) (rfl : lv_pick _ [2, 3, 1, 0] = [(0, .ref (ads o (86))), (1, .ref (ads o (1))), (2, .long (0)), (4, .int (nI (0)))])
  · rfl
  · rfl
  · rfl

set_option maxHeartbeats 4000000 in
set_option maxRecDepth 100000 in
theorem m_Si_leastFitting (l : Launch) (o : OM) (mi : MI) (ml : ML) (n : Nat) (s : Nat) (hn : mi 1 2 = nI n) (hn40 : n ≤ 40) (hs : mi 86 3 = nI s) (hs6 : s ≤ 6) : ConD l y_Si_leastFitting c_Si_leastFitting 2 (some .int) 4 91 o [.ref (ads o (86)), .ref (ads o (1))] mi ml (some (.int ((fromB (bt (stB (fun k => cb (ml 2 k) (ml 87) (mi 88) s) n)) 64 0)))) mi ml := by
  refine Con.mk (by decide) (Nat.le_of_ble_eq_true rfl) (fun γ X => ?_)
  show V γ o 2 mi ml 0 [(0, .ref (ads o (86))), (1, .ref (ads o (1)))] []
  refine r_aload_n X 0 d_Si_leastFitting_0 rfl rfl ?_
  refine r_aload_n X 1 d_Si_leastFitting_1 rfl rfl ?_
  refine r_callV X (m_Si_fitting l o mi ml n s (hn) hn40 (hs) hs6) ok_Si_fitting w_Si_40 rfl b_86 e_86 rfl ⟨Nat.le_of_ble_eq_true rfl, Nat.le_of_ble_eq_true rfl⟩ (rest := []) rfl (Nat.le_of_ble_eq_true rfl) d_Si_leastFitting_2 ?_
  refine kD (st' := [.long (stB (fun k => cb (ml 2 k) (ml 87) (mi 88) s) n)]) rfl ?_
  refine r_callN X (m_Nm_leastOf l o mi ml (stB (fun k => cb (ml 2 k) (ml 87) (mi 88) s) n)) ok_Nm_leastOf (host := "NearMarks") (by decide +kernel) rfl ⟨Nat.le_of_ble_eq_true rfl, Nat.le_of_ble_eq_true rfl⟩ (rest := []) rfl (Nat.le_of_ble_eq_true rfl) d_Si_leastFitting_5 ?_
  refine kD (st' := [.int ((fromB (bt (stB (fun k => cb (ml 2 k) (ml 87) (mi 88) s) n)) 64 0))]) rfl ?_
  refine r_end_i X d_Si_leastFitting_8 ?_
  first | exact ⟨rfl, rfl, rfl⟩ | (refine ⟨?_, rfl, rfl⟩; simp_all)

set_option maxHeartbeats 4000000 in
set_option maxRecDepth 100000 in
theorem m_Si_greatestLeft (l : Launch) (o : OM) (mi : MI) (ml : ML) (x : Int64) (k : Nat) (n : Nat) (hn : mi 1 2 = nI n) (hn40 : n ≤ 40) (hk : k < n) : Con l y_Si_greatestLeft c_Si_greatestLeft 8 (some .int) 3 66 o [.ref (ads o (86)), .ref (ads o (1)), .long (x), .int (nI (k))] mi ml (fun v m z => v = some (.int (nI (mstC (fun q => ds (ml 2 q) (ml 2 k)) (bt x) n))) ∧ (∀ q, q ≠ 89 → m q = mi q) ∧ z = ml) := by
  refine Con.mk (by decide) (Nat.le_of_ble_eq_true rfl) (fun γ X => ?_)
  show V γ o 8 mi ml 0 [(0, .ref (ads o (86))), (1, .ref (ads o (1))), (2, .long (x)), (4, .int (nI (k)))] []
  refine r_iconst X (v := nI (0)) d_Si_greatestLeft_0 (by decide) ?_
  refine r_istore X [(5, .int (nI (0))), (0, .ref (ads o (86))), (1, .ref (ads o (1))), (2, .long (x)), (4, .int (nI (k)))] d_Si_greatestLeft_1 (Nat.le_of_ble_eq_true rfl) rfl ?_
  have L3_1 : ∀ (d_t t : Nat), t + d_t = 65 → ∀ (mi_L3_1 : MI), (∀ q, q ≠ 89 → mi_L3_1 q = mi q) → (∀ q, q < t → mi_L3_1 89 q = nI 0) → V γ o 8 mi_L3_1 ml 3 [(0, .ref (ads o (86))), (1, .ref (ads o (1))), (2, .long (x)), (4, .int (nI (k))), (5, .int (nI (t)))] [] := by
    intro d_t
    induction d_t with
    | zero =>
      intro t hi_L3_1 mi_L3_1 hf1 hz1
      have he_L3_1 : 65 = t := by omega
      subst he_L3_1
      refine r_iload X 4 d_Si_greatestLeft_3 rfl ?_
      refine r_bipush X (v := nI (64)) d_Si_greatestLeft_5 (by decide) ?_
      refine r_icgt X (tgt := 24) (c := 64 < 65) d_Si_greatestLeft_7 (by decide) (nI_ltI (Nat.le_of_ble_eq_true rfl) (by omega)) (fun c_7 => ?_) (fun c_7 => ?_)
      · -- taken
        refine r_iconst X (v := nI (0)) d_Si_greatestLeft_24 (by decide) ?_
        refine r_istore X [(5, .int (nI (0))), (0, .ref (ads o (86))), (1, .ref (ads o (1))), (2, .long (x)), (4, .int (nI (k)))] d_Si_greatestLeft_25 (Nat.le_of_ble_eq_true rfl) rfl ?_
        refine r_iconst X (v := nI (0)) d_Si_greatestLeft_27 (by decide) ?_
        refine r_istore X [(6, .int (nI (0))), (5, .int (nI (0))), (0, .ref (ads o (86))), (1, .ref (ads o (1))), (2, .long (x)), (4, .int (nI (k)))] d_Si_greatestLeft_28 (Nat.le_of_ble_eq_true rfl) rfl ?_
        have L30_2 : ∀ (d_j j : Nat), j + d_j = n → ∀ (mi_L30_2 : MI), (∀ q, q ≠ 89 → mi_L30_2 q = mi q) → (∀ t, t < 65 → mi_L30_2 89 t = nI (cn (fun q => ds (ml 2 q) (ml 2 k)) (bt x) t (j))) → V γ o 8 mi_L30_2 ml 30 [(0, .ref (ads o (86))), (1, .ref (ads o (1))), (2, .long (x)), (4, .int (nI (k))), (5, .int (nI (mstC (fun q => ds (ml 2 q) (ml 2 k)) (bt x) (j)))), (6, .int (nI (j)))] [] := by
          intro d_j
          induction d_j with
          | zero =>
            intro j hi_L30_2 mi_L30_2 hf2 hc2
            have he_L30_2 : n = j := by omega
            subst he_L30_2
            refine r_iload X 5 d_Si_greatestLeft_30 rfl ?_
            refine r_aload_n X 1 d_Si_greatestLeft_32 rfl rfl ?_
            refine r_get X f_Si_30 b_1 e_1 (v := .int (nI (n))) (congrArg (fun z => some (Value.int z)) ((by rw [hf2 1 (by decide)]; exact hn))) d_Si_greatestLeft_33 ?_
            refine r_icge X (tgt := 89) (c := n ≤ n) d_Si_greatestLeft_36 (by decide) (nI_leI (by omega) (by omega)) (fun c_36 => ?_) (fun c_36 => ?_)
            · -- taken
              refine r_iload X 4 d_Si_greatestLeft_89 rfl ?_
              refine r_end_i X d_Si_greatestLeft_91 ?_
              exact ⟨rfl, hf2, rfl⟩
            · -- not taken
              exact False.elim (by omega)
          | succ d_j ih_L30_2 =>
            intro j hi_L30_2 mi_L30_2 hf2 hc2
            have hlt_L30_2 : j < n := by omega
            have hm := mstC_le (fun q => ds (ml 2 q) (ml 2 k)) (bt x) j
            have hcn := cn_le (fun q => ds (ml 2 q) (ml 2 k)) (bt x) (ds (ml 2 j) (ml 2 k)) j
            refine r_iload X 5 d_Si_greatestLeft_30 rfl ?_
            refine r_aload_n X 1 d_Si_greatestLeft_32 rfl rfl ?_
            refine r_get X f_Si_30 b_1 e_1 (v := .int (nI (n))) (congrArg (fun z => some (Value.int z)) ((by rw [hf2 1 (by decide)]; exact hn))) d_Si_greatestLeft_33 ?_
            refine r_icge X (tgt := 89) (c := n ≤ j) d_Si_greatestLeft_36 (by decide) (nI_leI (by omega) (by omega)) (fun c_36_3 => ?_) (fun c_36_3 => ?_)
            · -- taken
              exact False.elim (by omega)
            · -- not taken
              refine r_lload_n X 2 d_Si_greatestLeft_39 rfl rfl ?_
              refine r_iload X 5 d_Si_greatestLeft_40 rfl ?_
              refine r_callN X (m_Nm_hasBit l o mi_L30_2 ml x j (by omega)) ok_Nm_hasBit (host := "NearMarks") (by decide +kernel) rfl ⟨Nat.le_of_ble_eq_true rfl, Nat.le_of_ble_eq_true rfl⟩ (rest := []) rfl (Nat.le_of_ble_eq_true rfl) d_Si_greatestLeft_42 ?_
              refine kD (st' := [.int (bI (bt x j))]) rfl ?_
              refine r_ifeqB X (tgt := 83) (b := bt x j) d_Si_greatestLeft_45 (by decide) (fun c_45 => ?_) (fun c_45 => ?_)
              · -- taken
                refine r_iinc X 5 (v := nI (j + 1)) [(6, .int (nI (j + 1))), (0, .ref (ads o (86))), (1, .ref (ads o (1))), (2, .long (x)), (4, .int (nI (k))), (5, .int (nI (mstC (fun q => ds (ml 2 q) (ml 2 k)) (bt x) (j))))] d_Si_greatestLeft_83 rfl (nI_add _ 1) (Nat.le_of_ble_eq_true rfl) rfl ?_
                refine r_goto X (tgt := 30) d_Si_greatestLeft_86 (by decide) ?_
                refine V.wk [1, 2, 3, 4, 5, 0] (V.eq (ih_L30_2 (j + 1) (by omega) (mi_L30_2) (fun q hq => by first | exact hf2 q hq | (rw [u2_n _ _ _ hq]; exact hf2 q hq)) (by first | exact cn_noA (by assumption) hc2 | exact cn_yesA (by assumption) rfl hc2)) ?_ ?_ ?_ rfl) (rfl : lv_pick _ [1, 2, 3, 4, 5, 0] = [(0, .ref (ads o (86))), (1, .ref (ads o (1))), (2, .long (x)), (4, .int (nI (k))), (5, .int (nI (mstC (fun q => ds (ml 2 q) (ml 2 k)) (bt x) (j)))), (6, .int (nI (j + 1)))])
                · rfl
                · rfl
                · first | (rw [mstC_y (by assumption)]; first | done | rfl) | (rw [mstC_n (by assumption)]; first | done | rfl)
              · -- not taken
                refine r_aload_n X 1 d_Si_greatestLeft_48 rfl rfl ?_
                refine r_iload X 5 d_Si_greatestLeft_49 rfl ?_
                refine r_iload X 3 d_Si_greatestLeft_51 rfl ?_
                refine r_callV X (m_St_between l o mi_L30_2 ml 1 j k isSt.now (by omega) (by omega)) ok_St_between w_Si_61 rfl b_1 e_1 rfl ⟨Nat.le_of_ble_eq_true rfl, Nat.le_of_ble_eq_true rfl⟩ (rest := []) rfl (Nat.le_of_ble_eq_true rfl) d_Si_greatestLeft_53 ?_
                refine kD (st' := [.int (nI (ds (ml 2 j) (ml 2 k)))]) rfl ?_
                refine r_istore X [(7, .int (nI (ds (ml 2 j) (ml 2 k)))), (0, .ref (ads o (86))), (1, .ref (ads o (1))), (2, .long (x)), (4, .int (nI (k))), (5, .int (nI (mstC (fun q => ds (ml 2 q) (ml 2 k)) (bt x) (j)))), (6, .int (nI (j)))] d_Si_greatestLeft_56 (Nat.le_of_ble_eq_true rfl) rfl ?_
                refine r_aload_n X 1 d_Si_greatestLeft_58 rfl rfl ?_
                refine r_get X f_Si_19 b_86 e_86 (v := .ref (ads o (89))) rfl d_Si_greatestLeft_59 ?_
                refine r_iload X 0 d_Si_greatestLeft_62 rfl ?_
                refine r_dup2_11 X d_Si_greatestLeft_64 rfl rfl ?_
                refine r_iald X (v := nI (cn (fun q => ds (ml 2 q) (ml 2 k)) (bt x) (ds (ml 2 j) (ml 2 k)) j)) b_89 e_89 (Nat.le_of_ble_eq_true rfl) (Nat.lt_succ_of_le (ds_le _ _)) (hc2 _ (Nat.lt_succ_of_le (ds_le _ _))) d_Si_greatestLeft_65 ?_
                refine r_iconst X (v := nI (1)) d_Si_greatestLeft_66 (by decide) ?_
                refine r_iadd X (v := nI (cn (fun q => ds (ml 2 q) (ml 2 k)) (bt x) (ds (ml 2 j) (ml 2 k)) j + 1)) d_Si_greatestLeft_67 (nI_add _ _) ?_
                refine r_iast X b_89 e_89 (Nat.le_of_ble_eq_true rfl) (Nat.lt_succ_of_le (ds_le _ _)) d_Si_greatestLeft_68 ?_
                refine r_iload X 5 d_Si_greatestLeft_69 rfl ?_
                refine r_aload_n X 1 d_Si_greatestLeft_71 rfl rfl ?_
                refine r_get X f_Si_19 b_86 e_86 (v := .ref (ads o (89))) rfl d_Si_greatestLeft_72 ?_
                refine r_iload X 0 d_Si_greatestLeft_75 rfl ?_
                refine r_iald X (v := nI (cn (fun q => ds (ml 2 q) (ml 2 k)) (bt x) (ds (ml 2 j) (ml 2 k)) j + 1)) b_89 e_89 (Nat.le_of_ble_eq_true rfl) (Nat.lt_succ_of_le (ds_le _ _)) ((by rw [u2_s, uf_s])) d_Si_greatestLeft_77 ?_
                refine r_max X (by omega) (by omega) w_Si_65 (Nat.le_of_ble_eq_true rfl) (Nat.le_of_ble_eq_true rfl) d_Si_greatestLeft_78 ?_
                refine r_istore X [(5, .int (nI (if decide ((mstC (fun q => ds (ml 2 q) (ml 2 k)) (bt x) (j)) < (cn (fun q => ds (ml 2 q) (ml 2 k)) (bt x) (ds (ml 2 j) (ml 2 k)) j + 1)) then cn (fun q => ds (ml 2 q) (ml 2 k)) (bt x) (ds (ml 2 j) (ml 2 k)) j + 1 else mstC (fun q => ds (ml 2 q) (ml 2 k)) (bt x) (j)))), (7, .int (nI (ds (ml 2 j) (ml 2 k)))), (0, .ref (ads o (86))), (1, .ref (ads o (1))), (2, .long (x)), (4, .int (nI (k))), (6, .int (nI (j)))] d_Si_greatestLeft_81 (Nat.le_of_ble_eq_true rfl) rfl ?_
                refine r_iinc X 6 (v := nI (j + 1)) [(6, .int (nI (j + 1))), (5, .int (nI (if decide ((mstC (fun q => ds (ml 2 q) (ml 2 k)) (bt x) (j)) < (cn (fun q => ds (ml 2 q) (ml 2 k)) (bt x) (ds (ml 2 j) (ml 2 k)) j + 1)) then cn (fun q => ds (ml 2 q) (ml 2 k)) (bt x) (ds (ml 2 j) (ml 2 k)) j + 1 else mstC (fun q => ds (ml 2 q) (ml 2 k)) (bt x) (j)))), (7, .int (nI (ds (ml 2 j) (ml 2 k)))), (0, .ref (ads o (86))), (1, .ref (ads o (1))), (2, .long (x)), (4, .int (nI (k)))] d_Si_greatestLeft_83 rfl (nI_add _ 1) (Nat.le_of_ble_eq_true rfl) rfl ?_
                refine r_goto X (tgt := 30) d_Si_greatestLeft_86 (by decide) ?_
                refine V.wk [3, 4, 5, 6, 1, 0] (V.eq (ih_L30_2 (j + 1) (by omega) ((u2 mi_L30_2 89 (ds (ml 2 j) (ml 2 k)) (nI (cn (fun q => ds (ml 2 q) (ml 2 k)) (bt x) (ds (ml 2 j) (ml 2 k)) j + 1)))) (fun q hq => by first | exact hf2 q hq | (rw [u2_n _ _ _ hq]; exact hf2 q hq)) (by first | exact cn_noA (by assumption) hc2 | exact cn_yesA (by assumption) rfl hc2)) ?_ ?_ ?_ rfl) (rfl : lv_pick _ [3, 4, 5, 6, 1, 0] = [(0, .ref (ads o (86))), (1, .ref (ads o (1))), (2, .long (x)), (4, .int (nI (k))), (5, .int (nI (if decide ((mstC (fun q => ds (ml 2 q) (ml 2 k)) (bt x) (j)) < (cn (fun q => ds (ml 2 q) (ml 2 k)) (bt x) (ds (ml 2 j) (ml 2 k)) j + 1)) then cn (fun q => ds (ml 2 q) (ml 2 k)) (bt x) (ds (ml 2 j) (ml 2 k)) j + 1 else mstC (fun q => ds (ml 2 q) (ml 2 k)) (bt x) (j)))), (6, .int (nI (j + 1)))])
                · rfl
                · rfl
                · first | (rw [mstC_y (by assumption)]; first | done | rfl) | (rw [mstC_n (by assumption)]; first | done | rfl)
        refine V.wk [2, 3, 4, 5, 1, 0] (V.eq (L30_2 (n - 0) 0 (by omega) (mi_L3_1) (hf1) (fun t ht => hz1 t ht)) ?_ ?_ ?_ rfl) (rfl : lv_pick _ [2, 3, 4, 5, 1, 0] = [(0, .ref (ads o (86))), (1, .ref (ads o (1))), (2, .long (x)), (4, .int (nI (k))), (5, .int (nI (0))), (6, .int (nI (0)))])
        · rfl
        · rfl
        · rfl
      · -- not taken
        exact False.elim (by omega)
    | succ d_t ih_L3_1 =>
      intro t hi_L3_1 mi_L3_1 hf1 hz1
      have hlt_L3_1 : t < 65 := by omega
      refine r_iload X 4 d_Si_greatestLeft_3 rfl ?_
      refine r_bipush X (v := nI (64)) d_Si_greatestLeft_5 (by decide) ?_
      refine r_icgt X (tgt := 24) (c := 64 < t) d_Si_greatestLeft_7 (by decide) (nI_ltI (Nat.le_of_ble_eq_true rfl) (by omega)) (fun c_7_4 => ?_) (fun c_7_4 => ?_)
      · -- taken
        exact False.elim (by omega)
      · -- not taken
        refine r_aload_n X 0 d_Si_greatestLeft_10 rfl rfl ?_
        refine r_get X f_Si_19 b_86 e_86 (v := .ref (ads o (89))) rfl d_Si_greatestLeft_11 ?_
        refine r_iload X 4 d_Si_greatestLeft_14 rfl ?_
        refine r_iconst X (v := nI (0)) d_Si_greatestLeft_16 (by decide) ?_
        refine r_iast X b_89 e_89 (Nat.le_of_ble_eq_true rfl) (by omega) d_Si_greatestLeft_17 ?_
        refine r_iinc X 4 (v := nI (t + 1)) [(5, .int (nI (t + 1))), (0, .ref (ads o (86))), (1, .ref (ads o (1))), (2, .long (x)), (4, .int (nI (k)))] d_Si_greatestLeft_18 rfl (nI_add _ 1) (Nat.le_of_ble_eq_true rfl) rfl ?_
        refine r_goto X (tgt := 3) d_Si_greatestLeft_21 (by decide) ?_
        refine V.wk [1, 2, 3, 4, 0] (V.eq (ih_L3_1 (t + 1) (by omega) ((u2 mi_L3_1 89 t (nI (0)))) (fun q hq => by rw [u2_n _ _ _ hq]; exact hf1 q hq) (zf_step hz1)) ?_ ?_ ?_ rfl) (rfl : lv_pick _ [1, 2, 3, 4, 0] = [(0, .ref (ads o (86))), (1, .ref (ads o (1))), (2, .long (x)), (4, .int (nI (k))), (5, .int (nI (t + 1)))])
        · rfl
        · rfl
        · first | rfl | (simp_all [ct, lastB, alB, fromB]; done)
  refine V.wk [1, 2, 3, 4, 0] (V.eq (L3_1 (65 - 0) 0 (by omega) (mi) (fun _ _ => rfl) (fun q hq => absurd hq (by omega))) ?_ ?_ ?_ rfl) (rfl : lv_pick _ [1, 2, 3, 4, 0] = [(0, .ref (ads o (86))), (1, .ref (ads o (1))), (2, .long (x)), (4, .int (nI (k))), (5, .int (nI (0)))])
  · rfl
  · rfl
  · rfl

set_option maxHeartbeats 4000000 in
set_option maxRecDepth 100000 in
theorem m_Si_bestToAsk (l : Launch) (o : OM) (mi : MI) (ml : ML) (n : Nat) (s : Nat) (hn : mi 1 2 = nI n) (hn40 : n ≤ 40) (hs : mi 86 3 = nI s) (hs6 : s ≤ 6) : Con l y_Si_bestToAsk c_Si_bestToAsk 8 (some .int) 4 93 o [.ref (ads o (86)), .ref (ads o (1))] mi ml (fun v m z => v = some (.int (askS (fun k => mstC (fun q => ds (ml 2 q) (ml 2 k)) (bt (stB (fun k => cb (ml 2 k) (ml 87) (mi 88) s) n)) n) (pop (stB (fun k => cb (ml 2 k) (ml 87) (mi 88) s) n)) (n)).2) ∧ (∀ q, q ≠ 89 → m q = mi q) ∧ z = ml) := by
  refine Con.mk (by decide) (Nat.le_of_ble_eq_true rfl) (fun γ X => ?_)
  show V γ o 8 mi ml 0 [(0, .ref (ads o (86))), (1, .ref (ads o (1)))] []
  refine r_aload_n X 0 d_Si_bestToAsk_0 rfl rfl ?_
  refine r_aload_n X 1 d_Si_bestToAsk_1 rfl rfl ?_
  refine r_callV X (m_Si_fitting l o mi ml n s (hn) hn40 (hs) hs6) ok_Si_fitting w_Si_40 rfl b_86 e_86 rfl ⟨Nat.le_of_ble_eq_true rfl, Nat.le_of_ble_eq_true rfl⟩ (rest := []) rfl (Nat.le_of_ble_eq_true rfl) d_Si_bestToAsk_2 ?_
  refine kD (st' := [.long (stB (fun k => cb (ml 2 k) (ml 87) (mi 88) s) n)]) rfl ?_
  refine r_lstore_n X [(2, .long (stB (fun k => cb (ml 2 k) (ml 87) (mi 88) s) n)), (0, .ref (ads o (86))), (1, .ref (ads o (1)))] d_Si_bestToAsk_5 rfl (Nat.le_of_ble_eq_true rfl) rfl ?_
  refine r_lload_n X 0 d_Si_bestToAsk_6 rfl rfl ?_
  refine r_callS X (m_Lg_bitCount l o mi ml (stB (fun k => cb (ml 2 k) (ml 87) (mi 88) s) n)) ok_Lg_bitCount w_Si_48 rfl ⟨Nat.le_of_ble_eq_true rfl, Nat.le_of_ble_eq_true rfl⟩ (rest := []) rfl (Nat.le_of_ble_eq_true rfl) d_Si_bestToAsk_7 ?_
  refine kD (st' := [.int (nI (pop (stB (fun k => cb (ml 2 k) (ml 87) (mi 88) s) n)))]) rfl ?_
  refine r_istore X [(4, .int (nI (pop (stB (fun k => cb (ml 2 k) (ml 87) (mi 88) s) n)))), (2, .long (stB (fun k => cb (ml 2 k) (ml 87) (mi 88) s) n)), (0, .ref (ads o (86))), (1, .ref (ads o (1)))] d_Si_bestToAsk_10 (Nat.le_of_ble_eq_true rfl) rfl ?_
  refine r_iconst X (v := ((-1 : Int32))) d_Si_bestToAsk_12 (by decide) ?_
  refine r_istore X [(5, .int (((-1 : Int32)))), (4, .int (nI (pop (stB (fun k => cb (ml 2 k) (ml 87) (mi 88) s) n)))), (2, .long (stB (fun k => cb (ml 2 k) (ml 87) (mi 88) s) n)), (0, .ref (ads o (86))), (1, .ref (ads o (1)))] d_Si_bestToAsk_13 (Nat.le_of_ble_eq_true rfl) rfl ?_
  refine r_iconst X (v := nI (0)) d_Si_bestToAsk_15 (by decide) ?_
  refine r_istore X [(6, .int (nI (0))), (5, .int (((-1 : Int32)))), (4, .int (nI (pop (stB (fun k => cb (ml 2 k) (ml 87) (mi 88) s) n)))), (2, .long (stB (fun k => cb (ml 2 k) (ml 87) (mi 88) s) n)), (0, .ref (ads o (86))), (1, .ref (ads o (1)))] d_Si_bestToAsk_16 (Nat.le_of_ble_eq_true rfl) rfl ?_
  have L18_1 : ∀ (d_i i : Nat), i + d_i = n → ∀ (mi_L18_1 : MI), (∀ q, q ≠ 89 → mi_L18_1 q = mi q) → V γ o 8 mi_L18_1 ml 18 [(0, .ref (ads o (86))), (1, .ref (ads o (1))), (2, .long (stB (fun k => cb (ml 2 k) (ml 87) (mi 88) s) n)), (4, .int (nI ((askS (fun k => mstC (fun q => ds (ml 2 q) (ml 2 k)) (bt (stB (fun k => cb (ml 2 k) (ml 87) (mi 88) s) n)) n) (pop (stB (fun k => cb (ml 2 k) (ml 87) (mi 88) s) n)) (i)).1))), (5, .int (((askS (fun k => mstC (fun q => ds (ml 2 q) (ml 2 k)) (bt (stB (fun k => cb (ml 2 k) (ml 87) (mi 88) s) n)) n) (pop (stB (fun k => cb (ml 2 k) (ml 87) (mi 88) s) n)) (i)).2))), (6, .int (nI (i)))] [] := by
    intro d_i
    induction d_i with
    | zero =>
      intro i hi_L18_1 mi_L18_1 hf
      have he_L18_1 : n = i := by omega
      subst he_L18_1
      refine r_iload X 5 d_Si_bestToAsk_18 rfl ?_
      refine r_aload_n X 1 d_Si_bestToAsk_20 rfl rfl ?_
      refine r_get X f_Si_30 b_1 e_1 (v := .int (nI (n))) (congrArg (fun z => some (Value.int z)) ((by rw [hf 1 (by decide)]; exact hn))) d_Si_bestToAsk_21 ?_
      refine r_icge X (tgt := 58) (c := n ≤ n) d_Si_bestToAsk_24 (by decide) (nI_leI (by omega) (by omega)) (fun c_24 => ?_) (fun c_24 => ?_)
      · -- taken
        refine r_iload X 4 d_Si_bestToAsk_58 rfl ?_
        refine r_end_i X d_Si_bestToAsk_60 ?_
        exact ⟨rfl, hf, rfl⟩
      · -- not taken
        exact False.elim (by omega)
    | succ d_i ih_L18_1 =>
      intro i hi_L18_1 mi_L18_1 hf
      have hlt_L18_1 : i < n := by omega
      have hA := askS_le (fun k => mstC (fun q => ds (ml 2 q) (ml 2 k)) (bt (stB (fun k => cb (ml 2 k) (ml 87) (mi 88) s) n)) n) (pop (stB (fun k => cb (ml 2 k) (ml 87) (mi 88) s) n)) i
      have hp := pop_le (stB (fun k => cb (ml 2 k) (ml 87) (mi 88) s) n)
      have hmc := mstC_le (fun q => ds (ml 2 q) (ml 2 i)) (bt (stB (fun k => cb (ml 2 k) (ml 87) (mi 88) s) n)) n
      refine r_iload X 5 d_Si_bestToAsk_18 rfl ?_
      refine r_aload_n X 1 d_Si_bestToAsk_20 rfl rfl ?_
      refine r_get X f_Si_30 b_1 e_1 (v := .int (nI (n))) (congrArg (fun z => some (Value.int z)) ((by rw [hf 1 (by decide)]; exact hn))) d_Si_bestToAsk_21 ?_
      refine r_icge X (tgt := 58) (c := n ≤ i) d_Si_bestToAsk_24 (by decide) (nI_leI (by omega) (by omega)) (fun c_24_2 => ?_) (fun c_24_2 => ?_)
      · -- taken
        exact False.elim (by omega)
      · -- not taken
        refine r_aload_n X 0 d_Si_bestToAsk_27 rfl rfl ?_
        refine r_aload_n X 1 d_Si_bestToAsk_28 rfl rfl ?_
        refine r_lload_n X 2 d_Si_bestToAsk_29 rfl rfl ?_
        refine r_iload X 5 d_Si_bestToAsk_30 rfl ?_
        refine r_callV X (m_Si_greatestLeft l o mi_L18_1 ml (stB (fun k => cb (ml 2 k) (ml 87) (mi 88) s) n) i n ((by rw [hf 1 (by decide)]; exact hn)) (by omega) (by omega)) ok_Si_greatestLeft w_Si_53 rfl b_86 e_86 rfl ⟨Nat.le_of_ble_eq_true rfl, Nat.le_of_ble_eq_true rfl⟩ (rest := []) rfl (Nat.le_of_ble_eq_true rfl) d_Si_bestToAsk_32 ?_
        rintro _ mi_e3 zz ⟨rfl, hfe, hz⟩
        have hz := hz.symm
        subst hz
        show V γ o 8 mi_e3 ml 35 [(0, .ref (ads o (86))), (1, .ref (ads o (1))), (2, .long (stB (fun k => cb (ml 2 k) (ml 87) (mi 88) s) n)), (4, .int (nI ((askS (fun k => mstC (fun q => ds (ml 2 q) (ml 2 k)) (bt (stB (fun k => cb (ml 2 k) (ml 87) (mi 88) s) n)) n) (pop (stB (fun k => cb (ml 2 k) (ml 87) (mi 88) s) n)) (i)).1))), (5, .int (((askS (fun k => mstC (fun q => ds (ml 2 q) (ml 2 k)) (bt (stB (fun k => cb (ml 2 k) (ml 87) (mi 88) s) n)) n) (pop (stB (fun k => cb (ml 2 k) (ml 87) (mi 88) s) n)) (i)).2))), (6, .int (nI (i)))] [.int (nI (mstC (fun q => ds (ml 2 q) (ml 2 i)) (bt (stB (fun k => cb (ml 2 k) (ml 87) (mi 88) s) n)) n))]
        refine r_istore X [(7, .int (nI (mstC (fun q => ds (ml 2 q) (ml 2 i)) (bt (stB (fun k => cb (ml 2 k) (ml 87) (mi 88) s) n)) n))), (0, .ref (ads o (86))), (1, .ref (ads o (1))), (2, .long (stB (fun k => cb (ml 2 k) (ml 87) (mi 88) s) n)), (4, .int (nI ((askS (fun k => mstC (fun q => ds (ml 2 q) (ml 2 k)) (bt (stB (fun k => cb (ml 2 k) (ml 87) (mi 88) s) n)) n) (pop (stB (fun k => cb (ml 2 k) (ml 87) (mi 88) s) n)) (i)).1))), (5, .int (((askS (fun k => mstC (fun q => ds (ml 2 q) (ml 2 k)) (bt (stB (fun k => cb (ml 2 k) (ml 87) (mi 88) s) n)) n) (pop (stB (fun k => cb (ml 2 k) (ml 87) (mi 88) s) n)) (i)).2))), (6, .int (nI (i)))] d_Si_bestToAsk_35 (Nat.le_of_ble_eq_true rfl) rfl ?_
        refine r_iload X 0 d_Si_bestToAsk_37 rfl ?_
        refine r_iload X 4 d_Si_bestToAsk_39 rfl ?_
        refine r_icge X (tgt := 52) (c := ((askS (fun k => mstC (fun q => ds (ml 2 q) (ml 2 k)) (bt (stB (fun k => cb (ml 2 k) (ml 87) (mi 88) s) n)) n) (pop (stB (fun k => cb (ml 2 k) (ml 87) (mi 88) s) n)) (i)).1) ≤ (mstC (fun q => ds (ml 2 q) (ml 2 i)) (bt (stB (fun k => cb (ml 2 k) (ml 87) (mi 88) s) n)) n)) d_Si_bestToAsk_41 (by decide) (nI_leI (by omega) (by omega)) (fun c_41 => ?_) (fun c_41 => ?_)
        · -- taken
          refine r_iinc X 6 (v := nI (i + 1)) [(6, .int (nI (i + 1))), (7, .int (nI (mstC (fun q => ds (ml 2 q) (ml 2 i)) (bt (stB (fun k => cb (ml 2 k) (ml 87) (mi 88) s) n)) n))), (0, .ref (ads o (86))), (1, .ref (ads o (1))), (2, .long (stB (fun k => cb (ml 2 k) (ml 87) (mi 88) s) n)), (4, .int (nI ((askS (fun k => mstC (fun q => ds (ml 2 q) (ml 2 k)) (bt (stB (fun k => cb (ml 2 k) (ml 87) (mi 88) s) n)) n) (pop (stB (fun k => cb (ml 2 k) (ml 87) (mi 88) s) n)) (i)).1))), (5, .int (((askS (fun k => mstC (fun q => ds (ml 2 q) (ml 2 k)) (bt (stB (fun k => cb (ml 2 k) (ml 87) (mi 88) s) n)) n) (pop (stB (fun k => cb (ml 2 k) (ml 87) (mi 88) s) n)) (i)).2)))] d_Si_bestToAsk_52 rfl (nI_add _ 1) (Nat.le_of_ble_eq_true rfl) rfl ?_
          refine r_goto X (tgt := 18) d_Si_bestToAsk_55 (by decide) ?_
          refine V.wk [2, 3, 4, 5, 6, 0] (V.eq (ih_L18_1 (i + 1) (by omega) (mi_e3) (fun q hq => by rw [hfe q hq]; exact hf q hq)) ?_ ?_ ?_ rfl) (rfl : lv_pick _ [2, 3, 4, 5, 6, 0] = [(0, .ref (ads o (86))), (1, .ref (ads o (1))), (2, .long (stB (fun k => cb (ml 2 k) (ml 87) (mi 88) s) n)), (4, .int (nI ((askS (fun k => mstC (fun q => ds (ml 2 q) (ml 2 k)) (bt (stB (fun k => cb (ml 2 k) (ml 87) (mi 88) s) n)) n) (pop (stB (fun k => cb (ml 2 k) (ml 87) (mi 88) s) n)) (i)).1))), (5, .int (((askS (fun k => mstC (fun q => ds (ml 2 q) (ml 2 k)) (bt (stB (fun k => cb (ml 2 k) (ml 87) (mi 88) s) n)) n) (pop (stB (fun k => cb (ml 2 k) (ml 87) (mi 88) s) n)) (i)).2))), (6, .int (nI (i + 1)))])
          · rfl
          · rfl
          · first | (rw [askS_y (by assumption)]; done) | (rw [askS_n (by assumption)]; done)
        · -- not taken
          refine r_iload X 0 d_Si_bestToAsk_44 rfl ?_
          refine r_istore X [(4, .int (nI (mstC (fun q => ds (ml 2 q) (ml 2 i)) (bt (stB (fun k => cb (ml 2 k) (ml 87) (mi 88) s) n)) n))), (7, .int (nI (mstC (fun q => ds (ml 2 q) (ml 2 i)) (bt (stB (fun k => cb (ml 2 k) (ml 87) (mi 88) s) n)) n))), (0, .ref (ads o (86))), (1, .ref (ads o (1))), (2, .long (stB (fun k => cb (ml 2 k) (ml 87) (mi 88) s) n)), (5, .int (((askS (fun k => mstC (fun q => ds (ml 2 q) (ml 2 k)) (bt (stB (fun k => cb (ml 2 k) (ml 87) (mi 88) s) n)) n) (pop (stB (fun k => cb (ml 2 k) (ml 87) (mi 88) s) n)) (i)).2))), (6, .int (nI (i)))] d_Si_bestToAsk_46 (Nat.le_of_ble_eq_true rfl) rfl ?_
          refine r_iload X 6 d_Si_bestToAsk_48 rfl ?_
          refine r_istore X [(5, .int (nI (i))), (4, .int (nI (mstC (fun q => ds (ml 2 q) (ml 2 i)) (bt (stB (fun k => cb (ml 2 k) (ml 87) (mi 88) s) n)) n))), (7, .int (nI (mstC (fun q => ds (ml 2 q) (ml 2 i)) (bt (stB (fun k => cb (ml 2 k) (ml 87) (mi 88) s) n)) n))), (0, .ref (ads o (86))), (1, .ref (ads o (1))), (2, .long (stB (fun k => cb (ml 2 k) (ml 87) (mi 88) s) n)), (6, .int (nI (i)))] d_Si_bestToAsk_50 (Nat.le_of_ble_eq_true rfl) rfl ?_
          refine r_iinc X 6 (v := nI (i + 1)) [(6, .int (nI (i + 1))), (5, .int (nI (i))), (4, .int (nI (mstC (fun q => ds (ml 2 q) (ml 2 i)) (bt (stB (fun k => cb (ml 2 k) (ml 87) (mi 88) s) n)) n))), (7, .int (nI (mstC (fun q => ds (ml 2 q) (ml 2 i)) (bt (stB (fun k => cb (ml 2 k) (ml 87) (mi 88) s) n)) n))), (0, .ref (ads o (86))), (1, .ref (ads o (1))), (2, .long (stB (fun k => cb (ml 2 k) (ml 87) (mi 88) s) n))] d_Si_bestToAsk_52 rfl (nI_add _ 1) (Nat.le_of_ble_eq_true rfl) rfl ?_
          refine r_goto X (tgt := 18) d_Si_bestToAsk_55 (by decide) ?_
          refine V.wk [4, 5, 6, 2, 1, 0] (V.eq (ih_L18_1 (i + 1) (by omega) (mi_e3) (fun q hq => by rw [hfe q hq]; exact hf q hq)) ?_ ?_ ?_ rfl) (rfl : lv_pick _ [4, 5, 6, 2, 1, 0] = [(0, .ref (ads o (86))), (1, .ref (ads o (1))), (2, .long (stB (fun k => cb (ml 2 k) (ml 87) (mi 88) s) n)), (4, .int (nI (mstC (fun q => ds (ml 2 q) (ml 2 i)) (bt (stB (fun k => cb (ml 2 k) (ml 87) (mi 88) s) n)) n))), (5, .int (nI (i))), (6, .int (nI (i + 1)))])
          · rfl
          · rfl
          · first | (rw [askS_y (by assumption)]; done) | (rw [askS_n (by assumption)]; done)
  refine V.wk [4, 5, 3, 2, 1, 0] (V.eq (L18_1 (n - 0) 0 (by omega) (mi) (fun _ _ => rfl)) ?_ ?_ ?_ rfl) (rfl : lv_pick _ [4, 5, 3, 2, 1, 0] = [(0, .ref (ads o (86))), (1, .ref (ads o (1))), (2, .long (stB (fun k => cb (ml 2 k) (ml 87) (mi 88) s) n)), (4, .int (nI (pop (stB (fun k => cb (ml 2 k) (ml 87) (mi 88) s) n)))), (5, .int (((-1 : Int32)))), (6, .int (nI (0)))])
  · rfl
  · rfl
  · rfl

set_option maxHeartbeats 4000000 in
set_option maxRecDepth 100000 in
theorem m_Si_add (l : Launch) (o : OM) (mi : MI) (ml : ML) (x : Int64) (q : Nat) (s : Nat) (hs : mi 86 3 = nI s) (hs6 : s < 6) : ConD l y_Si_add c_Si_add 4 none 0 0 o [.ref (ads o (86)), .long (x), .int (nI (q))] mi ml none (u2 (u2 mi 88 s (nI q)) 86 3 (nI (s + 1))) (u2 ml 87 s x) := by
  refine Con.mk (by decide) (Nat.le_of_ble_eq_true rfl) (fun γ X => ?_)
  show V γ o 4 mi ml 0 [(0, .ref (ads o (86))), (1, .long (x)), (3, .int (nI (q)))] []
  refine r_aload_n X 0 d_Si_add_0 rfl rfl ?_
  refine r_get X f_Si_22 b_86 e_86 (v := .int (nI (s))) (congrArg (fun z => some (Value.int z)) (hs)) d_Si_add_1 ?_
  refine r_bipush X (v := nI (6)) d_Si_add_4 (by decide) ?_
  refine r_icge X (tgt := 39) (c := 6 ≤ s) d_Si_add_6 (by decide) (nI_leI (Nat.le_of_ble_eq_true rfl) (by omega)) (fun c_6 => ?_) (fun c_6 => ?_)
  · -- taken
    exact False.elim (by omega)
  · -- not taken
    refine r_aload_n X 0 d_Si_add_9 rfl rfl ?_
    refine r_get X f_Si_9 b_86 e_86 (v := .ref (ads o (87))) rfl d_Si_add_10 ?_
    refine r_aload_n X 0 d_Si_add_13 rfl rfl ?_
    refine r_get X f_Si_22 b_86 e_86 (v := .int (nI (s))) (congrArg (fun z => some (Value.int z)) (hs)) d_Si_add_14 ?_
    refine r_lload_n X 1 d_Si_add_17 rfl rfl ?_
    refine r_last X b_87 e_87 (Nat.le_of_ble_eq_true rfl) (by omega) d_Si_add_18 ?_
    refine r_aload_n X 0 d_Si_add_19 rfl rfl ?_
    refine r_get X f_Si_15 b_86 e_86 (v := .ref (ads o (88))) rfl d_Si_add_20 ?_
    refine r_aload_n X 0 d_Si_add_23 rfl rfl ?_
    refine r_get X f_Si_22 b_86 e_86 (v := .int (nI (s))) (congrArg (fun z => some (Value.int z)) (hs)) d_Si_add_24 ?_
    refine r_iload_n X 2 d_Si_add_27 rfl rfl ?_
    refine r_iast X b_88 e_88 (Nat.le_of_ble_eq_true rfl) (by omega) d_Si_add_28 ?_
    refine r_aload_n X 0 d_Si_add_29 rfl rfl ?_
    refine r_dup X d_Si_add_30 rfl ?_
    refine r_get X f_Si_22 b_86 e_86 (v := .int (nI (s))) (congrArg (fun z => some (Value.int z)) ((by rw [u2_n _ _ _ (by decide)] <;> exact hs))) d_Si_add_31 ?_
    refine r_iconst X (v := nI (1)) d_Si_add_34 (by decide) ?_
    refine r_iadd X (v := nI (s + 1)) d_Si_add_35 (nI_add _ _) ?_
    refine r_putI X fw_Si_22 b_86 e_86 (fun _ _ => rfl) (Nat.le_of_ble_eq_true rfl) d_Si_add_36 ?_
    refine r_end_v X d_Si_add_39 ?_
    exact ⟨rfl, rfl, rfl⟩

set_option maxHeartbeats 4000000 in
set_option maxRecDepth 100000 in
theorem m_Bk_isRight (l : Launch) (o : OM) (mi : MI) (ml : ML) (e : Nat) (n : Nat) (E : Nat) (B1 : Nat → Nat) (B2 : Nat → Nat) (hn : mi 1 2 = nI n) (hn40 : n ≤ 40) (hE : mi 90 3 = nI E) (hE20 : E ≤ 20) (hB1 : ∀ e, e < E → mi 91 e = nI (B1 e) ∧ B1 e < 40) (hB2 : ∀ e, e < E → mi 92 e = nI (B2 e) ∧ B2 e < 40) (he : e < E) : ConD l y_Bk_isRight c_Bk_isRight 3 (some .boolean) 3 66 o [.ref (ads o (90)), .ref (ads o (1)), .int (nI (e))] mi ml (some (.int (bI (rgC mi ml n B1 B2 e)))) mi ml := by
  refine Con.mk (by decide) (Nat.le_of_ble_eq_true rfl) (fun γ X => ?_)
  show V γ o 3 mi ml 0 [(0, .ref (ads o (90))), (1, .ref (ads o (1))), (2, .int (nI (e)))] []
  refine r_aload_n X 1 d_Bk_isRight_0 rfl rfl ?_
  refine r_aload_n X 0 d_Bk_isRight_1 rfl rfl ?_
  refine r_get X f_Bk_9 b_90 e_90 (v := .ref (ads o (91))) rfl d_Bk_isRight_2 ?_
  refine r_iload_n X 2 d_Bk_isRight_5 rfl rfl ?_
  refine r_iald X (v := nI (B1 e)) b_91 e_91 (Nat.le_of_ble_eq_true rfl) (by omega) ((hB1 _ (by omega)).1) d_Bk_isRight_6 ?_
  refine r_aload_n X 0 d_Bk_isRight_7 rfl rfl ?_
  refine r_get X f_Bk_15 b_90 e_90 (v := .ref (ads o (92))) rfl d_Bk_isRight_8 ?_
  refine r_iload_n X 2 d_Bk_isRight_11 rfl rfl ?_
  refine r_iald X (v := nI (B2 e)) b_92 e_92 (Nat.le_of_ble_eq_true rfl) (by omega) ((hB2 _ (by omega)).1) d_Bk_isRight_12 ?_
  refine r_callV X (m_St_hasBoth l o mi ml 1 (nI (B1 e)) (nI (B2 e)) n isSt.now (hn) hn40) ok_St_hasBoth w_Bk_29 rfl b_1 e_1 rfl ⟨Nat.le_of_ble_eq_true rfl, Nat.le_of_ble_eq_true rfl⟩ (rest := []) rfl (Nat.le_of_ble_eq_true rfl) d_Bk_isRight_13 ?_
  refine kD (st' := [.int (bI ((isMk n (nI (B1 e)) && (isMk n (nI (B2 e)) && !decide ((nI (B1 e)) = (nI (B2 e)))))))]) rfl ?_
  have hJ_1 : V γ o 3 mi ml 49 [(0, .ref (ads o (90))), (1, .ref (ads o (1))), (2, .int (nI (e)))] [.int (bI (((isMk n (nI (B1 e)) && (isMk n (nI (B2 e)) && !decide ((nI (B1 e)) = (nI (B2 e))))) && decide ((nI (ds (ml 2 (B1 e)) (ml 2 (B2 e)))) = (mi 93 e)))))] := by
    refine r_end_z X (bI_nar _) d_Bk_isRight_49 ?_
    first | exact ⟨rfl, rfl, rfl⟩ | (refine ⟨?_, rfl, rfl⟩; simp_all)
  refine r_ifeqB X (tgt := 48) (b := (isMk n (nI (B1 e)) && (isMk n (nI (B2 e)) && !decide ((nI (B1 e)) = (nI (B2 e)))))) d_Bk_isRight_16 (by decide) (fun c_16 => ?_) (fun c_16 => ?_)
  · -- taken
    refine r_iconst X (v := nI (0)) d_Bk_isRight_48 (by decide) ?_
    exact V.eq hJ_1 rfl rfl rfl (by rw [show (((isMk n (nI (B1 e)) && (isMk n (nI (B2 e)) && !decide ((nI (B1 e)) = (nI (B2 e))))) && decide ((nI (ds (ml 2 (B1 e)) (ml 2 (B2 e)))) = (mi 93 e)))) = false from by first | (simp only [c_16, decide_true, decide_false, Bool.not_true, Bool.not_false, Bool.true_and, Bool.false_and, Bool.and_true, Bool.and_false, Bool.true_or, Bool.false_or, Bool.or_true, Bool.or_false, if_true, if_false, ite_true, ite_false, cond_true, cond_false, Bool.false_eq_true, reduceIte]; done) | (simp [c_16]; done) | (simp_all; done)]; rfl)
  · -- not taken
    refine r_aload_n X 1 d_Bk_isRight_19 rfl rfl ?_
    refine r_aload_n X 0 d_Bk_isRight_20 rfl rfl ?_
    refine r_get X f_Bk_9 b_90 e_90 (v := .ref (ads o (91))) rfl d_Bk_isRight_21 ?_
    refine r_iload_n X 2 d_Bk_isRight_24 rfl rfl ?_
    refine r_iald X (v := nI (B1 e)) b_91 e_91 (Nat.le_of_ble_eq_true rfl) (by omega) ((hB1 _ (by omega)).1) d_Bk_isRight_25 ?_
    refine r_aload_n X 0 d_Bk_isRight_26 rfl rfl ?_
    refine r_get X f_Bk_15 b_90 e_90 (v := .ref (ads o (92))) rfl d_Bk_isRight_27 ?_
    refine r_iload_n X 2 d_Bk_isRight_30 rfl rfl ?_
    refine r_iald X (v := nI (B2 e)) b_92 e_92 (Nat.le_of_ble_eq_true rfl) (by omega) ((hB2 _ (by omega)).1) d_Bk_isRight_31 ?_
    refine r_callV X (m_St_between l o mi ml 1 (B1 e) (B2 e) isSt.now ((hB1 _ (by omega)).2) ((hB2 _ (by omega)).2)) ok_St_between w_Bk_35 rfl b_1 e_1 rfl ⟨Nat.le_of_ble_eq_true rfl, Nat.le_of_ble_eq_true rfl⟩ (rest := []) rfl (Nat.le_of_ble_eq_true rfl) d_Bk_isRight_32 ?_
    refine kD (st' := [.int (nI (ds (ml 2 (B1 e)) (ml 2 (B2 e))))]) rfl ?_
    refine r_aload_n X 0 d_Bk_isRight_35 rfl rfl ?_
    refine r_get X f_Bk_18 b_90 e_90 (v := .ref (ads o (93))) rfl d_Bk_isRight_36 ?_
    refine r_iload_n X 2 d_Bk_isRight_39 rfl rfl ?_
    refine r_iald X (v := (mi 93 e)) b_93 e_93 (Nat.le_of_ble_eq_true rfl) (by omega) rfl d_Bk_isRight_40 ?_
    refine r_icneP X (tgt := 48) (c := (nI (ds (ml 2 (B1 e)) (ml 2 (B2 e)))) = (mi 93 e)) d_Bk_isRight_41 (by decide) (Iff.rfl) (fun c_41 => ?_) (fun c_41 => ?_)
    · -- taken
      refine r_iconst X (v := nI (0)) d_Bk_isRight_48 (by decide) ?_
      exact V.eq hJ_1 rfl rfl rfl (by rw [show (((isMk n (nI (B1 e)) && (isMk n (nI (B2 e)) && !decide ((nI (B1 e)) = (nI (B2 e))))) && decide ((nI (ds (ml 2 (B1 e)) (ml 2 (B2 e)))) = (mi 93 e)))) = false from by first | (simp only [c_16, eq_false c_41, decide_true, decide_false, Bool.not_true, Bool.not_false, Bool.true_and, Bool.false_and, Bool.and_true, Bool.and_false, Bool.true_or, Bool.false_or, Bool.or_true, Bool.or_false, if_true, if_false, ite_true, ite_false, cond_true, cond_false, Bool.false_eq_true, reduceIte]; done) | (simp [c_16, c_41]; done) | (simp_all; done)]; rfl)
    · -- not taken
      refine r_iconst X (v := nI (1)) d_Bk_isRight_44 (by decide) ?_
      refine r_goto X (tgt := 49) d_Bk_isRight_45 (by decide) ?_
      exact V.eq hJ_1 rfl rfl rfl (by rw [show (((isMk n (nI (B1 e)) && (isMk n (nI (B2 e)) && !decide ((nI (B1 e)) = (nI (B2 e))))) && decide ((nI (ds (ml 2 (B1 e)) (ml 2 (B2 e)))) = (mi 93 e)))) = true from by first | (simp only [c_16, eq_true c_41, decide_true, decide_false, Bool.not_true, Bool.not_false, Bool.true_and, Bool.false_and, Bool.and_true, Bool.and_false, Bool.true_or, Bool.false_or, Bool.or_true, Bool.or_false, if_true, if_false, ite_true, ite_false, cond_true, cond_false, Bool.false_eq_true, reduceIte]; done) | (simp [c_16, c_41]; done) | (simp_all; done)]; rfl)

set_option maxHeartbeats 4000000 in
set_option maxRecDepth 100000 in
theorem m_Bk_firstWrong (l : Launch) (o : OM) (mi : MI) (ml : ML) (n : Nat) (E : Nat) (B1 : Nat → Nat) (B2 : Nat → Nat) (hn : mi 1 2 = nI n) (hn40 : n ≤ 40) (hE : mi 90 3 = nI E) (hE20 : E ≤ 20) (hB1 : ∀ e, e < E → mi 91 e = nI (B1 e) ∧ B1 e < 40) (hB2 : ∀ e, e < E → mi 92 e = nI (B2 e) ∧ B2 e < 40) : ConD l y_Bk_firstWrong c_Bk_firstWrong 3 (some .int) 4 88 o [.ref (ads o (90)), .ref (ads o (1))] mi ml (some (.int ((fromB (fun e => !rgC mi ml n B1 B2 e) E 0)))) mi ml := by
  refine Con.mk (by decide) (Nat.le_of_ble_eq_true rfl) (fun γ X => ?_)
  show V γ o 3 mi ml 0 [(0, .ref (ads o (90))), (1, .ref (ads o (1)))] []
  refine r_iconst X (v := nI (0)) d_Bk_firstWrong_0 (by decide) ?_
  refine r_istore_n X [(2, .int (nI (0))), (0, .ref (ads o (90))), (1, .ref (ads o (1)))] d_Bk_firstWrong_1 rfl (Nat.le_of_ble_eq_true rfl) rfl ?_
  have L2_1 : ∀ (d_i i : Nat), i + d_i = E → (fromB (fun e => !rgC mi ml n B1 B2 e) E 0 = fromB (fun e => !rgC mi ml n B1 B2 e) d_i (i)) → V γ o 3 mi ml 2 [(0, .ref (ads o (90))), (1, .ref (ads o (1))), (2, .int (nI (i)))] [] := by
    intro d_i
    induction d_i with
    | zero =>
      intro i hi_L2_1 hr
      have he_L2_1 : E = i := by omega
      subst he_L2_1
      refine r_iload_n X 2 d_Bk_firstWrong_2 rfl rfl ?_
      refine r_aload_n X 0 d_Bk_firstWrong_3 rfl rfl ?_
      refine r_get X f_Bk_21 b_90 e_90 (v := .int (nI (E))) (congrArg (fun z => some (Value.int z)) (hE)) d_Bk_firstWrong_4 ?_
      refine r_icge X (tgt := 27) (c := E ≤ E) d_Bk_firstWrong_7 (by decide) (nI_leI (by omega) (by omega)) (fun c_7 => ?_) (fun c_7 => ?_)
      · -- taken
        refine r_iconst X (v := ((-1 : Int32))) d_Bk_firstWrong_27 (by decide) ?_
        refine r_end_i X d_Bk_firstWrong_28 ?_
        refine ⟨?_, rfl, rfl⟩; rw [hr]; rfl
      · -- not taken
        exact False.elim (by omega)
    | succ d_i ih_L2_1 =>
      intro i hi_L2_1 hr
      have hlt_L2_1 : i < E := by omega
      refine r_iload_n X 2 d_Bk_firstWrong_2 rfl rfl ?_
      refine r_aload_n X 0 d_Bk_firstWrong_3 rfl rfl ?_
      refine r_get X f_Bk_21 b_90 e_90 (v := .int (nI (E))) (congrArg (fun z => some (Value.int z)) (hE)) d_Bk_firstWrong_4 ?_
      refine r_icge X (tgt := 27) (c := E ≤ i) d_Bk_firstWrong_7 (by decide) (nI_leI (by omega) (by omega)) (fun c_7_2 => ?_) (fun c_7_2 => ?_)
      · -- taken
        exact False.elim (by omega)
      · -- not taken
        refine r_aload_n X 0 d_Bk_firstWrong_10 rfl rfl ?_
        refine r_aload_n X 1 d_Bk_firstWrong_11 rfl rfl ?_
        refine r_iload_n X 2 d_Bk_firstWrong_12 rfl rfl ?_
        refine r_callV X (m_Bk_isRight l o mi ml i n E B1 B2 (hn) hn40 (hE) hE20 (by omega) (by omega) (by omega)) ok_Bk_isRight w_Bk_25 rfl b_90 e_90 rfl ⟨Nat.le_of_ble_eq_true rfl, Nat.le_of_ble_eq_true rfl⟩ (rest := []) rfl (Nat.le_of_ble_eq_true rfl) d_Bk_firstWrong_13 ?_
        refine kD (st' := [.int (bI (rgC mi ml n B1 B2 i))]) rfl ?_
        refine r_ifneB X (tgt := 21) (b := rgC mi ml n B1 B2 i) d_Bk_firstWrong_16 (by decide) (fun c_16 => ?_) (fun c_16 => ?_)
        · -- taken
          refine r_iinc X 2 (v := nI (i + 1)) [(2, .int (nI (i + 1))), (0, .ref (ads o (90))), (1, .ref (ads o (1)))] d_Bk_firstWrong_21 rfl (nI_add _ 1) (Nat.le_of_ble_eq_true rfl) rfl ?_
          refine r_goto X (tgt := 2) d_Bk_firstWrong_24 (by decide) ?_
          refine V.wk [1, 2, 0] (V.eq (ih_L2_1 (i + 1) (by omega) (hr.trans (fromB_miss (by simp_all)))) ?_ ?_ ?_ rfl) (rfl : lv_pick _ [1, 2, 0] = [(0, .ref (ads o (90))), (1, .ref (ads o (1))), (2, .int (nI (i + 1)))])
          · rfl
          · rfl
          · first | rfl | (simp_all [ct, lastB, alB, fromB]; done)
        · -- not taken
          refine r_iload_n X 2 d_Bk_firstWrong_19 rfl rfl ?_
          refine r_end_i X d_Bk_firstWrong_20 ?_
          refine ⟨?_, rfl, rfl⟩; exact congrArg (fun z => some (Value.int z)) (hr.trans (fromB_hit (by simp_all))).symm
  refine V.wk [1, 2, 0] (V.eq (L2_1 (E - 0) 0 (by omega) (rfl)) ?_ ?_ ?_ rfl) (rfl : lv_pick _ [1, 2, 0] = [(0, .ref (ads o (90))), (1, .ref (ads o (1))), (2, .int (nI (0)))])
  · rfl
  · rfl
  · rfl

set_option maxHeartbeats 4000000 in
set_option maxRecDepth 100000 in
theorem m_Bk_add (l : Launch) (o : OM) (mi : MI) (ml : ML) (j : Nat) (k : Nat) (q : Nat) (E : Nat) (hE : mi 90 3 = nI E) (hE20 : E < 20) : ConD l y_Bk_add c_Bk_add 4 none 0 0 o [.ref (ads o (90)), .int (nI (j)), .int (nI (k)), .int (nI (q))] mi ml none (u2 (u2 (u2 (u2 mi 91 E (nI j)) 92 E (nI k)) 93 E (nI q)) 90 3 (nI (E + 1))) ml := by
  refine Con.mk (by decide) (Nat.le_of_ble_eq_true rfl) (fun γ X => ?_)
  show V γ o 4 mi ml 0 [(0, .ref (ads o (90))), (1, .int (nI (j))), (2, .int (nI (k))), (3, .int (nI (q)))] []
  refine r_aload_n X 0 d_Bk_add_0 rfl rfl ?_
  refine r_get X f_Bk_21 b_90 e_90 (v := .int (nI (E))) (congrArg (fun z => some (Value.int z)) (hE)) d_Bk_add_1 ?_
  refine r_bipush X (v := nI (20)) d_Bk_add_4 (by decide) ?_
  refine r_icge X (tgt := 49) (c := 20 ≤ E) d_Bk_add_6 (by decide) (nI_leI (Nat.le_of_ble_eq_true rfl) (by omega)) (fun c_6 => ?_) (fun c_6 => ?_)
  · -- taken
    exact False.elim (by omega)
  · -- not taken
    refine r_aload_n X 0 d_Bk_add_9 rfl rfl ?_
    refine r_get X f_Bk_9 b_90 e_90 (v := .ref (ads o (91))) rfl d_Bk_add_10 ?_
    refine r_aload_n X 0 d_Bk_add_13 rfl rfl ?_
    refine r_get X f_Bk_21 b_90 e_90 (v := .int (nI (E))) (congrArg (fun z => some (Value.int z)) (hE)) d_Bk_add_14 ?_
    refine r_iload_n X 1 d_Bk_add_17 rfl rfl ?_
    refine r_iast X b_91 e_91 (Nat.le_of_ble_eq_true rfl) (by omega) d_Bk_add_18 ?_
    refine r_aload_n X 0 d_Bk_add_19 rfl rfl ?_
    refine r_get X f_Bk_15 b_90 e_90 (v := .ref (ads o (92))) rfl d_Bk_add_20 ?_
    refine r_aload_n X 0 d_Bk_add_23 rfl rfl ?_
    refine r_get X f_Bk_21 b_90 e_90 (v := .int (nI (E))) (congrArg (fun z => some (Value.int z)) ((by rw [u2_n _ _ _ (by decide)] <;> exact hE))) d_Bk_add_24 ?_
    refine r_iload_n X 2 d_Bk_add_27 rfl rfl ?_
    refine r_iast X b_92 e_92 (Nat.le_of_ble_eq_true rfl) (by omega) d_Bk_add_28 ?_
    refine r_aload_n X 0 d_Bk_add_29 rfl rfl ?_
    refine r_get X f_Bk_18 b_90 e_90 (v := .ref (ads o (93))) rfl d_Bk_add_30 ?_
    refine r_aload_n X 0 d_Bk_add_33 rfl rfl ?_
    refine r_get X f_Bk_21 b_90 e_90 (v := .int (nI (E))) (congrArg (fun z => some (Value.int z)) ((by rw [u2_n _ _ _ (by decide)] <;> exact (by rw [u2_n _ _ _ (by decide)] <;> exact hE)))) d_Bk_add_34 ?_
    refine r_iload_n X 3 d_Bk_add_37 rfl rfl ?_
    refine r_iast X b_93 e_93 (Nat.le_of_ble_eq_true rfl) (by omega) d_Bk_add_38 ?_
    refine r_aload_n X 0 d_Bk_add_39 rfl rfl ?_
    refine r_dup X d_Bk_add_40 rfl ?_
    refine r_get X f_Bk_21 b_90 e_90 (v := .int (nI (E))) (congrArg (fun z => some (Value.int z)) ((by rw [u2_n _ _ _ (by decide)] <;> exact (by rw [u2_n _ _ _ (by decide)] <;> exact (by rw [u2_n _ _ _ (by decide)] <;> exact hE))))) d_Bk_add_41 ?_
    refine r_iconst X (v := nI (1)) d_Bk_add_44 (by decide) ?_
    refine r_iadd X (v := nI (E + 1)) d_Bk_add_45 (nI_add _ _) ?_
    refine r_putI X fw_Bk_21 b_90 e_90 (fun _ _ => rfl) (Nat.le_of_ble_eq_true rfl) d_Bk_add_46 ?_
    refine r_end_v X d_Bk_add_49 ?_
    exact ⟨rfl, rfl, rfl⟩

set_option maxHeartbeats 4000000 in
set_option maxRecDepth 100000 in
theorem m_Co_read (l : Launch) (o : OM) (mi : MI) (ml : ML) (n : Nat) (hn : mi 1 2 = nI n) (hn40 : n ≤ 40) : Con l y_Co_read c_Co_read 4 none 0 0 o [.ref (ads o (84)), .ref (ads o (1))] mi ml (fun v m z => v = none ∧ m = mi ∧ z 84 1 = allS n ∧ (∀ b, b < 64 → z 85 b = colS (ml 2) b n) ∧ ∀ t, t ≠ 84 → t ≠ 85 → z t = ml t) := by
  refine Con.mk (by decide) (Nat.le_of_ble_eq_true rfl) (fun γ X => ?_)
  show V γ o 4 mi ml 0 [(0, .ref (ads o (84))), (1, .ref (ads o (1)))] []
  refine r_aload_n X 0 d_Co_read_0 rfl rfl ?_
  refine r_lconst X (v := 1) d_Co_read_1 (by decide) ?_
  refine r_aload_n X 1 d_Co_read_2 rfl rfl ?_
  refine r_get X f_Co_15 b_1 e_1 (v := .int (nI (n))) (congrArg (fun z => some (Value.int z)) (hn)) d_Co_read_3 ?_
  refine r_lshl X (v := shl (1) (n)) d_Co_read_6 (rfl) ?_
  refine r_lconst X (v := 1) d_Co_read_7 (by decide) ?_
  refine r_lsub X (v := (shl (1) (n)) - (1)) d_Co_read_8 (rfl) ?_
  refine r_putL X fw_Co_21 b_84 e_84 (fun _ _ => rfl) (Nat.le_of_ble_eq_true rfl) d_Co_read_9 ?_
  refine r_iconst X (v := nI (0)) d_Co_read_12 (by decide) ?_
  refine r_istore_n X [(2, .int (nI (0))), (0, .ref (ads o (84))), (1, .ref (ads o (1)))] d_Co_read_13 rfl (Nat.le_of_ble_eq_true rfl) rfl ?_
  have L14_1 : ∀ (d_i i : Nat), i + d_i = 64 → ∀ (ml_L14_1 : ML), (∀ t, t ≠ 84 → t ≠ 85 → ml_L14_1 t = ml t) → (ml_L14_1 84 1 = allS n) → (∀ b, b < i → ml_L14_1 85 b = colS (ml 2) b n) → V γ o 4 mi ml_L14_1 14 [(0, .ref (ads o (84))), (1, .ref (ads o (1))), (2, .int (nI (i)))] [] := by
    intro d_i
    induction d_i with
    | zero =>
      intro i hi_L14_1 ml_L14_1 hg hall hcol
      have he_L14_1 : 64 = i := by omega
      subst he_L14_1
      refine r_iload_n X 2 d_Co_read_14 rfl rfl ?_
      refine r_bipush X (v := nI (64)) d_Co_read_15 (by decide) ?_
      refine r_icge X (tgt := 70) (c := 64 ≤ 64) d_Co_read_17 (by decide) (nI_leI (Nat.le_of_ble_eq_true rfl) (by omega)) (fun c_17 => ?_) (fun c_17 => ?_)
      · -- taken
        refine r_end_v X d_Co_read_70 ?_
        exact ⟨rfl, rfl, hall, hcol, hg⟩
      · -- not taken
        exact False.elim (by omega)
    | succ d_i ih_L14_1 =>
      intro i hi_L14_1 ml_L14_1 hg hall hcol
      have hlt_L14_1 : i < 64 := by omega
      refine r_iload_n X 2 d_Co_read_14 rfl rfl ?_
      refine r_bipush X (v := nI (64)) d_Co_read_15 (by decide) ?_
      refine r_icge X (tgt := 70) (c := 64 ≤ i) d_Co_read_17 (by decide) (nI_leI (Nat.le_of_ble_eq_true rfl) (by omega)) (fun c_17_2 => ?_) (fun c_17_2 => ?_)
      · -- taken
        exact False.elim (by omega)
      · -- not taken
        refine r_aload_n X 0 d_Co_read_20 rfl rfl ?_
        refine r_get X f_Co_9 b_84 e_84 (v := .ref (ads o (85))) rfl d_Co_read_21 ?_
        refine r_iload_n X 2 d_Co_read_24 rfl rfl ?_
        refine r_lconst X (v := 0) d_Co_read_25 (by decide) ?_
        refine r_last X b_85 e_85 (Nat.le_of_ble_eq_true rfl) (by omega) d_Co_read_26 ?_
        refine r_iconst X (v := nI (0)) d_Co_read_27 (by decide) ?_
        refine r_istore_n X [(3, .int (nI (0))), (0, .ref (ads o (84))), (1, .ref (ads o (1))), (2, .int (nI (i)))] d_Co_read_28 rfl (Nat.le_of_ble_eq_true rfl) rfl ?_
        have L29_3 : ∀ (d_j j : Nat), j + d_j = n → ∀ (ml_L29_3 : ML), (∀ t, t ≠ 84 → t ≠ 85 → ml_L29_3 t = ml t) → (ml_L29_3 84 1 = allS n) → (∀ b, b < i → ml_L29_3 85 b = colS (ml 2) b n) → (ml_L29_3 85 i = colS (ml 2) i j) → V γ o 4 mi ml_L29_3 29 [(0, .ref (ads o (84))), (1, .ref (ads o (1))), (2, .int (nI (i))), (3, .int (nI (j)))] [] := by
          intro d_j
          induction d_j with
          | zero =>
            intro j hi_L29_3 ml_L29_3 hg2 hall2 hcol2 hcur
            have he_L29_3 : n = j := by omega
            subst he_L29_3
            refine r_iload_n X 3 d_Co_read_29 rfl rfl ?_
            refine r_aload_n X 1 d_Co_read_30 rfl rfl ?_
            refine r_get X f_Co_15 b_1 e_1 (v := .int (nI (n))) (congrArg (fun z => some (Value.int z)) (hn)) d_Co_read_31 ?_
            refine r_icge X (tgt := 64) (c := n ≤ n) d_Co_read_34 (by decide) (nI_leI (by omega) (by omega)) (fun c_34 => ?_) (fun c_34 => ?_)
            · -- taken
              refine r_iinc X 2 (v := nI (i + 1)) [(2, .int (nI (i + 1))), (0, .ref (ads o (84))), (1, .ref (ads o (1))), (3, .int (nI (n)))] d_Co_read_64 rfl (nI_add _ 1) (Nat.le_of_ble_eq_true rfl) rfl ?_
              refine r_goto X (tgt := 14) d_Co_read_67 (by decide) ?_
              refine V.wk [1, 2, 0] (V.eq (ih_L14_1 (i + 1) (by omega) (ml_L29_3) (hg2) (hall2) (col_st hcol2 hcur)) ?_ ?_ ?_ rfl) (rfl : lv_pick _ [1, 2, 0] = [(0, .ref (ads o (84))), (1, .ref (ads o (1))), (2, .int (nI (i + 1)))])
              · rfl
              · rfl
              · first | rfl | (simp_all [ct, lastB, alB, fromB]; done)
            · -- not taken
              exact False.elim (by omega)
          | succ d_j ih_L29_3 =>
            intro j hi_L29_3 ml_L29_3 hg2 hall2 hcol2 hcur
            have hlt_L29_3 : j < n := by omega
            refine r_iload_n X 3 d_Co_read_29 rfl rfl ?_
            refine r_aload_n X 1 d_Co_read_30 rfl rfl ?_
            refine r_get X f_Co_15 b_1 e_1 (v := .int (nI (n))) (congrArg (fun z => some (Value.int z)) (hn)) d_Co_read_31 ?_
            refine r_icge X (tgt := 64) (c := n ≤ j) d_Co_read_34 (by decide) (nI_leI (by omega) (by omega)) (fun c_34_4 => ?_) (fun c_34_4 => ?_)
            · -- taken
              exact False.elim (by omega)
            · -- not taken
              refine r_aload_n X 0 d_Co_read_37 rfl rfl ?_
              refine r_get X f_Co_9 b_84 e_84 (v := .ref (ads o (85))) rfl d_Co_read_38 ?_
              refine r_iload_n X 2 d_Co_read_41 rfl rfl ?_
              refine r_dup2_11 X d_Co_read_42 rfl rfl ?_
              refine r_lald X (v := colS (ml 2) i j) b_85 e_85 (Nat.le_of_ble_eq_true rfl) (by omega) (hcur) d_Co_read_43 ?_
              refine r_aload_n X 1 d_Co_read_44 rfl rfl ?_
              refine r_get X f_Co_25 b_1 e_1 (v := .ref (ads o (2))) rfl d_Co_read_45 ?_
              refine r_iload_n X 3 d_Co_read_48 rfl rfl ?_
              refine r_lald X (v := ml 2 j) b_2 e_2 (Nat.le_of_ble_eq_true rfl) (by omega) (by rw [hg2 2 (by decide) (by decide)]) d_Co_read_49 ?_
              refine r_iload_n X 2 d_Co_read_50 rfl rfl ?_
              refine r_lushr X (v := ushr (ml 2 j) (i)) d_Co_read_51 (rfl) ?_
              refine r_lconst X (v := 1) d_Co_read_52 (by decide) ?_
              refine r_land X (v := (ushr (ml 2 j) (i)) &&& (1)) d_Co_read_53 (rfl) ?_
              refine r_iload_n X 3 d_Co_read_54 rfl rfl ?_
              refine r_lshl X (v := shl ((ushr (ml 2 j) (i)) &&& (1)) (j)) d_Co_read_55 (rfl) ?_
              refine r_lor X (v := (colS (ml 2) i j) ||| (shl ((ushr (ml 2 j) (i)) &&& (1)) (j))) d_Co_read_56 (rfl) ?_
              refine r_last X b_85 e_85 (Nat.le_of_ble_eq_true rfl) (by omega) d_Co_read_57 ?_
              refine r_iinc X 3 (v := nI (j + 1)) [(3, .int (nI (j + 1))), (0, .ref (ads o (84))), (1, .ref (ads o (1))), (2, .int (nI (i)))] d_Co_read_58 rfl (nI_add _ 1) (Nat.le_of_ble_eq_true rfl) rfl ?_
              refine r_goto X (tgt := 29) d_Co_read_61 (by decide) ?_
              refine V.wk [1, 2, 3, 0] (V.eq (ih_L29_3 (j + 1) (by omega) ((u2 ml_L29_3 85 i ((colS (ml 2) i j) ||| (shl ((ushr (ml 2 j) (i)) &&& (1)) (j))))) (fun t h1 h2 => by rw [u2_n _ _ _ h2]; exact hg2 t h1 h2) (by rw [u2_n _ _ _ (by decide)]; exact hall2) (row_kept hcol2) (by rw [u2_s, uf_s]; rfl)) ?_ ?_ ?_ rfl) (rfl : lv_pick _ [1, 2, 3, 0] = [(0, .ref (ads o (84))), (1, .ref (ads o (1))), (2, .int (nI (i))), (3, .int (nI (j + 1)))])
              · rfl
              · rfl
              · first | rfl | (simp_all [ct, lastB, alB, fromB]; done)
        refine V.wk [1, 2, 3, 0] (V.eq (L29_3 (n - 0) 0 (by omega) ((u2 ml_L14_1 85 i (0))) (fun t h1 h2 => by rw [u2_n _ _ _ h2]; exact hg t h1 h2) (by rw [u2_n _ _ _ (by decide)]; exact hall) (row_kept hcol) (by rw [u2_s, uf_s]; rfl)) ?_ ?_ ?_ rfl) (rfl : lv_pick _ [1, 2, 3, 0] = [(0, .ref (ads o (84))), (1, .ref (ads o (1))), (2, .int (nI (i))), (3, .int (nI (0)))])
        · rfl
        · rfl
        · rfl
  refine V.wk [1, 2, 0] (V.eq (L14_1 (64 - 0) 0 (by omega) ((u2 ml 84 1 ((shl (1) (n)) - (1)))) (fun t h1 h2 => by rw [u2_n _ _ _ h1]) (by rw [u2_s, uf_s]; rfl) (fun b hb => absurd hb (by omega))) ?_ ?_ ?_ rfl) (rfl : lv_pick _ [1, 2, 0] = [(0, .ref (ads o (84))), (1, .ref (ads o (1))), (2, .int (nI (0)))])
  · rfl
  · rfl
  · rfl

set_option maxHeartbeats 4000000 in
set_option maxRecDepth 100000 in
theorem m_Co_isDead (l : Launch) (o : OM) (mi : MI) (ml : ML) (b : Nat) (v : Int64) (w : Int64) (hv : ml 85 b = v) (hw : ml 84 1 = w) (hb : b < 64) : ConD l y_Co_isDead c_Co_isDead 2 (some .boolean) 0 0 o [.ref (ads o (84)), .int (nI (b))] mi ml (some (.int (bI (decide (v = 0) || decide (v = w))))) mi ml := by
  refine Con.mk (by decide) (Nat.le_of_ble_eq_true rfl) (fun γ X => ?_)
  show V γ o 2 mi ml 0 [(0, .ref (ads o (84))), (1, .int (nI (b)))] []
  refine r_aload_n X 0 d_Co_isDead_0 rfl rfl ?_
  refine r_get X f_Co_9 b_84 e_84 (v := .ref (ads o (85))) rfl d_Co_isDead_1 ?_
  refine r_iload_n X 1 d_Co_isDead_4 rfl rfl ?_
  refine r_lald X (v := v) b_85 e_85 (Nat.le_of_ble_eq_true rfl) (by omega) (hv) d_Co_isDead_5 ?_
  refine r_lconst X (v := 0) d_Co_isDead_6 (by decide) ?_
  refine r_lcmp X d_Co_isDead_7 ?_
  have hJ_1 : V γ o 2 mi ml 30 [(0, .ref (ads o (84))), (1, .int (nI (b)))] [.int (bI ((decide (v = 0) || decide (v = w))))] := by
    refine r_end_z X (bI_nar _) d_Co_isDead_30 ?_
    first | exact ⟨rfl, rfl, rfl⟩ | (refine ⟨?_, rfl, rfl⟩; simp_all)
  refine r_ifeq X (tgt := 25) (c := v = 0) d_Co_isDead_8 (by decide) (lg_cmp_eq _ _) (fun c_8 => ?_) (fun c_8 => ?_)
  · -- taken
    refine r_iconst X (v := nI (1)) d_Co_isDead_25 (by decide) ?_
    refine r_goto X (tgt := 30) d_Co_isDead_26 (by decide) ?_
    exact V.eq hJ_1 rfl rfl rfl (by rw [show ((decide (v = 0) || decide (v = w))) = true from by first | (simp only [eq_true c_8, decide_true, decide_false, Bool.not_true, Bool.not_false, Bool.true_and, Bool.false_and, Bool.and_true, Bool.and_false, Bool.true_or, Bool.false_or, Bool.or_true, Bool.or_false, if_true, if_false, ite_true, ite_false, cond_true, cond_false, Bool.false_eq_true, reduceIte]; done) | (simp [c_8]; done) | (simp_all; done)]; rfl)
  · -- not taken
    refine r_aload_n X 0 d_Co_isDead_11 rfl rfl ?_
    refine r_get X f_Co_9 b_84 e_84 (v := .ref (ads o (85))) rfl d_Co_isDead_12 ?_
    refine r_iload_n X 1 d_Co_isDead_15 rfl rfl ?_
    refine r_lald X (v := v) b_85 e_85 (Nat.le_of_ble_eq_true rfl) (by omega) (hv) d_Co_isDead_16 ?_
    refine r_aload_n X 0 d_Co_isDead_17 rfl rfl ?_
    refine r_get X f_Co_21 b_84 e_84 (v := .long (w)) (congrArg (fun z => some (Value.long z)) (hw)) d_Co_isDead_18 ?_
    refine r_lcmp X d_Co_isDead_21 ?_
    refine r_ifneP X (tgt := 29) (c := v = w) d_Co_isDead_22 (by decide) (lg_cmp_eq _ _) (fun c_22 => ?_) (fun c_22 => ?_)
    · -- taken
      refine r_iconst X (v := nI (0)) d_Co_isDead_29 (by decide) ?_
      exact V.eq hJ_1 rfl rfl rfl (by rw [show ((decide (v = 0) || decide (v = w))) = false from by first | (simp only [eq_false c_8, eq_false c_22, decide_true, decide_false, Bool.not_true, Bool.not_false, Bool.true_and, Bool.false_and, Bool.and_true, Bool.and_false, Bool.true_or, Bool.false_or, Bool.or_true, Bool.or_false, if_true, if_false, ite_true, ite_false, cond_true, cond_false, Bool.false_eq_true, reduceIte]; done) | (simp [c_8, c_22]; done) | (simp_all; done)]; rfl)
    · -- not taken
      refine r_iconst X (v := nI (1)) d_Co_isDead_25 (by decide) ?_
      refine r_goto X (tgt := 30) d_Co_isDead_26 (by decide) ?_
      exact V.eq hJ_1 rfl rfl rfl (by rw [show ((decide (v = 0) || decide (v = w))) = true from by first | (simp only [eq_false c_8, eq_true c_22, decide_true, decide_false, Bool.not_true, Bool.not_false, Bool.true_and, Bool.false_and, Bool.and_true, Bool.and_false, Bool.true_or, Bool.false_or, Bool.or_true, Bool.or_false, if_true, if_false, ite_true, ite_false, cond_true, cond_false, Bool.false_eq_true, reduceIte]; done) | (simp [c_8, c_22]; done) | (simp_all; done)]; rfl)

set_option maxHeartbeats 4000000 in
set_option maxRecDepth 100000 in
theorem m_Co_goTogether (l : Launch) (o : OM) (mi : MI) (ml : ML) (a : Nat) (b : Nat) (u : Int64) (v : Int64) (w : Int64) (hu : ml 85 a = u) (hv : ml 85 b = v) (hw : ml 84 1 = w) (ha : a < 64) (hb : b < 64) : ConD l y_Co_goTogether c_Co_goTogether 3 (some .boolean) 1 21 o [.ref (ads o (84)), .int (nI (a)), .int (nI (b))] mi ml (some (.int (bI (!(decide (u = 0) || decide (u = w)) && (decide (u = v) || decide (u = w ^^^ v)))))) mi ml := by
  refine Con.mk (by decide) (Nat.le_of_ble_eq_true rfl) (fun γ X => ?_)
  show V γ o 3 mi ml 0 [(0, .ref (ads o (84))), (1, .int (nI (a))), (2, .int (nI (b)))] []
  refine r_aload_n X 0 d_Co_goTogether_0 rfl rfl ?_
  refine r_iload_n X 1 d_Co_goTogether_1 rfl rfl ?_
  refine r_callV X (m_Co_isDead l o mi ml a u w (hu) (hw) (by omega)) ok_Co_isDead w_Co_32 rfl b_84 e_84 rfl ⟨Nat.le_of_ble_eq_true rfl, Nat.le_of_ble_eq_true rfl⟩ (rest := []) rfl (Nat.le_of_ble_eq_true rfl) d_Co_goTogether_2 ?_
  refine kD (st' := [.int (bI (decide (u = 0) || decide (u = w)))]) rfl ?_
  have hJ_1 : V γ o 3 mi ml 50 [(0, .ref (ads o (84))), (1, .int (nI (a))), (2, .int (nI (b)))] [.int (bI ((!(decide (u = 0) || decide (u = w)) && (decide (u = v) || decide (u = ((w) ^^^ (v)))))))] := by
    refine r_end_z X (bI_nar _) d_Co_goTogether_50 ?_
    first | exact ⟨rfl, rfl, rfl⟩ | (refine ⟨?_, rfl, rfl⟩; simp_all)
  refine r_ifneB X (tgt := 49) (b := decide (u = 0) || decide (u = w)) d_Co_goTogether_5 (by decide) (fun c_5 => ?_) (fun c_5 => ?_)
  · -- taken
    refine r_iconst X (v := nI (0)) d_Co_goTogether_49 (by decide) ?_
    exact V.eq hJ_1 rfl rfl rfl (by rw [show ((!(decide (u = 0) || decide (u = w)) && (decide (u = v) || decide (u = ((w) ^^^ (v)))))) = false from by first | (simp only [c_5, decide_true, decide_false, Bool.not_true, Bool.not_false, Bool.true_and, Bool.false_and, Bool.and_true, Bool.and_false, Bool.true_or, Bool.false_or, Bool.or_true, Bool.or_false, if_true, if_false, ite_true, ite_false, cond_true, cond_false, Bool.false_eq_true, reduceIte]; done) | (simp [c_5]; done) | (simp_all; done)]; rfl)
  · -- not taken
    refine r_aload_n X 0 d_Co_goTogether_8 rfl rfl ?_
    refine r_get X f_Co_9 b_84 e_84 (v := .ref (ads o (85))) rfl d_Co_goTogether_9 ?_
    refine r_iload_n X 1 d_Co_goTogether_12 rfl rfl ?_
    refine r_lald X (v := u) b_85 e_85 (Nat.le_of_ble_eq_true rfl) (by omega) (hu) d_Co_goTogether_13 ?_
    refine r_aload_n X 0 d_Co_goTogether_14 rfl rfl ?_
    refine r_get X f_Co_9 b_84 e_84 (v := .ref (ads o (85))) rfl d_Co_goTogether_15 ?_
    refine r_iload_n X 2 d_Co_goTogether_18 rfl rfl ?_
    refine r_lald X (v := v) b_85 e_85 (Nat.le_of_ble_eq_true rfl) (by omega) (hv) d_Co_goTogether_19 ?_
    refine r_lcmp X d_Co_goTogether_20 ?_
    refine r_ifeq X (tgt := 45) (c := u = v) d_Co_goTogether_21 (by decide) (lg_cmp_eq _ _) (fun c_21 => ?_) (fun c_21 => ?_)
    · -- taken
      refine r_iconst X (v := nI (1)) d_Co_goTogether_45 (by decide) ?_
      refine r_goto X (tgt := 50) d_Co_goTogether_46 (by decide) ?_
      exact V.eq hJ_1 rfl rfl rfl (by rw [show ((!(decide (u = 0) || decide (u = w)) && (decide (u = v) || decide (u = ((w) ^^^ (v)))))) = true from by first | (simp only [c_5, eq_true c_21, decide_true, decide_false, Bool.not_true, Bool.not_false, Bool.true_and, Bool.false_and, Bool.and_true, Bool.and_false, Bool.true_or, Bool.false_or, Bool.or_true, Bool.or_false, if_true, if_false, ite_true, ite_false, cond_true, cond_false, Bool.false_eq_true, reduceIte]; done) | (simp [c_5, c_21]; done) | (simp_all; done)]; rfl)
    · -- not taken
      refine r_aload_n X 0 d_Co_goTogether_24 rfl rfl ?_
      refine r_get X f_Co_9 b_84 e_84 (v := .ref (ads o (85))) rfl d_Co_goTogether_25 ?_
      refine r_iload_n X 1 d_Co_goTogether_28 rfl rfl ?_
      refine r_lald X (v := u) b_85 e_85 (Nat.le_of_ble_eq_true rfl) (by omega) (hu) d_Co_goTogether_29 ?_
      refine r_aload_n X 0 d_Co_goTogether_30 rfl rfl ?_
      refine r_get X f_Co_21 b_84 e_84 (v := .long (w)) (congrArg (fun z => some (Value.long z)) (hw)) d_Co_goTogether_31 ?_
      refine r_aload_n X 0 d_Co_goTogether_34 rfl rfl ?_
      refine r_get X f_Co_9 b_84 e_84 (v := .ref (ads o (85))) rfl d_Co_goTogether_35 ?_
      refine r_iload_n X 2 d_Co_goTogether_38 rfl rfl ?_
      refine r_lald X (v := v) b_85 e_85 (Nat.le_of_ble_eq_true rfl) (by omega) (hv) d_Co_goTogether_39 ?_
      refine r_lxor X (v := (w) ^^^ (v)) d_Co_goTogether_40 (rfl) ?_
      refine r_lcmp X d_Co_goTogether_41 ?_
      refine r_ifneP X (tgt := 49) (c := u = ((w) ^^^ (v))) d_Co_goTogether_42 (by decide) (lg_cmp_eq _ _) (fun c_42 => ?_) (fun c_42 => ?_)
      · -- taken
        refine r_iconst X (v := nI (0)) d_Co_goTogether_49 (by decide) ?_
        exact V.eq hJ_1 rfl rfl rfl (by rw [show ((!(decide (u = 0) || decide (u = w)) && (decide (u = v) || decide (u = ((w) ^^^ (v)))))) = false from by first | (simp only [c_5, eq_false c_21, eq_false c_42, decide_true, decide_false, Bool.not_true, Bool.not_false, Bool.true_and, Bool.false_and, Bool.and_true, Bool.and_false, Bool.true_or, Bool.false_or, Bool.or_true, Bool.or_false, if_true, if_false, ite_true, ite_false, cond_true, cond_false, Bool.false_eq_true, reduceIte]; done) | (simp [c_5, c_21, c_42]; done) | (simp_all; done)]; rfl)
      · -- not taken
        refine r_iconst X (v := nI (1)) d_Co_goTogether_45 (by decide) ?_
        refine r_goto X (tgt := 50) d_Co_goTogether_46 (by decide) ?_
        exact V.eq hJ_1 rfl rfl rfl (by rw [show ((!(decide (u = 0) || decide (u = w)) && (decide (u = v) || decide (u = ((w) ^^^ (v)))))) = true from by first | (simp only [c_5, eq_false c_21, eq_true c_42, decide_true, decide_false, Bool.not_true, Bool.not_false, Bool.true_and, Bool.false_and, Bool.and_true, Bool.and_false, Bool.true_or, Bool.false_or, Bool.or_true, Bool.or_false, if_true, if_false, ite_true, ite_false, cond_true, cond_false, Bool.false_eq_true, reduceIte]; done) | (simp [c_5, c_21, c_42]; done) | (simp_all; done)]; rfl)

set_option maxHeartbeats 4000000 in
set_option maxRecDepth 100000 in
theorem m_Co_countDead (l : Launch) (o : OM) (mi : MI) (ml : ML) (n : Nat) (hn : mi 1 2 = nI n) (hn40 : n ≤ 40) : Con l y_Co_countDead c_Co_countDead 4 (some .int) 1 23 o [.ref (ads o (84)), .ref (ads o (1))] mi ml (fun v m z => v = some (.int (nI (ct (deadC (ml 2) n) 64))) ∧ m = mi ∧ ∀ t, t ≠ 84 → t ≠ 85 → z t = ml t) := by
  refine Con.mk (by decide) (Nat.le_of_ble_eq_true rfl) (fun γ X => ?_)
  show V γ o 4 mi ml 0 [(0, .ref (ads o (84))), (1, .ref (ads o (1)))] []
  refine r_aload_n X 0 d_Co_countDead_0 rfl rfl ?_
  refine r_aload_n X 1 d_Co_countDead_1 rfl rfl ?_
  refine r_callV X (m_Co_read l o mi ml n (hn) hn40) ok_Co_read w_Co_28 rfl b_84 e_84 rfl ⟨Nat.le_of_ble_eq_true rfl, Nat.le_of_ble_eq_true rfl⟩ (rest := []) rfl (Nat.le_of_ble_eq_true rfl) d_Co_countDead_2 ?_
  rintro _ mm zc ⟨rfl, hmm, hall, hcol, hg⟩
  have hmm := hmm.symm
  subst hmm
  show V γ o 4 mi zc 5 [(0, .ref (ads o (84))), (1, .ref (ads o (1)))] []
  refine r_iconst X (v := nI (0)) d_Co_countDead_5 (by decide) ?_
  refine r_istore_n X [(2, .int (nI (0))), (0, .ref (ads o (84))), (1, .ref (ads o (1)))] d_Co_countDead_6 rfl (Nat.le_of_ble_eq_true rfl) rfl ?_
  refine r_iconst X (v := nI (0)) d_Co_countDead_7 (by decide) ?_
  refine r_istore_n X [(3, .int (nI (0))), (2, .int (nI (0))), (0, .ref (ads o (84))), (1, .ref (ads o (1)))] d_Co_countDead_8 rfl (Nat.le_of_ble_eq_true rfl) rfl ?_
  have L9_1 : ∀ (d_i i : Nat), i + d_i = 64 → V γ o 4 mi zc 9 [(0, .ref (ads o (84))), (1, .ref (ads o (1))), (2, .int (nI (ct (deadC (ml 2) n) (i)))), (3, .int (nI (i)))] [] := by
    intro d_i
    induction d_i with
    | zero =>
      intro i hi_L9_1 
      have he_L9_1 : 64 = i := by omega
      subst he_L9_1
      refine r_iload_n X 3 d_Co_countDead_9 rfl rfl ?_
      refine r_bipush X (v := nI (64)) d_Co_countDead_10 (by decide) ?_
      refine r_icge X (tgt := 32) (c := 64 ≤ 64) d_Co_countDead_12 (by decide) (nI_leI (Nat.le_of_ble_eq_true rfl) (by omega)) (fun c_12 => ?_) (fun c_12 => ?_)
      · -- taken
        refine r_iload_n X 2 d_Co_countDead_32 rfl rfl ?_
        refine r_end_i X d_Co_countDead_33 ?_
        exact ⟨rfl, rfl, hg⟩
      · -- not taken
        exact False.elim (by omega)
    | succ d_i ih_L9_1 =>
      intro i hi_L9_1 
      have hlt_L9_1 : i < 64 := by omega
      refine r_iload_n X 3 d_Co_countDead_9 rfl rfl ?_
      refine r_bipush X (v := nI (64)) d_Co_countDead_10 (by decide) ?_
      refine r_icge X (tgt := 32) (c := 64 ≤ i) d_Co_countDead_12 (by decide) (nI_leI (Nat.le_of_ble_eq_true rfl) (by omega)) (fun c_12_2 => ?_) (fun c_12_2 => ?_)
      · -- taken
        exact False.elim (by omega)
      · -- not taken
        refine r_aload_n X 0 d_Co_countDead_15 rfl rfl ?_
        refine r_iload_n X 3 d_Co_countDead_16 rfl rfl ?_
        refine r_callV X (m_Co_isDead l o mi zc i (colS (ml 2) i n) (allS n) (hcol i (by omega)) (hall) (by omega)) ok_Co_isDead w_Co_32 rfl b_84 e_84 rfl ⟨Nat.le_of_ble_eq_true rfl, Nat.le_of_ble_eq_true rfl⟩ (rest := []) rfl (Nat.le_of_ble_eq_true rfl) d_Co_countDead_17 ?_
        refine kD (st' := [.int (bI (decide ((colS (ml 2) i n) = 0) || decide ((colS (ml 2) i n) = (allS n))))]) rfl ?_
        refine r_ifeqB X (tgt := 26) (b := decide ((colS (ml 2) i n) = 0) || decide ((colS (ml 2) i n) = (allS n))) d_Co_countDead_20 (by decide) (fun c_20 => ?_) (fun c_20 => ?_)
        · -- taken
          refine r_iinc X 3 (v := nI (i + 1)) [(3, .int (nI (i + 1))), (0, .ref (ads o (84))), (1, .ref (ads o (1))), (2, .int (nI (ct (deadC (ml 2) n) (i))))] d_Co_countDead_26 rfl (nI_add _ 1) (Nat.le_of_ble_eq_true rfl) rfl ?_
          refine r_goto X (tgt := 9) d_Co_countDead_29 (by decide) ?_
          refine V.wk [1, 2, 3, 0] (V.eq (ih_L9_1 (i + 1) (by omega) ) ?_ ?_ ?_ rfl) (rfl : lv_pick _ [1, 2, 3, 0] = [(0, .ref (ads o (84))), (1, .ref (ads o (1))), (2, .int (nI (ct (deadC (ml 2) n) (i)))), (3, .int (nI (i + 1)))])
          · rfl
          · rfl
          · first | (rw [ct_t (by assumption)]; done) | (rw [ct_f (by assumption)]; done)
        · -- not taken
          refine r_iinc X 2 (v := nI (ct (deadC (ml 2) n) (i) + 1)) [(2, .int (nI (ct (deadC (ml 2) n) (i) + 1))), (0, .ref (ads o (84))), (1, .ref (ads o (1))), (3, .int (nI (i)))] d_Co_countDead_23 rfl (nI_add _ 1) (Nat.le_of_ble_eq_true rfl) rfl ?_
          refine r_iinc X 3 (v := nI (i + 1)) [(3, .int (nI (i + 1))), (2, .int (nI (ct (deadC (ml 2) n) (i) + 1))), (0, .ref (ads o (84))), (1, .ref (ads o (1)))] d_Co_countDead_26 rfl (nI_add _ 1) (Nat.le_of_ble_eq_true rfl) rfl ?_
          refine r_goto X (tgt := 9) d_Co_countDead_29 (by decide) ?_
          refine V.wk [2, 3, 1, 0] (V.eq (ih_L9_1 (i + 1) (by omega) ) ?_ ?_ ?_ rfl) (rfl : lv_pick _ [2, 3, 1, 0] = [(0, .ref (ads o (84))), (1, .ref (ads o (1))), (2, .int (nI (ct (deadC (ml 2) n) (i) + 1))), (3, .int (nI (i + 1)))])
          · rfl
          · rfl
          · first | (rw [ct_t (by assumption)]; done) | (rw [ct_f (by assumption)]; done)
  refine V.wk [2, 3, 1, 0] (V.eq (L9_1 (64 - 0) 0 (by omega) ) ?_ ?_ ?_ rfl) (rfl : lv_pick _ [2, 3, 1, 0] = [(0, .ref (ads o (84))), (1, .ref (ads o (1))), (2, .int (nI (0))), (3, .int (nI (0)))])
  · rfl
  · rfl
  · rfl

set_option maxHeartbeats 4000000 in
set_option maxRecDepth 100000 in
theorem m_Co_firstPair (l : Launch) (o : OM) (mi : MI) (ml : ML) (n : Nat) (hn : mi 1 2 = nI n) (hn40 : n ≤ 40) : Con l y_Co_firstPair c_Co_firstPair 4 (some .int) 2 43 o [.ref (ads o (84)), .ref (ads o (1))] mi ml (fun v m z => v = some (.int (togR (goC (ml 2) n) 64 0)) ∧ m = mi ∧ ∀ t, t ≠ 84 → t ≠ 85 → z t = ml t) := by
  refine Con.mk (by decide) (Nat.le_of_ble_eq_true rfl) (fun γ X => ?_)
  show V γ o 4 mi ml 0 [(0, .ref (ads o (84))), (1, .ref (ads o (1)))] []
  refine r_aload_n X 0 d_Co_firstPair_0 rfl rfl ?_
  refine r_aload_n X 1 d_Co_firstPair_1 rfl rfl ?_
  refine r_callV X (m_Co_read l o mi ml n (hn) hn40) ok_Co_read w_Co_28 rfl b_84 e_84 rfl ⟨Nat.le_of_ble_eq_true rfl, Nat.le_of_ble_eq_true rfl⟩ (rest := []) rfl (Nat.le_of_ble_eq_true rfl) d_Co_firstPair_2 ?_
  rintro _ mm zc ⟨rfl, hmm, hall, hcol, hg⟩
  have hmm := hmm.symm
  subst hmm
  show V γ o 4 mi zc 5 [(0, .ref (ads o (84))), (1, .ref (ads o (1)))] []
  refine r_iconst X (v := nI (0)) d_Co_firstPair_5 (by decide) ?_
  refine r_istore_n X [(2, .int (nI (0))), (0, .ref (ads o (84))), (1, .ref (ads o (1)))] d_Co_firstPair_6 rfl (Nat.le_of_ble_eq_true rfl) rfl ?_
  have L7_1 : ∀ (d_i i : Nat), i + d_i = 64 → (togR (goC (ml 2) n) 64 0 = togR (goC (ml 2) n) d_i (i)) → V γ o 4 mi zc 7 [(0, .ref (ads o (84))), (1, .ref (ads o (1))), (2, .int (nI (i)))] [] := by
    intro d_i
    induction d_i with
    | zero =>
      intro i hi_L7_1 hr
      have he_L7_1 : 64 = i := by omega
      subst he_L7_1
      refine r_iload_n X 2 d_Co_firstPair_7 rfl rfl ?_
      refine r_bipush X (v := nI (64)) d_Co_firstPair_8 (by decide) ?_
      refine r_icge X (tgt := 51) (c := 64 ≤ 64) d_Co_firstPair_10 (by decide) (nI_leI (Nat.le_of_ble_eq_true rfl) (by omega)) (fun c_10 => ?_) (fun c_10 => ?_)
      · -- taken
        refine r_iconst X (v := ((-1 : Int32))) d_Co_firstPair_51 (by decide) ?_
        refine r_end_i X d_Co_firstPair_52 ?_
        refine ⟨?_, rfl, hg⟩; rw [hr]; rfl
      · -- not taken
        exact False.elim (by omega)
    | succ d_i ih_L7_1 =>
      intro i hi_L7_1 hr
      have hlt_L7_1 : i < 64 := by omega
      refine r_iload_n X 2 d_Co_firstPair_7 rfl rfl ?_
      refine r_bipush X (v := nI (64)) d_Co_firstPair_8 (by decide) ?_
      refine r_icge X (tgt := 51) (c := 64 ≤ i) d_Co_firstPair_10 (by decide) (nI_leI (Nat.le_of_ble_eq_true rfl) (by omega)) (fun c_10_2 => ?_) (fun c_10_2 => ?_)
      · -- taken
        exact False.elim (by omega)
      · -- not taken
        refine r_iload_n X 2 d_Co_firstPair_13 rfl rfl ?_
        refine r_iconst X (v := nI (1)) d_Co_firstPair_14 (by decide) ?_
        refine r_iadd X (v := nI (i + 1)) d_Co_firstPair_15 (nI_add _ _) ?_
        refine r_istore_n X [(3, .int (nI (i + 1))), (0, .ref (ads o (84))), (1, .ref (ads o (1))), (2, .int (nI (i)))] d_Co_firstPair_16 rfl (Nat.le_of_ble_eq_true rfl) rfl ?_
        have L17_3 : ∀ (d_j j : Nat), j + d_j = 64 → (togR (goC (ml 2) n) 64 0 = fromC (goC (ml 2) n i) (fun b => nI (64 * i + b)) (togR (goC (ml 2) n) d_i (i + 1)) d_j (j)) → V γ o 4 mi zc 17 [(0, .ref (ads o (84))), (1, .ref (ads o (1))), (2, .int (nI (i))), (3, .int (nI (j)))] [] := by
          intro d_j
          induction d_j with
          | zero =>
            intro j hi_L17_3 hq
            have he_L17_3 : 64 = j := by omega
            subst he_L17_3
            refine r_iload_n X 3 d_Co_firstPair_17 rfl rfl ?_
            refine r_bipush X (v := nI (64)) d_Co_firstPair_18 (by decide) ?_
            refine r_icge X (tgt := 45) (c := 64 ≤ 64) d_Co_firstPair_20 (by decide) (nI_leI (Nat.le_of_ble_eq_true rfl) (by omega)) (fun c_20 => ?_) (fun c_20 => ?_)
            · -- taken
              refine r_iinc X 2 (v := nI (i + 1)) [(2, .int (nI (i + 1))), (0, .ref (ads o (84))), (1, .ref (ads o (1))), (3, .int (nI (64)))] d_Co_firstPair_45 rfl (nI_add _ 1) (Nat.le_of_ble_eq_true rfl) rfl ?_
              refine r_goto X (tgt := 7) d_Co_firstPair_48 (by decide) ?_
              refine V.wk [1, 2, 0] (V.eq (ih_L7_1 (i + 1) (by omega) (hq)) ?_ ?_ ?_ rfl) (rfl : lv_pick _ [1, 2, 0] = [(0, .ref (ads o (84))), (1, .ref (ads o (1))), (2, .int (nI (i + 1)))])
              · rfl
              · rfl
              · first | rfl | (simp_all [ct, lastB, alB, fromB]; done)
            · -- not taken
              exact False.elim (by omega)
          | succ d_j ih_L17_3 =>
            intro j hi_L17_3 hq
            have hlt_L17_3 : j < 64 := by omega
            refine r_iload_n X 3 d_Co_firstPair_17 rfl rfl ?_
            refine r_bipush X (v := nI (64)) d_Co_firstPair_18 (by decide) ?_
            refine r_icge X (tgt := 45) (c := 64 ≤ j) d_Co_firstPair_20 (by decide) (nI_leI (Nat.le_of_ble_eq_true rfl) (by omega)) (fun c_20_4 => ?_) (fun c_20_4 => ?_)
            · -- taken
              exact False.elim (by omega)
            · -- not taken
              refine r_aload_n X 0 d_Co_firstPair_23 rfl rfl ?_
              refine r_iload_n X 2 d_Co_firstPair_24 rfl rfl ?_
              refine r_iload_n X 3 d_Co_firstPair_25 rfl rfl ?_
              refine r_callV X (m_Co_goTogether l o mi zc i j (colS (ml 2) i n) (colS (ml 2) j n) (allS n) (hcol i (by omega)) (hcol j (by omega)) (hall) (by omega) (by omega)) ok_Co_goTogether w_Co_36 rfl b_84 e_84 rfl ⟨Nat.le_of_ble_eq_true rfl, Nat.le_of_ble_eq_true rfl⟩ (rest := []) rfl (Nat.le_of_ble_eq_true rfl) d_Co_firstPair_26 ?_
              refine kD (st' := [.int (bI (!(decide ((colS (ml 2) i n) = 0) || decide ((colS (ml 2) i n) = (allS n))) && (decide ((colS (ml 2) i n) = (colS (ml 2) j n)) || decide ((colS (ml 2) i n) = (allS n) ^^^ (colS (ml 2) j n)))))]) rfl ?_
              refine r_ifeqB X (tgt := 39) (b := !(decide ((colS (ml 2) i n) = 0) || decide ((colS (ml 2) i n) = (allS n))) && (decide ((colS (ml 2) i n) = (colS (ml 2) j n)) || decide ((colS (ml 2) i n) = (allS n) ^^^ (colS (ml 2) j n)))) d_Co_firstPair_29 (by decide) (fun c_29 => ?_) (fun c_29 => ?_)
              · -- taken
                refine r_iinc X 3 (v := nI (j + 1)) [(3, .int (nI (j + 1))), (0, .ref (ads o (84))), (1, .ref (ads o (1))), (2, .int (nI (i)))] d_Co_firstPair_39 rfl (nI_add _ 1) (Nat.le_of_ble_eq_true rfl) rfl ?_
                refine r_goto X (tgt := 17) d_Co_firstPair_42 (by decide) ?_
                refine V.wk [1, 2, 3, 0] (V.eq (ih_L17_3 (j + 1) (by omega) (hq.trans (fromC_miss (by assumption)))) ?_ ?_ ?_ rfl) (rfl : lv_pick _ [1, 2, 3, 0] = [(0, .ref (ads o (84))), (1, .ref (ads o (1))), (2, .int (nI (i))), (3, .int (nI (j + 1)))])
                · rfl
                · rfl
                · first | rfl | (simp_all [ct, lastB, alB, fromB]; done)
              · -- not taken
                refine r_bipush X (v := nI (64)) d_Co_firstPair_32 (by decide) ?_
                refine r_iload_n X 2 d_Co_firstPair_34 rfl rfl ?_
                refine r_imul X (v := nI (64 * i)) d_Co_firstPair_35 (pk_mul _ _) ?_
                refine r_iload_n X 3 d_Co_firstPair_36 rfl rfl ?_
                refine r_iadd X (v := nI (64 * i + j)) d_Co_firstPair_37 (nI_add _ _) ?_
                refine r_end_i X d_Co_firstPair_38 ?_
                refine ⟨?_, rfl, hg⟩; exact congrArg (fun z => some (Value.int z)) (hq.trans (fromC_hit (by assumption))).symm
        refine V.wk [1, 2, 3, 0] (V.eq (L17_3 (64 - (i + 1)) (i + 1) (by omega) (by rw [hr, togR, show 63 - i = 64 - (i + 1) from by omega])) ?_ ?_ ?_ rfl) (rfl : lv_pick _ [1, 2, 3, 0] = [(0, .ref (ads o (84))), (1, .ref (ads o (1))), (2, .int (nI (i))), (3, .int (nI (i + 1)))])
        · rfl
        · rfl
        · rfl
  refine V.wk [1, 2, 0] (V.eq (L7_1 (64 - 0) 0 (by omega) (rfl)) ?_ ?_ ?_ rfl) (rfl : lv_pick _ [1, 2, 0] = [(0, .ref (ads o (84))), (1, .ref (ads o (1))), (2, .int (nI (0)))])
  · rfl
  · rfl
  · rfl

set_option maxHeartbeats 4000000 in
set_option maxRecDepth 100000 in
theorem m_Co_mostOf (l : Launch) (o : OM) (mi : MI) (ml : ML) (x : Int64) (n : Nat) (hn : mi 1 2 = nI n) (hn40 : n ≤ 40) : Con l y_Co_mostOf c_Co_mostOf 8 (some .long) 1 23 o [.ref (ads o (84)), .ref (ads o (1)), .long (x)] mi ml (fun v m z => v = some (.long (stB (fun b => !decide (2 * pop ((colS (ml 2) b n) &&& x) ≤ pop x)) 64)) ∧ m = mi ∧ ∀ t, t ≠ 84 → t ≠ 85 → z t = ml t) := by
  refine Con.mk (by decide) (Nat.le_of_ble_eq_true rfl) (fun γ X => ?_)
  show V γ o 8 mi ml 0 [(0, .ref (ads o (84))), (1, .ref (ads o (1))), (2, .long (x))] []
  refine r_aload_n X 0 d_Co_mostOf_0 rfl rfl ?_
  refine r_aload_n X 1 d_Co_mostOf_1 rfl rfl ?_
  refine r_callV X (m_Co_read l o mi ml n (hn) hn40) ok_Co_read w_Co_28 rfl b_84 e_84 rfl ⟨Nat.le_of_ble_eq_true rfl, Nat.le_of_ble_eq_true rfl⟩ (rest := []) rfl (Nat.le_of_ble_eq_true rfl) d_Co_mostOf_2 ?_
  rintro _ mm zc ⟨rfl, hmm, hall, hcol, hg⟩
  have hmm := hmm.symm
  subst hmm
  show V γ o 8 mi zc 5 [(0, .ref (ads o (84))), (1, .ref (ads o (1))), (2, .long (x))] []
  refine r_lload_n X 2 d_Co_mostOf_5 rfl rfl ?_
  refine r_callS X (m_Lg_bitCount l o mi zc x) ok_Lg_bitCount w_Co_40 rfl ⟨Nat.le_of_ble_eq_true rfl, Nat.le_of_ble_eq_true rfl⟩ (rest := []) rfl (Nat.le_of_ble_eq_true rfl) d_Co_mostOf_6 ?_
  refine kD (st' := [.int (nI (pop x))]) rfl ?_
  refine r_istore X [(4, .int (nI (pop x))), (0, .ref (ads o (84))), (1, .ref (ads o (1))), (2, .long (x))] d_Co_mostOf_9 (Nat.le_of_ble_eq_true rfl) rfl ?_
  refine r_lconst X (v := 0) d_Co_mostOf_11 (by decide) ?_
  refine r_lstore X [(5, .long (0)), (4, .int (nI (pop x))), (0, .ref (ads o (84))), (1, .ref (ads o (1))), (2, .long (x))] d_Co_mostOf_12 (Nat.le_of_ble_eq_true rfl) rfl ?_
  refine r_iconst X (v := nI (0)) d_Co_mostOf_14 (by decide) ?_
  refine r_istore X [(7, .int (nI (0))), (5, .long (0)), (4, .int (nI (pop x))), (0, .ref (ads o (84))), (1, .ref (ads o (1))), (2, .long (x))] d_Co_mostOf_15 (Nat.le_of_ble_eq_true rfl) rfl ?_
  have L17_1 : ∀ (d_i i : Nat), i + d_i = 64 → V γ o 8 mi zc 17 [(0, .ref (ads o (84))), (1, .ref (ads o (1))), (2, .long (x)), (4, .int (nI (pop x))), (5, .long (stB (fun b => !decide (2 * pop ((colS (ml 2) b n) &&& x) ≤ pop x)) (i))), (7, .int (nI (i)))] [] := by
    intro d_i
    induction d_i with
    | zero =>
      intro i hi_L17_1 
      have he_L17_1 : 64 = i := by omega
      subst he_L17_1
      refine r_iload X 5 d_Co_mostOf_17 rfl ?_
      refine r_bipush X (v := nI (64)) d_Co_mostOf_19 (by decide) ?_
      refine r_icge X (tgt := 58) (c := 64 ≤ 64) d_Co_mostOf_21 (by decide) (nI_leI (Nat.le_of_ble_eq_true rfl) (by omega)) (fun c_21 => ?_) (fun c_21 => ?_)
      · -- taken
        refine r_lload X 4 d_Co_mostOf_58 rfl ?_
        refine r_end_l X d_Co_mostOf_60 ?_
        exact ⟨rfl, rfl, hg⟩
      · -- not taken
        exact False.elim (by omega)
    | succ d_i ih_L17_1 =>
      intro i hi_L17_1 
      have hlt_L17_1 : i < 64 := by omega
      have hp1 := pop_le x
      have hp2 := pop_le ((colS (ml 2) i n) &&& (x))
      refine r_iload X 5 d_Co_mostOf_17 rfl ?_
      refine r_bipush X (v := nI (64)) d_Co_mostOf_19 (by decide) ?_
      refine r_icge X (tgt := 58) (c := 64 ≤ i) d_Co_mostOf_21 (by decide) (nI_leI (Nat.le_of_ble_eq_true rfl) (by omega)) (fun c_21_2 => ?_) (fun c_21_2 => ?_)
      · -- taken
        exact False.elim (by omega)
      · -- not taken
        refine r_iconst X (v := nI (2)) d_Co_mostOf_24 (by decide) ?_
        refine r_aload_n X 0 d_Co_mostOf_25 rfl rfl ?_
        refine r_get X f_Co_9 b_84 e_84 (v := .ref (ads o (85))) rfl d_Co_mostOf_26 ?_
        refine r_iload X 5 d_Co_mostOf_29 rfl ?_
        refine r_lald X (v := colS (ml 2) i n) b_85 e_85 (Nat.le_of_ble_eq_true rfl) (by omega) (hcol i (by omega)) d_Co_mostOf_31 ?_
        refine r_lload_n X 2 d_Co_mostOf_32 rfl rfl ?_
        refine r_land X (v := (colS (ml 2) i n) &&& (x)) d_Co_mostOf_33 (rfl) ?_
        refine r_callS X (m_Lg_bitCount l o mi zc ((colS (ml 2) i n) &&& (x))) ok_Lg_bitCount w_Co_40 rfl ⟨Nat.le_of_ble_eq_true rfl, Nat.le_of_ble_eq_true rfl⟩ (rest := [.int (nI (2))]) rfl (Nat.le_of_ble_eq_true rfl) d_Co_mostOf_34 ?_
        refine kD (st' := [.int (nI (pop ((colS (ml 2) i n) &&& (x)))), .int (nI (2))]) rfl ?_
        refine r_imul X (v := nI (2 * (pop ((colS (ml 2) i n) &&& (x))))) d_Co_mostOf_37 (pk_mul _ _) ?_
        refine r_iload X 3 d_Co_mostOf_38 rfl ?_
        refine r_icle X (tgt := 52) (c := (2 * (pop ((colS (ml 2) i n) &&& (x)))) ≤ (pop x)) d_Co_mostOf_40 (by decide) (nI_leI (by omega) (pop_lt _)) (fun c_40 => ?_) (fun c_40 => ?_)
        · -- taken
          refine r_iinc X 5 (v := nI (i + 1)) [(7, .int (nI (i + 1))), (0, .ref (ads o (84))), (1, .ref (ads o (1))), (2, .long (x)), (4, .int (nI (pop x))), (5, .long (stB (fun b => !decide (2 * pop ((colS (ml 2) b n) &&& x) ≤ pop x)) (i)))] d_Co_mostOf_52 rfl (nI_add _ 1) (Nat.le_of_ble_eq_true rfl) rfl ?_
          refine r_goto X (tgt := 17) d_Co_mostOf_55 (by decide) ?_
          refine V.wk [1, 2, 3, 4, 5, 0] (V.eq (ih_L17_1 (i + 1) (by omega) ) ?_ ?_ ?_ rfl) (rfl : lv_pick _ [1, 2, 3, 4, 5, 0] = [(0, .ref (ads o (84))), (1, .ref (ads o (1))), (2, .long (x)), (4, .int (nI (pop x))), (5, .long (stB (fun b => !decide (2 * pop ((colS (ml 2) b n) &&& x) ≤ pop x)) (i))), (7, .int (nI (i + 1)))])
          · rfl
          · rfl
          · first | (rw [stB_n (by simp_all)]; done) | (rw [stB_y (by simp_all)]; done) | (rw [stB_n] <;> simp_all; done) | (rw [stB_y] <;> simp_all; done)
        · -- not taken
          refine r_lload X 4 d_Co_mostOf_43 rfl ?_
          refine r_lconst X (v := 1) d_Co_mostOf_45 (by decide) ?_
          refine r_iload X 5 d_Co_mostOf_46 rfl ?_
          refine r_lshl X (v := shl (1) (i)) d_Co_mostOf_48 (rfl) ?_
          refine r_lor X (v := (stB (fun b => !decide (2 * pop ((colS (ml 2) b n) &&& x) ≤ pop x)) (i)) ||| (shl (1) (i))) d_Co_mostOf_49 (rfl) ?_
          refine r_lstore X [(5, .long ((stB (fun b => !decide (2 * pop ((colS (ml 2) b n) &&& x) ≤ pop x)) (i)) ||| (shl (1) (i)))), (0, .ref (ads o (84))), (1, .ref (ads o (1))), (2, .long (x)), (4, .int (nI (pop x))), (7, .int (nI (i)))] d_Co_mostOf_50 (Nat.le_of_ble_eq_true rfl) rfl ?_
          refine r_iinc X 5 (v := nI (i + 1)) [(7, .int (nI (i + 1))), (5, .long ((stB (fun b => !decide (2 * pop ((colS (ml 2) b n) &&& x) ≤ pop x)) (i)) ||| (shl (1) (i)))), (0, .ref (ads o (84))), (1, .ref (ads o (1))), (2, .long (x)), (4, .int (nI (pop x)))] d_Co_mostOf_52 rfl (nI_add _ 1) (Nat.le_of_ble_eq_true rfl) rfl ?_
          refine r_goto X (tgt := 17) d_Co_mostOf_55 (by decide) ?_
          refine V.wk [2, 3, 4, 5, 1, 0] (V.eq (ih_L17_1 (i + 1) (by omega) ) ?_ ?_ ?_ rfl) (rfl : lv_pick _ [2, 3, 4, 5, 1, 0] = [(0, .ref (ads o (84))), (1, .ref (ads o (1))), (2, .long (x)), (4, .int (nI (pop x))), (5, .long ((stB (fun b => !decide (2 * pop ((colS (ml 2) b n) &&& x) ≤ pop x)) (i)) ||| (shl (1) (i)))), (7, .int (nI (i + 1)))])
          · rfl
          · rfl
          · first | (rw [stB_n (by simp_all)]; done) | (rw [stB_y (by simp_all)]; done) | (rw [stB_n] <;> simp_all; done) | (rw [stB_y] <;> simp_all; done)
  refine V.wk [3, 4, 5, 2, 1, 0] (V.eq (L17_1 (64 - 0) 0 (by omega) ) ?_ ?_ ?_ rfl) (rfl : lv_pick _ [3, 4, 5, 2, 1, 0] = [(0, .ref (ads o (84))), (1, .ref (ads o (1))), (2, .long (x)), (4, .int (nI (pop x))), (5, .long (0)), (7, .int (nI (0)))])
  · rfl
  · rfl
  · rfl
end
section
set_option maxHeartbeats 4000000 in
set_option maxRecDepth 100000 in
theorem m_Gr_has (l : Launch) (o : OM) (mi : MI) (ml : ML) (g : Int32) (c : Nat) (hc : mi 81 2 = nI c) (hc40 : c ≤ 40) : ConD l y_Gr_has c_Gr_has 2 (some .boolean) 0 0 o [.ref (ads o (81)), .int (g)] mi ml (some (.int (bI (isMk c g)))) mi ml := by
  refine Con.mk (by decide) (Nat.le_of_ble_eq_true rfl) (fun γ X => ?_)
  show V γ o 2 mi ml 0 [(0, .ref (ads o (81))), (1, .int (g))] []
  refine r_iload_n X 1 d_Gr_has_0 rfl rfl ?_
  have hJ_1 : V γ o 2 mi ml 17 [(0, .ref (ads o (81))), (1, .int (g))] [.int (bI ((!decide (g < 0) && !decide ((nI (c)) ≤ g))))] := by
    refine r_end_z X (bI_nar _) d_Gr_has_17 ?_
    refine ⟨?_, rfl, rfl⟩; rw [isMk_cl]
  refine r_iflt X (tgt := 16) (c := g < 0) d_Gr_has_1 (by decide) (Iff.rfl) (fun c_1 => ?_) (fun c_1 => ?_)
  · -- taken
    refine r_iconst X (v := nI (0)) d_Gr_has_16 (by decide) ?_
    exact V.eq hJ_1 rfl rfl rfl (by rw [show ((!decide (g < 0) && !decide ((nI (c)) ≤ g))) = false from by first | (simp only [eq_true c_1, decide_true, decide_false, Bool.not_true, Bool.not_false, Bool.true_and, Bool.false_and, Bool.and_true, Bool.and_false, Bool.true_or, Bool.false_or, Bool.or_true, Bool.or_false, if_true, if_false, ite_true, ite_false, cond_true, cond_false, Bool.false_eq_true, reduceIte]; done) | (simp [c_1]; done) | (simp_all; done)]; rfl)
  · -- not taken
    refine r_iload_n X 1 d_Gr_has_4 rfl rfl ?_
    refine r_aload_n X 0 d_Gr_has_5 rfl rfl ?_
    refine r_get X f_Gr_18 b_81 e_81 (v := .int (nI (c))) (congrArg (fun z => some (Value.int z)) (hc)) d_Gr_has_6 ?_
    refine r_icge X (tgt := 16) (c := (nI (c)) ≤ g) d_Gr_has_9 (by decide) (Iff.rfl) (fun c_9 => ?_) (fun c_9 => ?_)
    · -- taken
      refine r_iconst X (v := nI (0)) d_Gr_has_16 (by decide) ?_
      exact V.eq hJ_1 rfl rfl rfl (by rw [show ((!decide (g < 0) && !decide ((nI (c)) ≤ g))) = false from by first | (simp only [eq_false c_1, eq_true c_9, decide_true, decide_false, Bool.not_true, Bool.not_false, Bool.true_and, Bool.false_and, Bool.and_true, Bool.and_false, Bool.true_or, Bool.false_or, Bool.or_true, Bool.or_false, if_true, if_false, ite_true, ite_false, cond_true, cond_false, Bool.false_eq_true, reduceIte]; done) | (simp [c_1, c_9]; done) | (simp_all; done)]; rfl)
    · -- not taken
      refine r_iconst X (v := nI (1)) d_Gr_has_12 (by decide) ?_
      refine r_goto X (tgt := 17) d_Gr_has_13 (by decide) ?_
      exact V.eq hJ_1 rfl rfl rfl (by rw [show ((!decide (g < 0) && !decide ((nI (c)) ≤ g))) = true from by first | (simp only [eq_false c_1, eq_false c_9, decide_true, decide_false, Bool.not_true, Bool.not_false, Bool.true_and, Bool.false_and, Bool.and_true, Bool.and_false, Bool.true_or, Bool.false_or, Bool.or_true, Bool.or_false, if_true, if_false, ite_true, ite_false, cond_true, cond_false, Bool.false_eq_true, reduceIte]; done) | (simp [c_1, c_9]; done) | (simp_all; done)]; rfl)

set_option maxHeartbeats 4000000 in
set_option maxRecDepth 100000 in
theorem m_Gr_findClose (l : Launch) (o : OM) (mi : MI) (ml : ML) (b : Nat) (n : Nat) (hn : mi 1 2 = nI n) (hn40 : n ≤ 40) (hb : b ≤ 64) : Con l y_Gr_findClose c_Gr_findClose 5 none 3 66 o [.ref (ads o (81)), .ref (ads o (1)), .int (nI (b))] mi ml (fun v m z => v = none ∧ m = mi ∧ (∀ j, j < n → z 83 j = clS (ml 2) n b j) ∧ ∀ t, t ≠ 83 → z t = ml t) := by
  refine Con.mk (by decide) (Nat.le_of_ble_eq_true rfl) (fun γ X => ?_)
  show V γ o 5 mi ml 0 [(0, .ref (ads o (81))), (1, .ref (ads o (1))), (2, .int (nI (b)))] []
  refine r_iconst X (v := nI (0)) d_Gr_findClose_0 (by decide) ?_
  refine r_istore_n X [(3, .int (nI (0))), (0, .ref (ads o (81))), (1, .ref (ads o (1))), (2, .int (nI (b)))] d_Gr_findClose_1 rfl (Nat.le_of_ble_eq_true rfl) rfl ?_
  have L2_1 : ∀ (d_i i : Nat), i + d_i = n → ∀ (ml_L2_1 : ML), (∀ t, t ≠ 83 → ml_L2_1 t = ml t) → (∀ q, q < i → ml_L2_1 83 q = clS (ml 2) n b q) → V γ o 5 mi ml_L2_1 2 [(0, .ref (ads o (81))), (1, .ref (ads o (1))), (2, .int (nI (b))), (3, .int (nI (i)))] [] := by
    intro d_i
    induction d_i with
    | zero =>
      intro i hi_L2_1 ml_L2_1 hg hcl
      have he_L2_1 : n = i := by omega
      subst he_L2_1
      refine r_iload_n X 3 d_Gr_findClose_2 rfl rfl ?_
      refine r_aload_n X 1 d_Gr_findClose_3 rfl rfl ?_
      refine r_get X f_Gr_26 b_1 e_1 (v := .int (nI (n))) (congrArg (fun z => some (Value.int z)) (hn)) d_Gr_findClose_4 ?_
      refine r_icge X (tgt := 65) (c := n ≤ n) d_Gr_findClose_7 (by decide) (nI_leI (by omega) (by omega)) (fun c_7 => ?_) (fun c_7 => ?_)
      · -- taken
        refine r_end_v X d_Gr_findClose_65 ?_
        exact ⟨rfl, rfl, hcl, hg⟩
      · -- not taken
        exact False.elim (by omega)
    | succ d_i ih_L2_1 =>
      intro i hi_L2_1 ml_L2_1 hg hcl
      have hlt_L2_1 : i < n := by omega
      refine r_iload_n X 3 d_Gr_findClose_2 rfl rfl ?_
      refine r_aload_n X 1 d_Gr_findClose_3 rfl rfl ?_
      refine r_get X f_Gr_26 b_1 e_1 (v := .int (nI (n))) (congrArg (fun z => some (Value.int z)) (hn)) d_Gr_findClose_4 ?_
      refine r_icge X (tgt := 65) (c := n ≤ i) d_Gr_findClose_7 (by decide) (nI_leI (by omega) (by omega)) (fun c_7_2 => ?_) (fun c_7_2 => ?_)
      · -- taken
        exact False.elim (by omega)
      · -- not taken
        refine r_aload_n X 0 d_Gr_findClose_10 rfl rfl ?_
        refine r_get X f_Gr_15 b_81 e_81 (v := .ref (ads o (83))) rfl d_Gr_findClose_11 ?_
        refine r_iload_n X 3 d_Gr_findClose_14 rfl rfl ?_
        refine r_lconst X (v := 0) d_Gr_findClose_15 (by decide) ?_
        refine r_last X b_83 e_83 (Nat.le_of_ble_eq_true rfl) (by omega) d_Gr_findClose_16 ?_
        refine r_iconst X (v := nI (0)) d_Gr_findClose_17 (by decide) ?_
        refine r_istore X [(4, .int (nI (0))), (0, .ref (ads o (81))), (1, .ref (ads o (1))), (2, .int (nI (b))), (3, .int (nI (i)))] d_Gr_findClose_18 (Nat.le_of_ble_eq_true rfl) rfl ?_
        have L20_3 : ∀ (d_j j : Nat), j + d_j = n → ∀ (ml_L20_3 : ML), (∀ t, t ≠ 83 → ml_L20_3 t = ml t) → (∀ q, q < i → ml_L20_3 83 q = clS (ml 2) n b q) → (ml_L20_3 83 i = stB (fun k => !decide (b < ds (ml 2 i) (ml 2 k))) j) → V γ o 5 mi ml_L20_3 20 [(0, .ref (ads o (81))), (1, .ref (ads o (1))), (2, .int (nI (b))), (3, .int (nI (i))), (4, .int (nI (j)))] [] := by
          intro d_j
          induction d_j with
          | zero =>
            intro j hi_L20_3 ml_L20_3 hg2 hcl2 hcur
            have he_L20_3 : n = j := by omega
            subst he_L20_3
            refine r_iload X 4 d_Gr_findClose_20 rfl ?_
            refine r_aload_n X 1 d_Gr_findClose_22 rfl rfl ?_
            refine r_get X f_Gr_26 b_1 e_1 (v := .int (nI (n))) (congrArg (fun z => some (Value.int z)) (hn)) d_Gr_findClose_23 ?_
            refine r_icge X (tgt := 59) (c := n ≤ n) d_Gr_findClose_26 (by decide) (nI_leI (by omega) (by omega)) (fun c_26 => ?_) (fun c_26 => ?_)
            · -- taken
              refine r_iinc X 3 (v := nI (i + 1)) [(3, .int (nI (i + 1))), (0, .ref (ads o (81))), (1, .ref (ads o (1))), (2, .int (nI (b))), (4, .int (nI (n)))] d_Gr_findClose_59 rfl (nI_add _ 1) (Nat.le_of_ble_eq_true rfl) rfl ?_
              refine r_goto X (tgt := 2) d_Gr_findClose_62 (by decide) ?_
              refine V.wk [1, 2, 3, 0] (V.eq (ih_L2_1 (i + 1) (by omega) (ml_L20_3) (hg2) (cl_st hcl2 hcur)) ?_ ?_ ?_ rfl) (rfl : lv_pick _ [1, 2, 3, 0] = [(0, .ref (ads o (81))), (1, .ref (ads o (1))), (2, .int (nI (b))), (3, .int (nI (i + 1)))])
              · rfl
              · rfl
              · first | rfl | (simp_all [ct, lastB, alB, fromB]; done)
            · -- not taken
              exact False.elim (by omega)
          | succ d_j ih_L20_3 =>
            intro j hi_L20_3 ml_L20_3 hg2 hcl2 hcur
            have hlt_L20_3 : j < n := by omega
            refine r_iload X 4 d_Gr_findClose_20 rfl ?_
            refine r_aload_n X 1 d_Gr_findClose_22 rfl rfl ?_
            refine r_get X f_Gr_26 b_1 e_1 (v := .int (nI (n))) (congrArg (fun z => some (Value.int z)) (hn)) d_Gr_findClose_23 ?_
            refine r_icge X (tgt := 59) (c := n ≤ j) d_Gr_findClose_26 (by decide) (nI_leI (by omega) (by omega)) (fun c_26_4 => ?_) (fun c_26_4 => ?_)
            · -- taken
              exact False.elim (by omega)
            · -- not taken
              refine r_aload_n X 1 d_Gr_findClose_29 rfl rfl ?_
              refine r_iload_n X 3 d_Gr_findClose_30 rfl rfl ?_
              refine r_iload X 4 d_Gr_findClose_31 rfl ?_
              refine r_callV X (m_St_between l o mi ml_L20_3 1 i j isSt.now (by omega) (by omega)) ok_St_between w_Gr_37 rfl b_1 e_1 rfl ⟨Nat.le_of_ble_eq_true rfl, Nat.le_of_ble_eq_true rfl⟩ (rest := []) rfl (Nat.le_of_ble_eq_true rfl) d_Gr_findClose_33 ?_
              refine kD (st' := [.int (nI (ds (ml_L20_3 2 i) (ml_L20_3 2 j)))]) rfl ?_
              rw [hg2 2 (by decide)]
              refine r_iload_n X 2 d_Gr_findClose_36 rfl rfl ?_
              refine r_icgt X (tgt := 53) (c := b < (ds (ml 2 i) (ml 2 j))) d_Gr_findClose_37 (by decide) (nI_ltI (by omega) (ds_lt _ _)) (fun c_37 => ?_) (fun c_37 => ?_)
              · -- taken
                refine r_iinc X 4 (v := nI (j + 1)) [(4, .int (nI (j + 1))), (0, .ref (ads o (81))), (1, .ref (ads o (1))), (2, .int (nI (b))), (3, .int (nI (i)))] d_Gr_findClose_53 rfl (nI_add _ 1) (Nat.le_of_ble_eq_true rfl) rfl ?_
                refine r_goto X (tgt := 20) d_Gr_findClose_56 (by decide) ?_
                refine V.wk [1, 2, 3, 4, 0] (V.eq (ih_L20_3 (j + 1) (by omega) (ml_L20_3) (hg2) (hcl2) (hcur.trans (stB_n (p := (fun k => !decide (b < ds (ml 2 i) (ml 2 k)))) (by simp; omega)).symm)) ?_ ?_ ?_ rfl) (rfl : lv_pick _ [1, 2, 3, 4, 0] = [(0, .ref (ads o (81))), (1, .ref (ads o (1))), (2, .int (nI (b))), (3, .int (nI (i))), (4, .int (nI (j + 1)))])
                · rfl
                · rfl
                · first | rfl | (simp_all [ct, lastB, alB, fromB]; done)
              · -- not taken
                refine r_aload_n X 0 d_Gr_findClose_40 rfl rfl ?_
                refine r_get X f_Gr_15 b_81 e_81 (v := .ref (ads o (83))) rfl d_Gr_findClose_41 ?_
                refine r_iload_n X 3 d_Gr_findClose_44 rfl rfl ?_
                refine r_dup2_11 X d_Gr_findClose_45 rfl rfl ?_
                refine r_lald X (v := stB (fun k => !decide (b < ds (ml 2 i) (ml 2 k))) j) b_83 e_83 (Nat.le_of_ble_eq_true rfl) (by omega) (hcur) d_Gr_findClose_46 ?_
                refine r_lconst X (v := 1) d_Gr_findClose_47 (by decide) ?_
                refine r_iload X 4 d_Gr_findClose_48 rfl ?_
                refine r_lshl X (v := shl (1) (j)) d_Gr_findClose_50 (rfl) ?_
                refine r_lor X (v := (stB (fun k => !decide (b < ds (ml 2 i) (ml 2 k))) j) ||| (shl (1) (j))) d_Gr_findClose_51 (rfl) ?_
                refine r_last X b_83 e_83 (Nat.le_of_ble_eq_true rfl) (by omega) d_Gr_findClose_52 ?_
                refine r_iinc X 4 (v := nI (j + 1)) [(4, .int (nI (j + 1))), (0, .ref (ads o (81))), (1, .ref (ads o (1))), (2, .int (nI (b))), (3, .int (nI (i)))] d_Gr_findClose_53 rfl (nI_add _ 1) (Nat.le_of_ble_eq_true rfl) rfl ?_
                refine r_goto X (tgt := 20) d_Gr_findClose_56 (by decide) ?_
                refine V.wk [1, 2, 3, 4, 0] (V.eq (ih_L20_3 (j + 1) (by omega) ((u2 ml_L20_3 83 i ((stB (fun k => !decide (b < ds (ml 2 i) (ml 2 k))) j) ||| (shl (1) (j))))) (fun t h1 => by rw [u2_n _ _ _ h1]; exact hg2 t h1) (row_kept hcl2) ((by rw [u2_s, uf_s]; exact (stB_y (p := (fun k => !decide (b < ds (ml 2 i) (ml 2 k)))) (by simp; omega)).symm))) ?_ ?_ ?_ rfl) (rfl : lv_pick _ [1, 2, 3, 4, 0] = [(0, .ref (ads o (81))), (1, .ref (ads o (1))), (2, .int (nI (b))), (3, .int (nI (i))), (4, .int (nI (j + 1)))])
                · rfl
                · rfl
                · first | rfl | (simp_all [ct, lastB, alB, fromB]; done)
        refine V.wk [1, 2, 3, 4, 0] (V.eq (L20_3 (n - 0) 0 (by omega) ((u2 ml_L2_1 83 i (0))) (fun t h1 => by rw [u2_n _ _ _ h1]; exact hg t h1) (row_kept hcl) (by rw [u2_s, uf_s]; rfl)) ?_ ?_ ?_ rfl) (rfl : lv_pick _ [1, 2, 3, 4, 0] = [(0, .ref (ads o (81))), (1, .ref (ads o (1))), (2, .int (nI (b))), (3, .int (nI (i))), (4, .int (nI (0)))])
        · rfl
        · rfl
        · rfl
  refine V.wk [1, 2, 3, 0] (V.eq (L2_1 (n - 0) 0 (by omega) (ml) (fun _ _ => rfl) (fun q hq => absurd hq (by omega))) ?_ ?_ ?_ rfl) (rfl : lv_pick _ [1, 2, 3, 0] = [(0, .ref (ads o (81))), (1, .ref (ads o (1))), (2, .int (nI (b))), (3, .int (nI (0)))])
  · rfl
  · rfl
  · rfl

set_option maxHeartbeats 4000000 in
set_option maxRecDepth 100000 in
theorem m_Gr_spread (l : Launch) (o : OM) (mi : MI) (ml : ML) (f : Nat) (n : Nat) (cl : Nat → Int64) (hn40 : n ≤ 40) (hf : f < n) (hcl : ∀ j, j < n → ml 83 j = cl j) : ConD l y_Gr_spread c_Gr_spread 9 (some .long) 1 22 o [.ref (ads o (81)), .int (nI (f)), .int (nI (n))] mi ml (some (.long (sprS cl n (cl f) n))) mi ml := by
  refine Con.mk (by decide) (Nat.le_of_ble_eq_true rfl) (fun γ X => ?_)
  show V γ o 9 mi ml 0 [(0, .ref (ads o (81))), (1, .int (nI (f))), (2, .int (nI (n)))] []
  refine r_aload_n X 0 d_Gr_spread_0 rfl rfl ?_
  refine r_get X f_Gr_15 b_81 e_81 (v := .ref (ads o (83))) rfl d_Gr_spread_1 ?_
  refine r_iload_n X 1 d_Gr_spread_4 rfl rfl ?_
  refine r_lald X (v := cl f) b_83 e_83 (Nat.le_of_ble_eq_true rfl) (by omega) (hcl _ (by omega)) d_Gr_spread_5 ?_
  refine r_lstore_n X [(3, .long (cl f)), (0, .ref (ads o (81))), (1, .int (nI (f))), (2, .int (nI (n)))] d_Gr_spread_6 rfl (Nat.le_of_ble_eq_true rfl) rfl ?_
  refine r_iconst X (v := nI (0)) d_Gr_spread_7 (by decide) ?_
  refine r_istore X [(5, .int (nI (0))), (3, .long (cl f)), (0, .ref (ads o (81))), (1, .int (nI (f))), (2, .int (nI (n)))] d_Gr_spread_8 (Nat.le_of_ble_eq_true rfl) rfl ?_
  have L10_1 : ∀ (d_r r : Nat), r + d_r = n → V γ o 9 mi ml 10 [(0, .ref (ads o (81))), (1, .int (nI (f))), (2, .int (nI (n))), (3, .long (sprS cl n (cl f) r)), (5, .int (nI (r)))] [] := by
    intro d_r
    induction d_r with
    | zero =>
      intro r hi_L10_1 
      have he_L10_1 : n = r := by omega
      subst he_L10_1
      refine r_iload X 4 d_Gr_spread_10 rfl ?_
      refine r_iload_n X 2 d_Gr_spread_12 rfl rfl ?_
      refine r_icge X (tgt := 69) (c := n ≤ n) d_Gr_spread_13 (by decide) (nI_leI (by omega) (by omega)) (fun c_13 => ?_) (fun c_13 => ?_)
      · -- taken
        refine r_lload_n X 3 d_Gr_spread_69 rfl rfl ?_
        refine r_end_l X d_Gr_spread_70 ?_
        exact ⟨rfl, rfl, rfl⟩
      · -- not taken
        exact False.elim (by omega)
    | succ d_r ih_L10_1 =>
      intro r hi_L10_1 
      have hlt_L10_1 : r < n := by omega
      refine r_iload X 4 d_Gr_spread_10 rfl ?_
      refine r_iload_n X 2 d_Gr_spread_12 rfl rfl ?_
      refine r_icge X (tgt := 69) (c := n ≤ r) d_Gr_spread_13 (by decide) (nI_leI (by omega) (by omega)) (fun c_13_2 => ?_) (fun c_13_2 => ?_)
      · -- taken
        exact False.elim (by omega)
      · -- not taken
        refine r_lload_n X 3 d_Gr_spread_16 rfl rfl ?_
        refine r_lstore X [(6, .long (sprS cl n (cl f) r)), (0, .ref (ads o (81))), (1, .int (nI (f))), (2, .int (nI (n))), (3, .long (sprS cl n (cl f) r)), (5, .int (nI (r)))] d_Gr_spread_17 (Nat.le_of_ble_eq_true rfl) rfl ?_
        refine r_iconst X (v := nI (0)) d_Gr_spread_19 (by decide) ?_
        refine r_istore X [(8, .int (nI (0))), (6, .long (sprS cl n (cl f) r)), (0, .ref (ads o (81))), (1, .int (nI (f))), (2, .int (nI (n))), (3, .long (sprS cl n (cl f) r)), (5, .int (nI (r)))] d_Gr_spread_20 (Nat.le_of_ble_eq_true rfl) rfl ?_
        have L22_3 : ∀ (d_k k : Nat), k + d_k = n → V γ o 9 mi ml 22 [(0, .ref (ads o (81))), (1, .int (nI (f))), (2, .int (nI (n))), (3, .long (psS cl (sprS cl n (cl f) r) k)), (5, .int (nI (r))), (6, .long (sprS cl n (cl f) r)), (8, .int (nI (k)))] [] := by
          intro d_k
          induction d_k with
          | zero =>
            intro k hi_L22_3 
            have he_L22_3 : n = k := by omega
            subst he_L22_3
            refine r_iload X 6 d_Gr_spread_22 rfl ?_
            refine r_iload_n X 2 d_Gr_spread_24 rfl rfl ?_
            refine r_icge X (tgt := 53) (c := n ≤ n) d_Gr_spread_25 (by decide) (nI_leI (by omega) (by omega)) (fun c_25 => ?_) (fun c_25 => ?_)
            · -- taken
              refine r_lload_n X 3 d_Gr_spread_53 rfl rfl ?_
              refine r_lload X 5 d_Gr_spread_54 rfl ?_
              refine r_lcmp X d_Gr_spread_56 ?_
              refine r_ifneP X (tgt := 63) (c := (psS cl (sprS cl n (cl f) r) n) = (sprS cl n (cl f) r)) d_Gr_spread_57 (by decide) (lg_cmp_eq _ _) (fun c_57 => ?_) (fun c_57 => ?_)
              · -- taken
                refine r_iinc X 4 (v := nI (r + 1)) [(5, .int (nI (r + 1))), (0, .ref (ads o (81))), (1, .int (nI (f))), (2, .int (nI (n))), (3, .long (psS cl (sprS cl n (cl f) r) n)), (6, .long (sprS cl n (cl f) r)), (8, .int (nI (n)))] d_Gr_spread_63 rfl (nI_add _ 1) (Nat.le_of_ble_eq_true rfl) rfl ?_
                refine r_goto X (tgt := 10) d_Gr_spread_66 (by decide) ?_
                refine V.wk [1, 2, 3, 4, 0] (V.eq (ih_L10_1 (r + 1) (by omega) ) ?_ ?_ ?_ rfl) (rfl : lv_pick _ [1, 2, 3, 4, 0] = [(0, .ref (ads o (81))), (1, .int (nI (f))), (2, .int (nI (n))), (3, .long (psS cl (sprS cl n (cl f) r) n)), (5, .int (nI (r + 1)))])
                · rfl
                · rfl
                · first | rfl | (simp_all [ct, lastB, alB, fromB]; done)
              · -- not taken
                refine r_goto X (tgt := 69) d_Gr_spread_60 (by decide) ?_
                refine r_lload_n X 3 d_Gr_spread_69 rfl rfl ?_
                refine r_end_l X d_Gr_spread_70 ?_
                refine ⟨?_, rfl, rfl⟩; have hfx2 := sprS_fix (by assumption) (n - r); rw [show r + (n - r) = n by omega] at hfx2; rw [hfx2]; exact congrArg (fun z => some (Value.long z)) (by assumption)
            · -- not taken
              exact False.elim (by omega)
          | succ d_k ih_L22_3 =>
            intro k hi_L22_3 
            have hlt_L22_3 : k < n := by omega
            refine r_iload X 6 d_Gr_spread_22 rfl ?_
            refine r_iload_n X 2 d_Gr_spread_24 rfl rfl ?_
            refine r_icge X (tgt := 53) (c := n ≤ k) d_Gr_spread_25 (by decide) (nI_leI (by omega) (by omega)) (fun c_25_4 => ?_) (fun c_25_4 => ?_)
            · -- taken
              exact False.elim (by omega)
            · -- not taken
              refine r_lload_n X 3 d_Gr_spread_28 rfl rfl ?_
              refine r_iload X 6 d_Gr_spread_29 rfl ?_
              refine r_callN X (m_Nm_hasBit l o mi ml (psS cl (sprS cl n (cl f) r) k) k (by omega)) ok_Nm_hasBit (host := "NearMarks") (by decide +kernel) rfl ⟨Nat.le_of_ble_eq_true rfl, Nat.le_of_ble_eq_true rfl⟩ (rest := []) rfl (Nat.le_of_ble_eq_true rfl) d_Gr_spread_31 ?_
              refine kD (st' := [.int (bI (bt (psS cl (sprS cl n (cl f) r) k) k))]) rfl ?_
              refine r_ifeqB X (tgt := 47) (b := bt (psS cl (sprS cl n (cl f) r) k) k) d_Gr_spread_34 (by decide) (fun c_34 => ?_) (fun c_34 => ?_)
              · -- taken
                refine r_iinc X 6 (v := nI (k + 1)) [(8, .int (nI (k + 1))), (0, .ref (ads o (81))), (1, .int (nI (f))), (2, .int (nI (n))), (3, .long (psS cl (sprS cl n (cl f) r) k)), (5, .int (nI (r))), (6, .long (sprS cl n (cl f) r))] d_Gr_spread_47 rfl (nI_add _ 1) (Nat.le_of_ble_eq_true rfl) rfl ?_
                refine r_goto X (tgt := 22) d_Gr_spread_50 (by decide) ?_
                refine V.wk [1, 2, 3, 4, 5, 6, 0] (V.eq (ih_L22_3 (k + 1) (by omega) ) ?_ ?_ ?_ rfl) (rfl : lv_pick _ [1, 2, 3, 4, 5, 6, 0] = [(0, .ref (ads o (81))), (1, .int (nI (f))), (2, .int (nI (n))), (3, .long (psS cl (sprS cl n (cl f) r) k)), (5, .int (nI (r))), (6, .long (sprS cl n (cl f) r)), (8, .int (nI (k + 1)))])
                · rfl
                · rfl
                · first | (rw [psS_y (by assumption)]; done) | (rw [psS_n (by assumption)]; done)
              · -- not taken
                refine r_lload_n X 3 d_Gr_spread_37 rfl rfl ?_
                refine r_aload_n X 0 d_Gr_spread_38 rfl rfl ?_
                refine r_get X f_Gr_15 b_81 e_81 (v := .ref (ads o (83))) rfl d_Gr_spread_39 ?_
                refine r_iload X 6 d_Gr_spread_42 rfl ?_
                refine r_lald X (v := cl k) b_83 e_83 (Nat.le_of_ble_eq_true rfl) (by omega) (hcl _ (by omega)) d_Gr_spread_44 ?_
                refine r_lor X (v := (psS cl (sprS cl n (cl f) r) k) ||| (cl k)) d_Gr_spread_45 (rfl) ?_
                refine r_lstore_n X [(3, .long ((psS cl (sprS cl n (cl f) r) k) ||| (cl k))), (0, .ref (ads o (81))), (1, .int (nI (f))), (2, .int (nI (n))), (5, .int (nI (r))), (6, .long (sprS cl n (cl f) r)), (8, .int (nI (k)))] d_Gr_spread_46 rfl (Nat.le_of_ble_eq_true rfl) rfl ?_
                refine r_iinc X 6 (v := nI (k + 1)) [(8, .int (nI (k + 1))), (3, .long ((psS cl (sprS cl n (cl f) r) k) ||| (cl k))), (0, .ref (ads o (81))), (1, .int (nI (f))), (2, .int (nI (n))), (5, .int (nI (r))), (6, .long (sprS cl n (cl f) r))] d_Gr_spread_47 rfl (nI_add _ 1) (Nat.le_of_ble_eq_true rfl) rfl ?_
                refine r_goto X (tgt := 22) d_Gr_spread_50 (by decide) ?_
                refine V.wk [2, 3, 4, 1, 5, 6, 0] (V.eq (ih_L22_3 (k + 1) (by omega) ) ?_ ?_ ?_ rfl) (rfl : lv_pick _ [2, 3, 4, 1, 5, 6, 0] = [(0, .ref (ads o (81))), (1, .int (nI (f))), (2, .int (nI (n))), (3, .long ((psS cl (sprS cl n (cl f) r) k) ||| (cl k))), (5, .int (nI (r))), (6, .long (sprS cl n (cl f) r)), (8, .int (nI (k + 1)))])
                · rfl
                · rfl
                · first | (rw [psS_y (by assumption)]; done) | (rw [psS_n (by assumption)]; done)
        refine V.wk [2, 3, 4, 5, 6, 1, 0] (V.eq (L22_3 (n - 0) 0 (by omega) ) ?_ ?_ ?_ rfl) (rfl : lv_pick _ [2, 3, 4, 5, 6, 1, 0] = [(0, .ref (ads o (81))), (1, .int (nI (f))), (2, .int (nI (n))), (3, .long (sprS cl n (cl f) r)), (5, .int (nI (r))), (6, .long (sprS cl n (cl f) r)), (8, .int (nI (0)))])
        · rfl
        · rfl
        · rfl
  refine V.wk [2, 3, 4, 1, 0] (V.eq (L10_1 (n - 0) 0 (by omega) ) ?_ ?_ ?_ rfl) (rfl : lv_pick _ [2, 3, 4, 1, 0] = [(0, .ref (ads o (81))), (1, .int (nI (f))), (2, .int (nI (n))), (3, .long (cl f)), (5, .int (nI (0)))])
  · rfl
  · rfl
  · rfl

set_option maxHeartbeats 4000000 in
set_option maxRecDepth 100000 in
theorem m_Gr_join (l : Launch) (o : OM) (mi : MI) (ml : ML) (b : Nat) (n : Nat) (hn : mi 1 2 = nI n) (hn40 : n ≤ 40) (hb : b ≤ 64) : Con l y_Gr_join c_Gr_join 6 none 4 90 o [.ref (ads o (81)), .ref (ads o (1)), .int (nI (b))] mi ml (fun v m z => v = none ∧ m 81 2 = nI (jnS (clS (ml 2) n b) n n).2 ∧ jnOK z (clS (ml 2) n b) n n ∧ (∀ t, t ≠ 81 → m t = mi t) ∧ ∀ t, t ≠ 82 → t ≠ 83 → z t = ml t) := by
  refine Con.mk (by decide) (Nat.le_of_ble_eq_true rfl) (fun γ X => ?_)
  show V γ o 6 mi ml 0 [(0, .ref (ads o (81))), (1, .ref (ads o (1))), (2, .int (nI (b)))] []
  refine r_aload_n X 0 d_Gr_join_0 rfl rfl ?_
  refine r_aload_n X 1 d_Gr_join_1 rfl rfl ?_
  refine r_iload_n X 2 d_Gr_join_2 rfl rfl ?_
  refine r_callV X (m_Gr_findClose l o mi ml b n (hn) hn40 hb) ok_Gr_findClose w_Gr_22 rfl b_81 e_81 rfl ⟨Nat.le_of_ble_eq_true rfl, Nat.le_of_ble_eq_true rfl⟩ (rest := []) rfl (Nat.le_of_ble_eq_true rfl) d_Gr_join_3 ?_
  rintro _ mm zc ⟨rfl, hmm, hcl, hg⟩
  have hmm := hmm.symm
  subst hmm
  show V γ o 6 mi zc 6 [(0, .ref (ads o (81))), (1, .ref (ads o (1))), (2, .int (nI (b)))] []
  refine r_lconst X (v := 0) d_Gr_join_6 (by decide) ?_
  refine r_lstore_n X [(3, .long (0)), (0, .ref (ads o (81))), (1, .ref (ads o (1))), (2, .int (nI (b)))] d_Gr_join_7 rfl (Nat.le_of_ble_eq_true rfl) rfl ?_
  refine r_aload_n X 1 d_Gr_join_8 rfl rfl ?_
  refine r_iconst X (v := nI (0)) d_Gr_join_9 (by decide) ?_
  refine r_putI X fw_Gr_18 b_81 e_81 (fun _ _ => rfl) (Nat.le_of_ble_eq_true rfl) d_Gr_join_10 ?_
  refine r_iconst X (v := nI (0)) d_Gr_join_13 (by decide) ?_
  refine r_istore X [(5, .int (nI (0))), (3, .long (0)), (0, .ref (ads o (81))), (1, .ref (ads o (1))), (2, .int (nI (b)))] d_Gr_join_14 (Nat.le_of_ble_eq_true rfl) rfl ?_
  have L16_1 : ∀ (d_i i : Nat), i + d_i = n → ∀ (mi_L16_1 : MI), ∀ (ml_L16_1 : ML), (∀ t, t ≠ 81 → mi_L16_1 t = mi t) → (∀ t, t ≠ 82 → t ≠ 83 → ml_L16_1 t = ml t) → (∀ j, j < n → ml_L16_1 83 j = clS (ml 2) n b j) → (mi_L16_1 81 2 = nI (jnS (clS (ml 2) n b) n i).2) → (jnOK ml_L16_1 (clS (ml 2) n b) n i) → V γ o 6 mi_L16_1 ml_L16_1 16 [(0, .ref (ads o (81))), (1, .ref (ads o (1))), (2, .int (nI (b))), (3, .long ((jnS (clS (ml 2) n b) n i).1)), (5, .int (nI (i)))] [] := by
    intro d_i
    induction d_i with
    | zero =>
      intro i hi_L16_1 mi_L16_1 ml_L16_1 hfi hfl hcl2 hcnt hjn
      have he_L16_1 : n = i := by omega
      subst he_L16_1
      refine r_iload X 4 d_Gr_join_16 rfl ?_
      refine r_aload_n X 1 d_Gr_join_18 rfl rfl ?_
      refine r_get X f_Gr_26 b_1 e_1 (v := .int (nI (n))) (congrArg (fun z => some (Value.int z)) ((by rw [hfi 1 (by decide)]; exact hn))) d_Gr_join_19 ?_
      refine r_icge X (tgt := 81) (c := n ≤ n) d_Gr_join_22 (by decide) (nI_leI (by omega) (by omega)) (fun c_22 => ?_) (fun c_22 => ?_)
      · -- taken
        refine r_end_v X d_Gr_join_81 ?_
        exact ⟨rfl, hcnt, hjn, hfi, hfl⟩
      · -- not taken
        exact False.elim (by omega)
    | succ d_i ih_L16_1 =>
      intro i hi_L16_1 mi_L16_1 ml_L16_1 hfi hfl hcl2 hcnt hjn
      have hlt_L16_1 : i < n := by omega
      refine r_iload X 4 d_Gr_join_16 rfl ?_
      refine r_aload_n X 1 d_Gr_join_18 rfl rfl ?_
      refine r_get X f_Gr_26 b_1 e_1 (v := .int (nI (n))) (congrArg (fun z => some (Value.int z)) ((by rw [hfi 1 (by decide)]; exact hn))) d_Gr_join_19 ?_
      refine r_icge X (tgt := 81) (c := n ≤ i) d_Gr_join_22 (by decide) (nI_leI (by omega) (by omega)) (fun c_22_2 => ?_) (fun c_22_2 => ?_)
      · -- taken
        exact False.elim (by omega)
      · -- not taken
        refine r_lload_n X 3 d_Gr_join_25 rfl rfl ?_
        refine r_iload X 4 d_Gr_join_26 rfl ?_
        refine r_callN X (m_Nm_hasBit l o mi_L16_1 ml_L16_1 ((jnS (clS (ml 2) n b) n i).1) i (by omega)) ok_Nm_hasBit (host := "NearMarks") (by decide +kernel) rfl ⟨Nat.le_of_ble_eq_true rfl, Nat.le_of_ble_eq_true rfl⟩ (rest := []) rfl (Nat.le_of_ble_eq_true rfl) d_Gr_join_28 ?_
        refine kD (st' := [.int (bI (bt ((jnS (clS (ml 2) n b) n i).1) i))]) rfl ?_
        refine r_ifneB X (tgt := 75) (b := bt ((jnS (clS (ml 2) n b) n i).1) i) d_Gr_join_31 (by decide) (fun c_31 => ?_) (fun c_31 => ?_)
        · -- taken
          refine r_iinc X 4 (v := nI (i + 1)) [(5, .int (nI (i + 1))), (0, .ref (ads o (81))), (1, .ref (ads o (1))), (2, .int (nI (b))), (3, .long ((jnS (clS (ml 2) n b) n i).1))] d_Gr_join_75 rfl (nI_add _ 1) (Nat.le_of_ble_eq_true rfl) rfl ?_
          refine r_goto X (tgt := 16) d_Gr_join_78 (by decide) ?_
          refine V.wk [1, 2, 3, 4, 0] (V.eq (ih_L16_1 (i + 1) (by omega) (mi_L16_1) (ml_L16_1) (hfi) (hfl) (hcl2) (by rw [jnS_y (by assumption)]; exact hcnt) (jnOK_y (by assumption) hjn)) ?_ ?_ ?_ rfl) (rfl : lv_pick _ [1, 2, 3, 4, 0] = [(0, .ref (ads o (81))), (1, .ref (ads o (1))), (2, .int (nI (b))), (3, .long ((jnS (clS (ml 2) n b) n i).1)), (5, .int (nI (i + 1)))])
          · rfl
          · rfl
          · first | (rw [jnS_y (by assumption)]; done) | (rw [jnS_n (by assumption)]; done)
        · -- not taken
          refine r_aload_n X 0 d_Gr_join_34 rfl rfl ?_
          refine r_get X f_Gr_9 b_81 e_81 (v := .ref (ads o (82))) rfl d_Gr_join_35 ?_
          refine r_aload_n X 0 d_Gr_join_38 rfl rfl ?_
          refine r_get X f_Gr_18 b_81 e_81 (v := .int (nI ((jnS (clS (ml 2) n b) n i).2))) (congrArg (fun z => some (Value.int z)) (hcnt)) d_Gr_join_39 ?_
          refine r_aload_n X 0 d_Gr_join_42 rfl rfl ?_
          refine r_iload X 4 d_Gr_join_43 rfl ?_
          refine r_aload_n X 1 d_Gr_join_45 rfl rfl ?_
          refine r_get X f_Gr_26 b_1 e_1 (v := .int (nI (n))) (congrArg (fun z => some (Value.int z)) ((by rw [hfi 1 (by decide)]; exact hn))) d_Gr_join_46 ?_
          refine r_callV X (m_Gr_spread l o mi_L16_1 ml_L16_1 i n (clS (ml 2) n b) (by omega) (by omega) (hcl2)) ok_Gr_spread w_Gr_33 rfl b_81 e_81 rfl ⟨Nat.le_of_ble_eq_true rfl, Nat.le_of_ble_eq_true rfl⟩ (rest := [.int (nI ((jnS (clS (ml 2) n b) n i).2)), .ref (ads o (82))]) rfl (Nat.le_of_ble_eq_true rfl) d_Gr_join_49 ?_
          refine kD (st' := [.long (sprS (clS (ml 2) n b) n ((clS (ml 2) n b) i) n), .int (nI ((jnS (clS (ml 2) n b) n i).2)), .ref (ads o (82))]) rfl ?_
          refine r_last X b_82 e_82 (Nat.le_of_ble_eq_true rfl) (Nat.lt_of_le_of_lt (jnS_le _ _ _) (by omega)) d_Gr_join_52 ?_
          refine r_lload_n X 3 d_Gr_join_53 rfl rfl ?_
          refine r_aload_n X 0 d_Gr_join_54 rfl rfl ?_
          refine r_get X f_Gr_9 b_81 e_81 (v := .ref (ads o (82))) rfl d_Gr_join_55 ?_
          refine r_aload_n X 0 d_Gr_join_58 rfl rfl ?_
          refine r_get X f_Gr_18 b_81 e_81 (v := .int (nI ((jnS (clS (ml 2) n b) n i).2))) (congrArg (fun z => some (Value.int z)) (hcnt)) d_Gr_join_59 ?_
          refine r_lald X (v := sprS (clS (ml 2) n b) n ((clS (ml 2) n b) i) n) b_82 e_82 (Nat.le_of_ble_eq_true rfl) (Nat.lt_of_le_of_lt (jnS_le _ _ _) (by omega)) ((by rw [u2_s, uf_s])) d_Gr_join_62 ?_
          refine r_lor X (v := ((jnS (clS (ml 2) n b) n i).1) ||| (sprS (clS (ml 2) n b) n ((clS (ml 2) n b) i) n)) d_Gr_join_63 (rfl) ?_
          refine r_lstore_n X [(3, .long (((jnS (clS (ml 2) n b) n i).1) ||| (sprS (clS (ml 2) n b) n ((clS (ml 2) n b) i) n))), (0, .ref (ads o (81))), (1, .ref (ads o (1))), (2, .int (nI (b))), (5, .int (nI (i)))] d_Gr_join_64 rfl (Nat.le_of_ble_eq_true rfl) rfl ?_
          refine r_aload_n X 1 d_Gr_join_65 rfl rfl ?_
          refine r_dup X d_Gr_join_66 rfl ?_
          refine r_get X f_Gr_18 b_81 e_81 (v := .int (nI ((jnS (clS (ml 2) n b) n i).2))) (congrArg (fun z => some (Value.int z)) (hcnt)) d_Gr_join_67 ?_
          refine r_iconst X (v := nI (1)) d_Gr_join_70 (by decide) ?_
          refine r_iadd X (v := nI ((jnS (clS (ml 2) n b) n i).2 + 1)) d_Gr_join_71 (nI_add _ _) ?_
          refine r_putI X fw_Gr_18 b_81 e_81 (fun _ _ => rfl) (Nat.le_of_ble_eq_true rfl) d_Gr_join_72 ?_
          refine r_iinc X 4 (v := nI (i + 1)) [(5, .int (nI (i + 1))), (3, .long (((jnS (clS (ml 2) n b) n i).1) ||| (sprS (clS (ml 2) n b) n ((clS (ml 2) n b) i) n))), (0, .ref (ads o (81))), (1, .ref (ads o (1))), (2, .int (nI (b)))] d_Gr_join_75 rfl (nI_add _ 1) (Nat.le_of_ble_eq_true rfl) rfl ?_
          refine r_goto X (tgt := 16) d_Gr_join_78 (by decide) ?_
          refine V.wk [2, 3, 4, 1, 0] (V.eq (ih_L16_1 (i + 1) (by omega) ((u2 mi_L16_1 81 2 (nI ((jnS (clS (ml 2) n b) n i).2 + 1)))) ((u2 ml_L16_1 82 ((jnS (clS (ml 2) n b) n i).2) (sprS (clS (ml 2) n b) n ((clS (ml 2) n b) i) n))) (fun t h1 => by rw [u2_n _ _ _ h1]; exact hfi t h1) (fun t h1 h2 => by rw [u2_n _ _ _ h1]; exact hfl t h1 h2) (fun j hj => by rw [u2_n _ _ _ (by decide)]; exact hcl2 j hj) (by rw [u2_s, uf_s, jnS_n (by assumption)]) (jnOK_n (by assumption) hjn)) ?_ ?_ ?_ rfl) (rfl : lv_pick _ [2, 3, 4, 1, 0] = [(0, .ref (ads o (81))), (1, .ref (ads o (1))), (2, .int (nI (b))), (3, .long (((jnS (clS (ml 2) n b) n i).1) ||| (sprS (clS (ml 2) n b) n ((clS (ml 2) n b) i) n))), (5, .int (nI (i + 1)))])
          · rfl
          · rfl
          · first | (rw [jnS_y (by assumption)]; done) | (rw [jnS_n (by assumption)]; done)
  refine V.wk [2, 3, 4, 1, 0] (V.eq (L16_1 (n - 0) 0 (by omega) ((u2 mi 81 2 (nI (0)))) (zc) (fun t h1 => by rw [u2_n _ _ _ h1]) (fun t _ h2 => hg t h2) (hcl) (by rw [u2_s, uf_s]; rfl) (fun k hk => absurd hk (Nat.not_lt_zero k))) ?_ ?_ ?_ rfl) (rfl : lv_pick _ [2, 3, 4, 1, 0] = [(0, .ref (ads o (81))), (1, .ref (ads o (1))), (2, .int (nI (b))), (3, .long (0)), (5, .int (nI (0)))])
  · rfl
  · rfl
  · rfl

set_option maxHeartbeats 4000000 in
set_option maxRecDepth 100000 in
theorem m_Pt_beginEvenly (l : Launch) (o : OM) (mi : MI) (ml : ML) (P : Nat) (h : Nat) (hP1 : 1 ≤ P) (hP8 : P ≤ 8) (hh : h < 3) : Con l y_Pt_beginEvenly c_Pt_beginEvenly 9 none 2 45 o [.ref (ads o (78)), .int (nI (P)), .int (nI (h))] mi ml (fun v m z => v = none ∧ PtOK m z 78 (evS P h P).1 ∧ (∀ t, t ≠ 78 → t ≠ 79 → m t = mi t) ∧ ∀ t, t ≠ 80 → z t = ml t) := by
  refine Con.mk (by decide) (Nat.le_of_ble_eq_true rfl) (fun γ X => ?_)
  have hd := Nat.div_mul_le_self 64 P
  have he := ev_ok P (by omega) hP1 h hh
  have h64 : 64 / P ≤ 64 := Nat.div_le_self 64 P
  show V γ o 9 mi ml 0 [(0, .ref (ads o (78))), (1, .int (nI (P))), (2, .int (nI (h)))] []
  refine r_bipush X (v := nI (64)) d_Pt_beginEvenly_0 (by decide) ?_
  refine r_iload_n X 1 d_Pt_beginEvenly_2 rfl rfl ?_
  refine r_iconst X (v := nI (1)) d_Pt_beginEvenly_3 (by decide) ?_
  refine r_max X (by omega) (Nat.le_of_ble_eq_true rfl) w_Pt_27 (Nat.le_of_ble_eq_true rfl) (Nat.le_of_ble_eq_true rfl) d_Pt_beginEvenly_4 ?_
  refine V.eq (st' := [.int (nI (P)), .int (nI (64))]) ?_ rfl rfl rfl (congrArg (fun zq => Value.int (nI zq) :: [.int (nI (64))]) (show (P) = (if decide (P < 1) then 1 else P) from by rw [if_neg (by simp; omega)]))
  refine r_idiv X (v := nI ((64) / (P))) d_Pt_beginEvenly_7 (nI_ne0 (by omega) (by omega)) (pk_div (Nat.le_of_ble_eq_true rfl) (by omega) (by omega)) ?_
  refine r_istore_n X [(3, .int (nI ((64) / (P)))), (0, .ref (ads o (78))), (1, .int (nI (P))), (2, .int (nI (h)))] d_Pt_beginEvenly_8 rfl (Nat.le_of_ble_eq_true rfl) rfl ?_
  refine r_bipush X (v := nI (64)) d_Pt_beginEvenly_9 (by decide) ?_
  refine r_iload_n X 0 d_Pt_beginEvenly_11 rfl rfl ?_
  refine r_iload_n X 2 d_Pt_beginEvenly_12 rfl rfl ?_
  refine r_imul X (v := nI (((64) / (P)) * P)) d_Pt_beginEvenly_13 (pk_mul _ _) ?_
  refine r_isub X (v := nI (64 - (((64) / (P)) * P))) d_Pt_beginEvenly_14 (pk_sub (by omega)) ?_
  refine r_istore X [(4, .int (nI (64 - (((64) / (P)) * P)))), (3, .int (nI ((64) / (P)))), (0, .ref (ads o (78))), (1, .int (nI (P))), (2, .int (nI (h)))] d_Pt_beginEvenly_15 (Nat.le_of_ble_eq_true rfl) rfl ?_
  refine r_lconst X (v := 0) d_Pt_beginEvenly_17 (by decide) ?_
  refine r_lstore X [(5, .long (0)), (4, .int (nI (64 - (((64) / (P)) * P)))), (3, .int (nI ((64) / (P)))), (0, .ref (ads o (78))), (1, .int (nI (P))), (2, .int (nI (h)))] d_Pt_beginEvenly_18 (Nat.le_of_ble_eq_true rfl) rfl ?_
  refine r_iconst X (v := nI (0)) d_Pt_beginEvenly_20 (by decide) ?_
  refine r_istore X [(7, .int (nI (0))), (5, .long (0)), (4, .int (nI (64 - (((64) / (P)) * P)))), (3, .int (nI ((64) / (P)))), (0, .ref (ads o (78))), (1, .int (nI (P))), (2, .int (nI (h)))] d_Pt_beginEvenly_21 (Nat.le_of_ble_eq_true rfl) rfl ?_
  refine r_iconst X (v := nI (0)) d_Pt_beginEvenly_23 (by decide) ?_
  refine r_istore X [(8, .int (nI (0))), (7, .int (nI (0))), (5, .long (0)), (4, .int (nI (64 - (((64) / (P)) * P)))), (3, .int (nI ((64) / (P)))), (0, .ref (ads o (78))), (1, .int (nI (P))), (2, .int (nI (h)))] d_Pt_beginEvenly_24 (Nat.le_of_ble_eq_true rfl) rfl ?_
  have L26_1 : ∀ (d_i i : Nat), i + d_i = P → V γ o 9 mi ml 26 [(0, .ref (ads o (78))), (1, .int (nI (P))), (2, .int (nI (h))), (3, .int (nI ((64) / (P)))), (4, .int (nI (64 - (((64) / (P)) * P)))), (5, .long ((evS P h i).1)), (7, .int (nI ((evS P h i).2))), (8, .int (nI (i)))] [] := by
    intro d_i
    induction d_i with
    | zero =>
      intro i hi_L26_1 
      have he_L26_1 : P = i := by omega
      subst he_L26_1
      refine r_iload X 7 d_Pt_beginEvenly_26 rfl ?_
      refine r_iload_n X 1 d_Pt_beginEvenly_28 rfl rfl ?_
      refine r_icge X (tgt := 71) (c := P ≤ P) d_Pt_beginEvenly_29 (by decide) (nI_leI (by omega) (by omega)) (fun c_29 => ?_) (fun c_29 => ?_)
      · -- taken
        refine r_aload_n X 0 d_Pt_beginEvenly_71 rfl rfl ?_
        refine r_lload X 5 d_Pt_beginEvenly_72 rfl ?_
        refine r_callV X (m_Pt_beginAt l o mi ml 78 ((evS P h P).1) (Or.inr rfl) (he.1) (he.2)) ok_Pt_beginAt w_Pt_37 rfl b_78 e_78 rfl ⟨Nat.le_of_ble_eq_true rfl, Nat.le_of_ble_eq_true rfl⟩ (rest := []) rfl (Nat.le_of_ble_eq_true rfl) d_Pt_beginEvenly_74 ?_
        rintro _ mb2 zb2 ⟨rfl, hPt, hfb, hgb⟩
        show V γ o 9 mb2 zb2 77 [(0, .ref (ads o (78))), (1, .int (nI (P))), (2, .int (nI (h))), (3, .int (nI ((64) / (P)))), (4, .int (nI (64 - (((64) / (P)) * P)))), (5, .long ((evS P h P).1)), (7, .int (nI ((evS P h P).2))), (8, .int (nI (P)))] []
        refine r_end_v X d_Pt_beginEvenly_77 ?_
        exact ⟨rfl, hPt, hfb, hgb⟩
      · -- not taken
        exact False.elim (by omega)
    | succ d_i ih_L26_1 =>
      intro i hi_L26_1 
      have hlt_L26_1 : i < P := by omega
      refine r_iload X 7 d_Pt_beginEvenly_26 rfl ?_
      refine r_iload_n X 1 d_Pt_beginEvenly_28 rfl rfl ?_
      refine r_icge X (tgt := 71) (c := P ≤ i) d_Pt_beginEvenly_29 (by decide) (nI_leI (by omega) (by omega)) (fun c_29_3 => ?_) (fun c_29_3 => ?_)
      · -- taken
        exact False.elim (by omega)
      · -- not taken
        refine r_lload X 5 d_Pt_beginEvenly_32 rfl ?_
        refine r_lconst X (v := 1) d_Pt_beginEvenly_34 (by decide) ?_
        refine r_iload X 6 d_Pt_beginEvenly_35 rfl ?_
        refine r_lshl X (v := shl (1) ((evS P h i).2)) d_Pt_beginEvenly_37 (rfl) ?_
        refine r_lor X (v := ((evS P h i).1) ||| (shl (1) ((evS P h i).2))) d_Pt_beginEvenly_38 (rfl) ?_
        refine r_lstore X [(5, .long (((evS P h i).1) ||| (shl (1) ((evS P h i).2)))), (0, .ref (ads o (78))), (1, .int (nI (P))), (2, .int (nI (h))), (3, .int (nI ((64) / (P)))), (4, .int (nI (64 - (((64) / (P)) * P)))), (7, .int (nI ((evS P h i).2))), (8, .int (nI (i)))] d_Pt_beginEvenly_39 (Nat.le_of_ble_eq_true rfl) rfl ?_
        refine r_iload X 6 d_Pt_beginEvenly_41 rfl ?_
        refine r_iload X 7 d_Pt_beginEvenly_43 rfl ?_
        refine r_iload_n X 2 d_Pt_beginEvenly_45 rfl rfl ?_
        refine r_iload_n X 3 d_Pt_beginEvenly_46 rfl rfl ?_
        refine r_callS X (m_Pt_turnOf l o mi ml i P h hP1 hP8 (by omega) hh) ok_Pt_turnOf w_Pt_33 rfl ⟨Nat.le_of_ble_eq_true rfl, Nat.le_of_ble_eq_true rfl⟩ (rest := [.int (nI ((evS P h i).2))]) rfl (Nat.le_of_ble_eq_true rfl) d_Pt_beginEvenly_47 ?_
        refine kD (st' := [.int (nI (turnO i P h)), .int (nI ((evS P h i).2))]) rfl ?_
        refine r_iload X 5 d_Pt_beginEvenly_50 rfl ?_
        have hJ_4 : V γ o 9 mi ml 62 [(5, .long (((evS P h i).1) ||| (shl (1) ((evS P h i).2)))), (0, .ref (ads o (78))), (1, .int (nI (P))), (2, .int (nI (h))), (3, .int (nI ((64) / (P)))), (4, .int (nI (64 - (((64) / (P)) * P)))), (7, .int (nI ((evS P h i).2))), (8, .int (nI (i)))] [.int (nI (if decide ((64 - (((64) / (P)) * P)) ≤ (turnO i P h)) then (64) / (P) else (64) / (P) + 1)), .int (nI ((evS P h i).2))] := by
          refine r_iadd X (v := nI ((evS P h i).2 + (if decide ((64 - (((64) / (P)) * P)) ≤ (turnO i P h)) then (64) / (P) else (64) / (P) + 1))) d_Pt_beginEvenly_62 (nI_add _ _) ?_
          refine r_istore X [(7, .int (nI ((evS P h i).2 + (if decide ((64 - (((64) / (P)) * P)) ≤ (turnO i P h)) then (64) / (P) else (64) / (P) + 1)))), (5, .long (((evS P h i).1) ||| (shl (1) ((evS P h i).2)))), (0, .ref (ads o (78))), (1, .int (nI (P))), (2, .int (nI (h))), (3, .int (nI ((64) / (P)))), (4, .int (nI (64 - (((64) / (P)) * P)))), (8, .int (nI (i)))] d_Pt_beginEvenly_63 (Nat.le_of_ble_eq_true rfl) rfl ?_
          refine r_iinc X 7 (v := nI (i + 1)) [(8, .int (nI (i + 1))), (7, .int (nI ((evS P h i).2 + (if decide ((64 - (((64) / (P)) * P)) ≤ (turnO i P h)) then (64) / (P) else (64) / (P) + 1)))), (5, .long (((evS P h i).1) ||| (shl (1) ((evS P h i).2)))), (0, .ref (ads o (78))), (1, .int (nI (P))), (2, .int (nI (h))), (3, .int (nI ((64) / (P)))), (4, .int (nI (64 - (((64) / (P)) * P))))] d_Pt_beginEvenly_65 rfl (nI_add _ 1) (Nat.le_of_ble_eq_true rfl) rfl ?_
          refine r_goto X (tgt := 26) d_Pt_beginEvenly_68 (by decide) ?_
          refine V.wk [3, 4, 5, 6, 7, 2, 1, 0] (V.eq (ih_L26_1 (i + 1) (by omega) ) ?_ ?_ ?_ rfl) (rfl : lv_pick _ [3, 4, 5, 6, 7, 2, 1, 0] = [(0, .ref (ads o (78))), (1, .int (nI (P))), (2, .int (nI (h))), (3, .int (nI ((64) / (P)))), (4, .int (nI (64 - (((64) / (P)) * P)))), (5, .long (((evS P h i).1) ||| (shl (1) ((evS P h i).2)))), (7, .int (nI ((evS P h i).2 + (if decide ((64 - (((64) / (P)) * P)) ≤ (turnO i P h)) then (64) / (P) else (64) / (P) + 1)))), (8, .int (nI (i + 1)))])
          · rfl
          · rfl
          · first | rfl | (simp_all [ct, lastB, alB, fromB]; done)
        refine r_icge X (tgt := 61) (c := (64 - (((64) / (P)) * P)) ≤ (turnO i P h)) d_Pt_beginEvenly_52 (by decide) (nI_leI (by omega) (turnO_lt (by omega) (by omega))) (fun c_52 => ?_) (fun c_52 => ?_)
        · -- taken
          refine r_iload_n X 4 d_Pt_beginEvenly_61 rfl rfl ?_
          exact V.eq hJ_4 rfl rfl rfl (by rw [show (nI (if decide ((64 - (((64) / (P)) * P)) ≤ (turnO i P h)) then (64) / (P) else (64) / (P) + 1)) = (nI ((64) / (P))) from by first | (simp only [eq_true c_52, decide_true, decide_false, Bool.not_true, Bool.not_false, Bool.true_and, Bool.false_and, Bool.and_true, Bool.and_false, Bool.true_or, Bool.false_or, Bool.or_true, Bool.or_false, if_true, if_false, ite_true, ite_false, cond_true, cond_false, Bool.false_eq_true, reduceIte]; done) | (simp [c_52]; done) | (simp_all; done)])
        · -- not taken
          refine r_iload_n X 4 d_Pt_beginEvenly_55 rfl rfl ?_
          refine r_iconst X (v := nI (1)) d_Pt_beginEvenly_56 (by decide) ?_
          refine r_iadd X (v := nI ((64) / (P) + 1)) d_Pt_beginEvenly_57 (nI_add _ _) ?_
          refine r_goto X (tgt := 62) d_Pt_beginEvenly_58 (by decide) ?_
          exact V.eq hJ_4 rfl rfl rfl (by rw [show (nI (if decide ((64 - (((64) / (P)) * P)) ≤ (turnO i P h)) then (64) / (P) else (64) / (P) + 1)) = (nI ((64) / (P) + 1)) from by first | (simp only [eq_false c_52, decide_true, decide_false, Bool.not_true, Bool.not_false, Bool.true_and, Bool.false_and, Bool.and_true, Bool.and_false, Bool.true_or, Bool.false_or, Bool.or_true, Bool.or_false, if_true, if_false, ite_true, ite_false, cond_true, cond_false, Bool.false_eq_true, reduceIte]; done) | (simp [c_52]; done) | (simp_all; done)])
  refine V.wk [5, 6, 7, 4, 3, 2, 1, 0] (V.eq (L26_1 (P - 0) 0 (by omega) ) ?_ ?_ ?_ rfl) (rfl : lv_pick _ [5, 6, 7, 4, 3, 2, 1, 0] = [(0, .ref (ads o (78))), (1, .int (nI (P))), (2, .int (nI (h))), (3, .int (nI ((64) / (P)))), (4, .int (nI (64 - (((64) / (P)) * P)))), (5, .long (0)), (7, .int (nI (0))), (8, .int (nI (0)))])
  · rfl
  · rfl
  · rfl
end
