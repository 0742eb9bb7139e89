section
-- ===== PART A: goes FIRST, ahead of the names: the tables' words, and 'selects' of the private methods out of them =====
/-- a private method of a class that the tables say can be made, by its rows of tables_1 -/
def lw_okq (q : MethodName × Nat) : Prop := (q.1.cls ≠ "java/lang/invoke/MethodHandle" ∧ q.1.cls ≠ "java/lang/invoke/VarHandle") ∧ Cond.instantiable q.1.cls q.2 ∈ tables_1 ∧ Cond.privateMethod q.1 ∈ tables_1 ∧ Cond.instanceMethod q.1 ∈ tables_1
theorem lw_p0 : lw_okq (⟨"ProofSheets$History", "dropOldest", "()V"⟩, 2) := ⟨⟨by decide +kernel, by decide +kernel⟩, List.mem_of_getElem? (i := 141) (by decide +kernel), List.mem_of_getElem? (i := 238) (by decide +kernel), List.mem_of_getElem? (i := 239) (by decide +kernel)⟩
theorem lw_p1 : lw_okq (⟨"ProofSheets$Row", "hasNot", "(I)Z"⟩, 2) := ⟨⟨by decide +kernel, by decide +kernel⟩, List.mem_of_getElem? (i := 31) (by decide +kernel), List.mem_of_getElem? (i := 303) (by decide +kernel), List.mem_of_getElem? (i := 304) (by decide +kernel)⟩
theorem lw_p2 : lw_okq (⟨"ProofSheets", "putSheet", "(LProofSheets$Sheet;I)I"⟩, 4) := ⟨⟨by decide +kernel, by decide +kernel⟩, List.mem_of_getElem? (i := 17) (by decide +kernel), List.mem_of_getElem? (i := 316) (by decide +kernel), List.mem_of_getElem? (i := 317) (by decide +kernel)⟩
theorem lw_p3 : lw_okq (⟨"ProofSheets$MarkList", "isMoreWanted", "(II)Z"⟩, 4) := ⟨⟨by decide +kernel, by decide +kernel⟩, List.mem_of_getElem? (i := 47) (by decide +kernel), List.mem_of_getElem? (i := 480) (by decide +kernel), List.mem_of_getElem? (i := 481) (by decide +kernel)⟩
theorem lw_p4 : lw_okq (⟨"ProofSheets$Press", "arrange", "(ILProofSheets$Row;)V"⟩, 4) := ⟨⟨by decide +kernel, by decide +kernel⟩, List.mem_of_getElem? (i := 186) (by decide +kernel), List.mem_of_getElem? (i := 502) (by decide +kernel), List.mem_of_getElem? (i := 503) (by decide +kernel)⟩
theorem lw_p5 : lw_okq (⟨"ProofSheets$Press", "printIfAny", "(I)V"⟩, 4) := ⟨⟨by decide +kernel, by decide +kernel⟩, List.mem_of_getElem? (i := 186) (by decide +kernel), List.mem_of_getElem? (i := 516) (by decide +kernel), List.mem_of_getElem? (i := 517) (by decide +kernel)⟩
theorem lw_p6 : lw_okq (⟨"ProofSheets$Press", "turnOf", "(I)I"⟩, 4) := ⟨⟨by decide +kernel, by decide +kernel⟩, List.mem_of_getElem? (i := 186) (by decide +kernel), List.mem_of_getElem? (i := 542) (by decide +kernel), List.mem_of_getElem? (i := 543) (by decide +kernel)⟩
theorem lw_p7 : lw_okq (⟨"ProofSheets$Press", "carryOut", "(I)V"⟩, 4) := ⟨⟨by decide +kernel, by decide +kernel⟩, List.mem_of_getElem? (i := 186) (by decide +kernel), List.mem_of_getElem? (i := 553) (by decide +kernel), List.mem_of_getElem? (i := 554) (by decide +kernel)⟩
theorem lw_p8 : lw_okq (⟨"ProofSheets$MarkText", "readMark", "(LProofSheets$Row;I)V"⟩, 5) := ⟨⟨by decide +kernel, by decide +kernel⟩, List.mem_of_getElem? (i := 158) (by decide +kernel), List.mem_of_getElem? (i := 584) (by decide +kernel), List.mem_of_getElem? (i := 585) (by decide +kernel)⟩
theorem lw_p9 : lw_okq (⟨"ProofSheets$MarkText", "readWord", "()I"⟩, 5) := ⟨⟨by decide +kernel, by decide +kernel⟩, List.mem_of_getElem? (i := 158) (by decide +kernel), List.mem_of_getElem? (i := 588) (by decide +kernel), List.mem_of_getElem? (i := 589) (by decide +kernel)⟩
theorem lw_p10 : lw_okq (⟨"ProofSheets$MarkText", "spells", "(ILjava/lang/String;)Z"⟩, 5) := ⟨⟨by decide +kernel, by decide +kernel⟩, List.mem_of_getElem? (i := 158) (by decide +kernel), List.mem_of_getElem? (i := 602) (by decide +kernel), List.mem_of_getElem? (i := 603) (by decide +kernel)⟩
theorem lw_p11 : lw_okq (⟨"ProofSheets$MarkText", "readPosition", "()I"⟩, 5) := ⟨⟨by decide +kernel, by decide +kernel⟩, List.mem_of_getElem? (i := 158) (by decide +kernel), List.mem_of_getElem? (i := 654) (by decide +kernel), List.mem_of_getElem? (i := 655) (by decide +kernel)⟩
theorem lw_p12 : lw_okq (⟨"ProofSheets$MarkText", "passes", "(I)Z"⟩, 5) := ⟨⟨by decide +kernel, by decide +kernel⟩, List.mem_of_getElem? (i := 158) (by decide +kernel), List.mem_of_getElem? (i := 658) (by decide +kernel), List.mem_of_getElem? (i := 659) (by decide +kernel)⟩
theorem lw_p13 : lw_okq (⟨"ProofSheets$MarkText", "readCharacter", "()I"⟩, 5) := ⟨⟨by decide +kernel, by decide +kernel⟩, List.mem_of_getElem? (i := 158) (by decide +kernel), List.mem_of_getElem? (i := 663) (by decide +kernel), List.mem_of_getElem? (i := 664) (by decide +kernel)⟩
theorem lw_p14 : lw_okq (⟨"ProofSheets$MarkText", "keep", "(ILProofSheets$Row;)V"⟩, 5) := ⟨⟨by decide +kernel, by decide +kernel⟩, List.mem_of_getElem? (i := 158) (by decide +kernel), List.mem_of_getElem? (i := 673) (by decide +kernel), List.mem_of_getElem? (i := 674) (by decide +kernel)⟩
theorem lw_p15 : lw_okq (⟨"ProofSheetsModel", "records", "()V"⟩, 11) := ⟨⟨by decide +kernel, by decide +kernel⟩, List.mem_of_getElem? (i := 689) (by decide +kernel), List.mem_of_getElem? (i := 740) (by decide +kernel), List.mem_of_getElem? (i := 741) (by decide +kernel)⟩
def lw_privs_1 : List (MethodName × Nat) := [(⟨"ProofSheets$History", "dropOldest", "()V"⟩, 2), (⟨"ProofSheets$Row", "hasNot", "(I)Z"⟩, 2), (⟨"ProofSheets", "putSheet", "(LProofSheets$Sheet;I)I"⟩, 4), (⟨"ProofSheets$MarkList", "isMoreWanted", "(II)Z"⟩, 4), (⟨"ProofSheets$Press", "arrange", "(ILProofSheets$Row;)V"⟩, 4), (⟨"ProofSheets$Press", "printIfAny", "(I)V"⟩, 4), (⟨"ProofSheets$Press", "turnOf", "(I)I"⟩, 4), (⟨"ProofSheets$Press", "carryOut", "(I)V"⟩, 4), (⟨"ProofSheets$MarkText", "readMark", "(LProofSheets$Row;I)V"⟩, 5), (⟨"ProofSheets$MarkText", "readWord", "()I"⟩, 5), (⟨"ProofSheets$MarkText", "spells", "(ILjava/lang/String;)Z"⟩, 5), (⟨"ProofSheets$MarkText", "readPosition", "()I"⟩, 5), (⟨"ProofSheets$MarkText", "passes", "(I)Z"⟩, 5), (⟨"ProofSheets$MarkText", "readCharacter", "()I"⟩, 5), (⟨"ProofSheets$MarkText", "keep", "(ILProofSheets$Row;)V"⟩, 5), (⟨"ProofSheetsModel", "records", "()V"⟩, 11)]
theorem lw_r1 : ∀ q ∈ lw_privs_1, lw_okq q := List.forall_mem_cons.mpr ⟨lw_p0, List.forall_mem_cons.mpr ⟨lw_p1, List.forall_mem_cons.mpr ⟨lw_p2, List.forall_mem_cons.mpr ⟨lw_p3, List.forall_mem_cons.mpr ⟨lw_p4, List.forall_mem_cons.mpr ⟨lw_p5, List.forall_mem_cons.mpr ⟨lw_p6, List.forall_mem_cons.mpr ⟨lw_p7, List.forall_mem_cons.mpr ⟨lw_p8, List.forall_mem_cons.mpr ⟨lw_p9, List.forall_mem_cons.mpr ⟨lw_p10, List.forall_mem_cons.mpr ⟨lw_p11, List.forall_mem_cons.mpr ⟨lw_p12, List.forall_mem_cons.mpr ⟨lw_p13, List.forall_mem_cons.mpr ⟨lw_p14, List.forall_mem_cons.mpr ⟨lw_p15, fun _ h => absurd h List.not_mem_nil⟩⟩⟩⟩⟩⟩⟩⟩⟩⟩⟩⟩⟩⟩⟩⟩
theorem lw_p16 : lw_okq (⟨"ProofSheetsModel", "isBusy", "(I)Z"⟩, 11) := ⟨⟨by decide +kernel, by decide +kernel⟩, List.mem_of_getElem? (i := 689) (by decide +kernel), List.mem_of_getElem? (i := 755) (by decide +kernel), List.mem_of_getElem? (i := 756) (by decide +kernel)⟩
theorem lw_p17 : lw_okq (⟨"ProofSheetsModel", "of", "(II)I"⟩, 11) := ⟨⟨by decide +kernel, by decide +kernel⟩, List.mem_of_getElem? (i := 689) (by decide +kernel), List.mem_of_getElem? (i := 759) (by decide +kernel), List.mem_of_getElem? (i := 760) (by decide +kernel)⟩
theorem lw_p18 : lw_okq (⟨"ProofSheetsModel", "isSheet", "(I)Z"⟩, 11) := ⟨⟨by decide +kernel, by decide +kernel⟩, List.mem_of_getElem? (i := 689) (by decide +kernel), List.mem_of_getElem? (i := 770) (by decide +kernel), List.mem_of_getElem? (i := 771) (by decide +kernel)⟩
theorem lw_p19 : lw_okq (⟨"ProofSheetsModel", "becomes", "(II)I"⟩, 11) := ⟨⟨by decide +kernel, by decide +kernel⟩, List.mem_of_getElem? (i := 689) (by decide +kernel), List.mem_of_getElem? (i := 774) (by decide +kernel), List.mem_of_getElem? (i := 775) (by decide +kernel)⟩
theorem lw_p20 : lw_okq (⟨"ProofSheetsModel", "comes", "(II)Z"⟩, 11) := ⟨⟨by decide +kernel, by decide +kernel⟩, List.mem_of_getElem? (i := 689) (by decide +kernel), List.mem_of_getElem? (i := 793) (by decide +kernel), List.mem_of_getElem? (i := 794) (by decide +kernel)⟩
theorem lw_p21 : lw_okq (⟨"ProofSheetsModel", "likeOf", "(I)I"⟩, 11) := ⟨⟨by decide +kernel, by decide +kernel⟩, List.mem_of_getElem? (i := 689) (by decide +kernel), List.mem_of_getElem? (i := 797) (by decide +kernel), List.mem_of_getElem? (i := 798) (by decide +kernel)⟩
theorem lw_p22 : lw_okq (⟨"ProofSheetsModel", "areLike", "(II)Z"⟩, 11) := ⟨⟨by decide +kernel, by decide +kernel⟩, List.mem_of_getElem? (i := 689) (by decide +kernel), List.mem_of_getElem? (i := 804) (by decide +kernel), List.mem_of_getElem? (i := 805) (by decide +kernel)⟩
theorem lw_p23 : lw_okq (⟨"ProofSheetsModel", "sheetTold", "(II)I"⟩, 11) := ⟨⟨by decide +kernel, by decide +kernel⟩, List.mem_of_getElem? (i := 689) (by decide +kernel), List.mem_of_getElem? (i := 812) (by decide +kernel), List.mem_of_getElem? (i := 813) (by decide +kernel)⟩
theorem lw_p24 : lw_okq (⟨"ProofSheetsModel", "isBarred", "(I)Z"⟩, 11) := ⟨⟨by decide +kernel, by decide +kernel⟩, List.mem_of_getElem? (i := 689) (by decide +kernel), List.mem_of_getElem? (i := 816) (by decide +kernel), List.mem_of_getElem? (i := 817) (by decide +kernel)⟩
theorem lw_p25 : lw_okq (⟨"ProofSheetsModel", "areAgainst", "(II)Z"⟩, 11) := ⟨⟨by decide +kernel, by decide +kernel⟩, List.mem_of_getElem? (i := 689) (by decide +kernel), List.mem_of_getElem? (i := 820) (by decide +kernel), List.mem_of_getElem? (i := 821) (by decide +kernel)⟩
theorem lw_p26 : lw_okq (⟨"ProofSheetsModel", "behind", "(I)I"⟩, 11) := ⟨⟨by decide +kernel, by decide +kernel⟩, List.mem_of_getElem? (i := 689) (by decide +kernel), List.mem_of_getElem? (i := 824) (by decide +kernel), List.mem_of_getElem? (i := 825) (by decide +kernel)⟩
theorem lw_p27 : lw_okq (⟨"ProofSheetsModel", "isWithin", "(II)Z"⟩, 11) := ⟨⟨by decide +kernel, by decide +kernel⟩, List.mem_of_getElem? (i := 689) (by decide +kernel), List.mem_of_getElem? (i := 828) (by decide +kernel), List.mem_of_getElem? (i := 829) (by decide +kernel)⟩
theorem lw_p28 : lw_okq (⟨"ProofSheetsModel", "numberOf", "(II)I"⟩, 11) := ⟨⟨by decide +kernel, by decide +kernel⟩, List.mem_of_getElem? (i := 689) (by decide +kernel), List.mem_of_getElem? (i := 836) (by decide +kernel), List.mem_of_getElem? (i := 837) (by decide +kernel)⟩
theorem lw_p29 : lw_okq (⟨"ProofSheetsModel", "inState", "(I)I"⟩, 11) := ⟨⟨by decide +kernel, by decide +kernel⟩, List.mem_of_getElem? (i := 689) (by decide +kernel), List.mem_of_getElem? (i := 844) (by decide +kernel), List.mem_of_getElem? (i := 845) (by decide +kernel)⟩
theorem lw_p30 : lw_okq (⟨"ProofSheetsModel", "unanswered", "()I"⟩, 11) := ⟨⟨by decide +kernel, by decide +kernel⟩, List.mem_of_getElem? (i := 689) (by decide +kernel), List.mem_of_getElem? (i := 848) (by decide +kernel), List.mem_of_getElem? (i := 849) (by decide +kernel)⟩
theorem lw_p31 : lw_okq (⟨"ProofSheetsModel", "pairs", "()I"⟩, 11) := ⟨⟨by decide +kernel, by decide +kernel⟩, List.mem_of_getElem? (i := 689) (by decide +kernel), List.mem_of_getElem? (i := 852) (by decide +kernel), List.mem_of_getElem? (i := 853) (by decide +kernel)⟩
def lw_privs_2 : List (MethodName × Nat) := [(⟨"ProofSheetsModel", "isBusy", "(I)Z"⟩, 11), (⟨"ProofSheetsModel", "of", "(II)I"⟩, 11), (⟨"ProofSheetsModel", "isSheet", "(I)Z"⟩, 11), (⟨"ProofSheetsModel", "becomes", "(II)I"⟩, 11), (⟨"ProofSheetsModel", "comes", "(II)Z"⟩, 11), (⟨"ProofSheetsModel", "likeOf", "(I)I"⟩, 11), (⟨"ProofSheetsModel", "areLike", "(II)Z"⟩, 11), (⟨"ProofSheetsModel", "sheetTold", "(II)I"⟩, 11), (⟨"ProofSheetsModel", "isBarred", "(I)Z"⟩, 11), (⟨"ProofSheetsModel", "areAgainst", "(II)Z"⟩, 11), (⟨"ProofSheetsModel", "behind", "(I)I"⟩, 11), (⟨"ProofSheetsModel", "isWithin", "(II)Z"⟩, 11), (⟨"ProofSheetsModel", "numberOf", "(II)I"⟩, 11), (⟨"ProofSheetsModel", "inState", "(I)I"⟩, 11), (⟨"ProofSheetsModel", "unanswered", "()I"⟩, 11), (⟨"ProofSheetsModel", "pairs", "()I"⟩, 11)]
theorem lw_r2 : ∀ q ∈ lw_privs_2, lw_okq q := List.forall_mem_cons.mpr ⟨lw_p16, List.forall_mem_cons.mpr ⟨lw_p17, List.forall_mem_cons.mpr ⟨lw_p18, List.forall_mem_cons.mpr ⟨lw_p19, List.forall_mem_cons.mpr ⟨lw_p20, List.forall_mem_cons.mpr ⟨lw_p21, List.forall_mem_cons.mpr ⟨lw_p22, List.forall_mem_cons.mpr ⟨lw_p23, List.forall_mem_cons.mpr ⟨lw_p24, List.forall_mem_cons.mpr ⟨lw_p25, List.forall_mem_cons.mpr ⟨lw_p26, List.forall_mem_cons.mpr ⟨lw_p27, List.forall_mem_cons.mpr ⟨lw_p28, List.forall_mem_cons.mpr ⟨lw_p29, List.forall_mem_cons.mpr ⟨lw_p30, List.forall_mem_cons.mpr ⟨lw_p31, fun _ h => absurd h List.not_mem_nil⟩⟩⟩⟩⟩⟩⟩⟩⟩⟩⟩⟩⟩⟩⟩⟩
theorem lw_p32 : lw_okq (⟨"ProofSheetsModel", "againstMany", "(I)I"⟩, 11) := ⟨⟨by decide +kernel, by decide +kernel⟩, List.mem_of_getElem? (i := 689) (by decide +kernel), List.mem_of_getElem? (i := 856) (by decide +kernel), List.mem_of_getElem? (i := 857) (by decide +kernel)⟩
theorem lw_p33 : lw_okq (⟨"ProofSheetsModel", "unmerged", "()I"⟩, 11) := ⟨⟨by decide +kernel, by decide +kernel⟩, List.mem_of_getElem? (i := 689) (by decide +kernel), List.mem_of_getElem? (i := 860) (by decide +kernel), List.mem_of_getElem? (i := 861) (by decide +kernel)⟩
theorem lw_p34 : lw_okq (⟨"ProofSheetsModel", "isMark", "(I)Z"⟩, 11) := ⟨⟨by decide +kernel, by decide +kernel⟩, List.mem_of_getElem? (i := 689) (by decide +kernel), List.mem_of_getElem? (i := 872) (by decide +kernel), List.mem_of_getElem? (i := 873) (by decide +kernel)⟩
theorem lw_p35 : lw_okq (⟨"ProofSheetsModel", "markTold", "(II)I"⟩, 11) := ⟨⟨by decide +kernel, by decide +kernel⟩, List.mem_of_getElem? (i := 689) (by decide +kernel), List.mem_of_getElem? (i := 876) (by decide +kernel), List.mem_of_getElem? (i := 877) (by decide +kernel)⟩
theorem lw_p36 : lw_okq (⟨"ProofSheetsModel", "lowest", "(I)I"⟩, 11) := ⟨⟨by decide +kernel, by decide +kernel⟩, List.mem_of_getElem? (i := 689) (by decide +kernel), List.mem_of_getElem? (i := 880) (by decide +kernel), List.mem_of_getElem? (i := 881) (by decide +kernel)⟩
theorem lw_p37 : lw_okq (⟨"ProofSheetsModel", "makes", "()V"⟩, 11) := ⟨⟨by decide +kernel, by decide +kernel⟩, List.mem_of_getElem? (i := 689) (by decide +kernel), List.mem_of_getElem? (i := 900) (by decide +kernel), List.mem_of_getElem? (i := 901) (by decide +kernel)⟩
theorem lw_p38 : lw_okq (⟨"ProofSheetsModel", "brings", "(I)V"⟩, 11) := ⟨⟨by decide +kernel, by decide +kernel⟩, List.mem_of_getElem? (i := 689) (by decide +kernel), List.mem_of_getElem? (i := 904) (by decide +kernel), List.mem_of_getElem? (i := 905) (by decide +kernel)⟩
theorem lw_p39 : lw_okq (⟨"ProofSheetsModel", "isAccepted", "(I)Z"⟩, 11) := ⟨⟨by decide +kernel, by decide +kernel⟩, List.mem_of_getElem? (i := 689) (by decide +kernel), List.mem_of_getElem? (i := 908) (by decide +kernel), List.mem_of_getElem? (i := 909) (by decide +kernel)⟩
theorem lw_p40 : lw_okq (⟨"ProofSheetsModel", "turned", "(I)I"⟩, 11) := ⟨⟨by decide +kernel, by decide +kernel⟩, List.mem_of_getElem? (i := 689) (by decide +kernel), List.mem_of_getElem? (i := 912) (by decide +kernel), List.mem_of_getElem? (i := 913) (by decide +kernel)⟩
theorem lw_p41 : lw_okq (⟨"ProofSheetsModel", "madeAt", "(I)I"⟩, 11) := ⟨⟨by decide +kernel, by decide +kernel⟩, List.mem_of_getElem? (i := 689) (by decide +kernel), List.mem_of_getElem? (i := 919) (by decide +kernel), List.mem_of_getElem? (i := 920) (by decide +kernel)⟩
theorem lw_p42 : lw_okq (⟨"ProofSheetsModel", "makesOneByOne", "()V"⟩, 11) := ⟨⟨by decide +kernel, by decide +kernel⟩, List.mem_of_getElem? (i := 689) (by decide +kernel), List.mem_of_getElem? (i := 927) (by decide +kernel), List.mem_of_getElem? (i := 928) (by decide +kernel)⟩
theorem lw_p43 : lw_okq (⟨"ProofSheetsModel", "carries", "(I)V"⟩, 11) := ⟨⟨by decide +kernel, by decide +kernel⟩, List.mem_of_getElem? (i := 689) (by decide +kernel), List.mem_of_getElem? (i := 931) (by decide +kernel), List.mem_of_getElem? (i := 932) (by decide +kernel)⟩
theorem lw_p44 : lw_okq (⟨"ProofSheetsModel", "shifts", "(II)V"⟩, 11) := ⟨⟨by decide +kernel, by decide +kernel⟩, List.mem_of_getElem? (i := 689) (by decide +kernel), List.mem_of_getElem? (i := 935) (by decide +kernel), List.mem_of_getElem? (i := 936) (by decide +kernel)⟩
theorem lw_p45 : lw_okq (⟨"ProofSheetsModel", "readsAll", "(I)I"⟩, 11) := ⟨⟨by decide +kernel, by decide +kernel⟩, List.mem_of_getElem? (i := 689) (by decide +kernel), List.mem_of_getElem? (i := 959) (by decide +kernel), List.mem_of_getElem? (i := 960) (by decide +kernel)⟩
theorem lw_p46 : lw_okq (⟨"ProofSheetsModel", "reason", "(I)I"⟩, 11) := ⟨⟨by decide +kernel, by decide +kernel⟩, List.mem_of_getElem? (i := 689) (by decide +kernel), List.mem_of_getElem? (i := 963) (by decide +kernel), List.mem_of_getElem? (i := 964) (by decide +kernel)⟩
theorem lw_p47 : lw_okq (⟨"ProofSheetsModel", "wordHere", "()I"⟩, 11) := ⟨⟨by decide +kernel, by decide +kernel⟩, List.mem_of_getElem? (i := 689) (by decide +kernel), List.mem_of_getElem? (i := 967) (by decide +kernel), List.mem_of_getElem? (i := 968) (by decide +kernel)⟩
def lw_privs_3 : List (MethodName × Nat) := [(⟨"ProofSheetsModel", "againstMany", "(I)I"⟩, 11), (⟨"ProofSheetsModel", "unmerged", "()I"⟩, 11), (⟨"ProofSheetsModel", "isMark", "(I)Z"⟩, 11), (⟨"ProofSheetsModel", "markTold", "(II)I"⟩, 11), (⟨"ProofSheetsModel", "lowest", "(I)I"⟩, 11), (⟨"ProofSheetsModel", "makes", "()V"⟩, 11), (⟨"ProofSheetsModel", "brings", "(I)V"⟩, 11), (⟨"ProofSheetsModel", "isAccepted", "(I)Z"⟩, 11), (⟨"ProofSheetsModel", "turned", "(I)I"⟩, 11), (⟨"ProofSheetsModel", "madeAt", "(I)I"⟩, 11), (⟨"ProofSheetsModel", "makesOneByOne", "()V"⟩, 11), (⟨"ProofSheetsModel", "carries", "(I)V"⟩, 11), (⟨"ProofSheetsModel", "shifts", "(II)V"⟩, 11), (⟨"ProofSheetsModel", "readsAll", "(I)I"⟩, 11), (⟨"ProofSheetsModel", "reason", "(I)I"⟩, 11), (⟨"ProofSheetsModel", "wordHere", "()I"⟩, 11)]
theorem lw_r3 : ∀ q ∈ lw_privs_3, lw_okq q := List.forall_mem_cons.mpr ⟨lw_p32, List.forall_mem_cons.mpr ⟨lw_p33, List.forall_mem_cons.mpr ⟨lw_p34, List.forall_mem_cons.mpr ⟨lw_p35, List.forall_mem_cons.mpr ⟨lw_p36, List.forall_mem_cons.mpr ⟨lw_p37, List.forall_mem_cons.mpr ⟨lw_p38, List.forall_mem_cons.mpr ⟨lw_p39, List.forall_mem_cons.mpr ⟨lw_p40, List.forall_mem_cons.mpr ⟨lw_p41, List.forall_mem_cons.mpr ⟨lw_p42, List.forall_mem_cons.mpr ⟨lw_p43, List.forall_mem_cons.mpr ⟨lw_p44, List.forall_mem_cons.mpr ⟨lw_p45, List.forall_mem_cons.mpr ⟨lw_p46, List.forall_mem_cons.mpr ⟨lw_p47, fun _ h => absurd h List.not_mem_nil⟩⟩⟩⟩⟩⟩⟩⟩⟩⟩⟩⟩⟩⟩⟩⟩
theorem lw_p48 : lw_okq (⟨"ProofSheetsModel", "here", "()I"⟩, 11) := ⟨⟨by decide +kernel, by decide +kernel⟩, List.mem_of_getElem? (i := 689) (by decide +kernel), List.mem_of_getElem? (i := 971) (by decide +kernel), List.mem_of_getElem? (i := 972) (by decide +kernel)⟩
theorem lw_p49 : lw_okq (⟨"ProofSheetsModel", "isFormed", "(I)Z"⟩, 11) := ⟨⟨by decide +kernel, by decide +kernel⟩, List.mem_of_getElem? (i := 689) (by decide +kernel), List.mem_of_getElem? (i := 978) (by decide +kernel), List.mem_of_getElem? (i := 979) (by decide +kernel)⟩
theorem lw_p50 : lw_okq (⟨"ProofSheetsModel", "takesPosition", "()I"⟩, 11) := ⟨⟨by decide +kernel, by decide +kernel⟩, List.mem_of_getElem? (i := 689) (by decide +kernel), List.mem_of_getElem? (i := 982) (by decide +kernel), List.mem_of_getElem? (i := 983) (by decide +kernel)⟩
theorem lw_p51 : lw_okq (⟨"ProofSheetsModel", "takes", "(I)Z"⟩, 11) := ⟨⟨by decide +kernel, by decide +kernel⟩, List.mem_of_getElem? (i := 689) (by decide +kernel), List.mem_of_getElem? (i := 986) (by decide +kernel), List.mem_of_getElem? (i := 987) (by decide +kernel)⟩
theorem lw_p52 : lw_okq (⟨"ProofSheetsModel", "isInRange", "()Z"⟩, 11) := ⟨⟨by decide +kernel, by decide +kernel⟩, List.mem_of_getElem? (i := 689) (by decide +kernel), List.mem_of_getElem? (i := 990) (by decide +kernel), List.mem_of_getElem? (i := 991) (by decide +kernel)⟩
theorem lw_p53 : lw_okq (⟨"ProofSheetsModel", "isThere", "(I)Z"⟩, 11) := ⟨⟨by decide +kernel, by decide +kernel⟩, List.mem_of_getElem? (i := 689) (by decide +kernel), List.mem_of_getElem? (i := 994) (by decide +kernel), List.mem_of_getElem? (i := 995) (by decide +kernel)⟩
def lw_privs_4 : List (MethodName × Nat) := [(⟨"ProofSheetsModel", "here", "()I"⟩, 11), (⟨"ProofSheetsModel", "isFormed", "(I)Z"⟩, 11), (⟨"ProofSheetsModel", "takesPosition", "()I"⟩, 11), (⟨"ProofSheetsModel", "takes", "(I)Z"⟩, 11), (⟨"ProofSheetsModel", "isInRange", "()Z"⟩, 11), (⟨"ProofSheetsModel", "isThere", "(I)Z"⟩, 11)]
theorem lw_r4 : ∀ q ∈ lw_privs_4, lw_okq q := List.forall_mem_cons.mpr ⟨lw_p48, List.forall_mem_cons.mpr ⟨lw_p49, List.forall_mem_cons.mpr ⟨lw_p50, List.forall_mem_cons.mpr ⟨lw_p51, List.forall_mem_cons.mpr ⟨lw_p52, List.forall_mem_cons.mpr ⟨lw_p53, fun _ h => absurd h List.not_mem_nil⟩⟩⟩⟩⟩⟩
def lw_privs : List (MethodName × Nat) := lw_privs_1 ++ (lw_privs_2 ++ (lw_privs_3 ++ (lw_privs_4)))
def lw_tbl : List Cond := k2_sels lw_privs ++ tables_1
theorem lw_privs_ok : ∀ q ∈ lw_privs, lw_okq q := by
  show ∀ q ∈ lw_privs_1 ++ (lw_privs_2 ++ (lw_privs_3 ++ (lw_privs_4))), lw_okq q
  exact List.forall_mem_append.mpr ⟨lw_r1, List.forall_mem_append.mpr ⟨lw_r2, List.forall_mem_append.mpr ⟨lw_r3, lw_r4⟩⟩⟩
/-! ===== BEGIN words of one list among another's, by their places ===== -/
theorem goodIn_r {big : List Cond} (ws : List Cond) (ps : List Nat) (hp : ws = ps.filterMap (fun i => big[i]?)) (h : ws.all goodWord = true) : GoodIn big ws := by
  intro w hw
  have h1 := List.all_eq_true.mp h w hw
  rw [hp] at hw
  obtain ⟨i, -, hi⟩ := List.mem_filterMap.mp hw
  have hm : w ∈ big := by first | exact List.mem_of_getElem? hi | exact List.getElem?_mem hi
  exact ⟨hm, good_of_word h1⟩
theorem goodIn_app {big a b : List Cond} (ha : GoodIn big a) (hb : GoodIn big b) : GoodIn big (a ++ b) := fun w h => (List.mem_append.mp h).elim (ha w) (hb w)
theorem goodIn_ca {big a b : List Cond} {c : Cond} (ha : GoodIn big (c :: a)) (hb : GoodIn big b) : GoodIn big (c :: (a ++ b)) := fun w h => (List.mem_cons.mp h).elim (fun e => ha w (List.mem_cons.mpr (Or.inl e))) (fun h => (List.mem_append.mp h).elim (fun h => ha w (List.mem_cons.mpr (Or.inr h))) (hb w))
theorem goodIn_sub {big ws : List Cond} (hm : ∀ w ∈ ws, w ∈ big) (h : ws.all goodWord = true) : GoodIn big ws := fun w hw => ⟨hm w hw, good_of_word (List.all_eq_true.mp h w hw)⟩
/-! ===== END ===== -/

/-! ===== BEGIN printed: names, fields, word lists, decode rows ===== -/
def RX0 : String := "ProofSheets$History"
def TX0 : u_T := fun k => match k with
  | 0 => ("ProofSheets$History", "states", "[LProofSheets$State;", true)
  | _ => ("ProofSheets$History", "used", "I", false)
def tyX0 : Nat → FieldType := fun k => match k with
  | 0 => .array (.object "ProofSheets$State")
  | _ => .int
abbrev wsX00 : List Cond := u_ws RX0 TX0 2
theorem nmX0 : ∀ a, a < 2 → ∀ b, b < 2 → a ≠ b → (TX0 a).2.1 ≠ (TX0 b).2.1 := by decide +kernel
theorem tyX0_ok : ∀ k, k < 2 → parseFieldDescriptor (TX0 k).2.2.1 = some (tyX0 k) := by decide +kernel
abbrev cX0_init : ByteArray := prog_2_method_1_code
def yX0_init : MethodName := ⟨RX0, "<init>", "()V"⟩
abbrev cX0_record : ByteArray := prog_2_method_2_code
def yX0_record : MethodName := ⟨RX0, "record", "(LProofSheets$State;)V"⟩
abbrev cX0_dropOldest : ByteArray := prog_2_method_3_code
def yX0_dropOldest : MethodName := ⟨RX0, "dropOldest", "()V"⟩
abbrev cX0_restore : ByteArray := prog_2_method_4_code
def yX0_restore : MethodName := ⟨RX0, "restore", "(LProofSheets$State;)V"⟩
def RX1 : String := "ProofSheets$Mark"
def TX1 : u_T := fun k => match k with
  | _ => ("", "", "", false)
def tyX1 : Nat → FieldType := fun k => match k with
  | _ => .int
abbrev wsX10 : List Cond := u_ws RX1 TX1 0
theorem nmX1 : ∀ a, a < 0 → ∀ b, b < 0 → a ≠ b → (TX1 a).2.1 ≠ (TX1 b).2.1 := by decide +kernel
theorem tyX1_ok : ∀ k, k < 0 → parseFieldDescriptor (TX1 k).2.2.1 = some (tyX1 k) := by decide +kernel
abbrev cX1_codeOf : ByteArray := prog_3_method_2_code
def yX1_codeOf : MethodName := ⟨RX1, "codeOf", "(IIII)I"⟩
abbrev cX1_kindOf : ByteArray := prog_3_method_3_code
def yX1_kindOf : MethodName := ⟨RX1, "kindOf", "(I)I"⟩
abbrev cX1_firstOf : ByteArray := prog_3_method_4_code
def yX1_firstOf : MethodName := ⟨RX1, "firstOf", "(I)I"⟩
abbrev cX1_secondOf : ByteArray := prog_3_method_5_code
def yX1_secondOf : MethodName := ⟨RX1, "secondOf", "(I)I"⟩
abbrev cX1_characterOf : ByteArray := prog_3_method_6_code
def yX1_characterOf : MethodName := ⟨RX1, "characterOf", "(I)I"⟩
abbrev cX1_takesCharacter : ByteArray := prog_3_method_7_code
def yX1_takesCharacter : MethodName := ⟨RX1, "takesCharacter", "(I)Z"⟩
abbrev cX1_partOf : ByteArray := prog_3_method_8_code
def yX1_partOf : MethodName := ⟨RX1, "partOf", "(II)I"⟩
abbrev cX1_isPossible : ByteArray := prog_3_method_9_code
def yX1_isPossible : MethodName := ⟨RX1, "isPossible", "(IIII)Z"⟩
abbrev cX1_endOf : ByteArray := prog_3_method_10_code
def yX1_endOf : MethodName := ⟨RX1, "endOf", "(I)I"⟩
abbrev cX1_areOpposed : ByteArray := prog_3_method_11_code
def yX1_areOpposed : MethodName := ⟨RX1, "areOpposed", "(II)Z"⟩
def RX2 : String := "ProofSheets$MarkList"
def TX2 : u_T := fun k => match k with
  | 0 => ("ProofSheets$MarkList", "codes", "LProofSheets$Row;", true)
  | 1 => ("ProofSheets$MarkList", "answers", "LProofSheets$Row;", true)
  | 2 => ("ProofSheets$MarkList", "sheetCounts", "LProofSheets$Row;", true)
  | _ => ("ProofSheets$MarkList", "lowestReaders", "LProofSheets$Row;", true)
def tyX2 : Nat → FieldType := fun k => match k with
  | 0 => .object "ProofSheets$Row"
  | 1 => .object "ProofSheets$Row"
  | 2 => .object "ProofSheets$Row"
  | _ => .object "ProofSheets$Row"
abbrev wsX20 : List Cond := u_ws RX2 TX2 4
theorem nmX2 : ∀ a, a < 4 → ∀ b, b < 4 → a ≠ b → (TX2 a).2.1 ≠ (TX2 b).2.1 := by decide +kernel
theorem tyX2_ok : ∀ k, k < 4 → parseFieldDescriptor (TX2 k).2.2.1 = some (tyX2 k) := by decide +kernel
abbrev cX2_init : ByteArray := prog_4_method_1_code
def yX2_init : MethodName := ⟨RX2, "<init>", "()V"⟩
abbrev cX2_empty : ByteArray := prog_4_method_2_code
def yX2_empty : MethodName := ⟨RX2, "empty", "()V"⟩
abbrev cX2_copyFrom : ByteArray := prog_4_method_3_code
def yX2_copyFrom : MethodName := ⟨RX2, "copyFrom", "(LProofSheets$MarkList;)V"⟩
abbrev cX2_hasNot : ByteArray := prog_4_method_4_code
def yX2_hasNot : MethodName := ⟨RX2, "hasNot", "(I)Z"⟩
abbrev cX2_take : ByteArray := prog_4_method_5_code
def yX2_take : MethodName := ⟨RX2, "take", "(II)Z"⟩
abbrev cX2_howManyAreOpen : ByteArray := prog_4_method_6_code
def yX2_howManyAreOpen : MethodName := ⟨RX2, "howManyAreOpen", "()I"⟩
abbrev cX2_howManyOppose : ByteArray := prog_4_method_7_code
def yX2_howManyOppose : MethodName := ⟨RX2, "howManyOppose", "(I)I"⟩
abbrev cX2_opposedPairs : ByteArray := prog_4_method_8_code
def yX2_opposedPairs : MethodName := ⟨RX2, "opposedPairs", "()I"⟩
abbrev cX2_meetsAnAccepted : ByteArray := prog_4_method_9_code
def yX2_meetsAnAccepted : MethodName := ⟨RX2, "meetsAnAccepted", "(I)Z"⟩
abbrev cX2_canBeAccepted : ByteArray := prog_4_method_10_code
def yX2_canBeAccepted : MethodName := ⟨RX2, "canBeAccepted", "(I)Z"⟩
abbrev cX2_howManyAreListed : ByteArray := prog_4_method_11_code
def yX2_howManyAreListed : MethodName := ⟨RX2, "howManyAreListed", "(LProofSheets$Row;)I"⟩
abbrev cX2_howManyMeetAnAccepted : ByteArray := prog_4_method_12_code
def yX2_howManyMeetAnAccepted : MethodName := ⟨RX2, "howManyMeetAnAccepted", "(LProofSheets$Row;)I"⟩
abbrev cX2_mostWanted : ByteArray := prog_4_method_13_code
def yX2_mostWanted : MethodName := ⟨RX2, "mostWanted", "()I"⟩
abbrev cX2_isMoreWanted : ByteArray := prog_4_method_14_code
def yX2_isMoreWanted : MethodName := ⟨RX2, "isMoreWanted", "(II)Z"⟩
def RX3 : String := "ProofSheets$MarkText"
def TX3 : u_T := fun k => match k with
  | 0 => ("ProofSheets$MarkText", "signs", "LProofSheets$Row;", true)
  | 1 => ("ProofSheets$MarkText", "codes", "LProofSheets$Row;", true)
  | 2 => ("ProofSheets$MarkText", "start", "I", false)
  | 3 => ("ProofSheets$MarkText", "cursor", "I", false)
  | _ => ("ProofSheets$MarkText", "reason", "I", false)
def tyX3 : Nat → FieldType := fun k => match k with
  | 0 => .object "ProofSheets$Row"
  | 1 => .object "ProofSheets$Row"
  | 2 => .int
  | 3 => .int
  | _ => .int
abbrev wsX30 : List Cond := u_ws RX3 TX3 5
theorem nmX3 : ∀ a, a < 5 → ∀ b, b < 5 → a ≠ b → (TX3 a).2.1 ≠ (TX3 b).2.1 := by decide +kernel
theorem tyX3_ok : ∀ k, k < 5 → parseFieldDescriptor (TX3 k).2.2.1 = some (tyX3 k) := by decide +kernel
abbrev cX3_init : ByteArray := prog_5_method_1_code
def yX3_init : MethodName := ⟨RX3, "<init>", "()V"⟩
abbrev cX3_readFor : ByteArray := prog_5_method_2_code
def yX3_readFor : MethodName := ⟨RX3, "readFor", "(LProofSheets$Row;I)V"⟩
abbrev cX3_readMark : ByteArray := prog_5_method_3_code
def yX3_readMark : MethodName := ⟨RX3, "readMark", "(LProofSheets$Row;I)V"⟩
abbrev cX3_keep : ByteArray := prog_5_method_4_code
def yX3_keep : MethodName := ⟨RX3, "keep", "(ILProofSheets$Row;)V"⟩
abbrev cX3_readWord : ByteArray := prog_5_method_5_code
def yX3_readWord : MethodName := ⟨RX3, "readWord", "()I"⟩
abbrev cX3_wordOf : ByteArray := prog_5_method_6_code
def yX3_wordOf : MethodName := ⟨RX3, "wordOf", "(I)Ljava/lang/String;"⟩
abbrev cX3_spells : ByteArray := prog_5_method_7_code
def yX3_spells : MethodName := ⟨RX3, "spells", "(ILjava/lang/String;)Z"⟩
abbrev cX3_readPosition : ByteArray := prog_5_method_8_code
def yX3_readPosition : MethodName := ⟨RX3, "readPosition", "()I"⟩
abbrev cX3_readCharacter : ByteArray := prog_5_method_9_code
def yX3_readCharacter : MethodName := ⟨RX3, "readCharacter", "()I"⟩
abbrev cX3_passes : ByteArray := prog_5_method_10_code
def yX3_passes : MethodName := ⟨RX3, "passes", "(I)Z"⟩
def RX4 : String := "ProofSheets$Press"
def TX4 : u_T := fun k => match k with
  | 0 => ("ProofSheets$Press", "ahead", "LProofSheets$Row;", true)
  | 1 => ("ProofSheets$Press", "instead", "LProofSheets$Row;", true)
  | 2 => ("ProofSheets$Press", "turns", "LProofSheets$Row;", true)
  | _ => ("ProofSheets$Press", "paper", "LProofSheets$Row;", true)
def tyX4 : Nat → FieldType := fun k => match k with
  | 0 => .object "ProofSheets$Row"
  | 1 => .object "ProofSheets$Row"
  | 2 => .object "ProofSheets$Row"
  | _ => .object "ProofSheets$Row"
abbrev wsX40 : List Cond := u_ws RX4 TX4 4
theorem nmX4 : ∀ a, a < 4 → ∀ b, b < 4 → a ≠ b → (TX4 a).2.1 ≠ (TX4 b).2.1 := by decide +kernel
theorem tyX4_ok : ∀ k, k < 4 → parseFieldDescriptor (TX4 k).2.2.1 = some (tyX4 k) := by decide +kernel
abbrev cX4_init : ByteArray := prog_6_method_1_code
def yX4_init : MethodName := ⟨RX4, "<init>", "()V"⟩
abbrev cX4_printAtOnce : ByteArray := prog_6_method_2_code
def yX4_printAtOnce : MethodName := ⟨RX4, "printAtOnce", "(LProofSheets$Row;LProofSheets$MarkList;)LProofSheets$Row;"⟩
abbrev cX4_arrange : ByteArray := prog_6_method_3_code
def yX4_arrange : MethodName := ⟨RX4, "arrange", "(ILProofSheets$Row;)V"⟩
abbrev cX4_printIfAny : ByteArray := prog_6_method_4_code
def yX4_printIfAny : MethodName := ⟨RX4, "printIfAny", "(I)V"⟩
abbrev cX4_printInTurn : ByteArray := prog_6_method_5_code
def yX4_printInTurn : MethodName := ⟨RX4, "printInTurn", "(LProofSheets$Row;LProofSheets$MarkList;)LProofSheets$Row;"⟩
abbrev cX4_turnOf : ByteArray := prog_6_method_6_code
def yX4_turnOf : MethodName := ⟨RX4, "turnOf", "(I)I"⟩
abbrev cX4_goesBefore : ByteArray := prog_6_method_7_code
def yX4_goesBefore : MethodName := ⟨RX4, "goesBefore", "(II)Z"⟩
abbrev cX4_carryOut : ByteArray := prog_6_method_8_code
def yX4_carryOut : MethodName := ⟨RX4, "carryOut", "(I)V"⟩
abbrev cX4_otherCase : ByteArray := prog_6_method_9_code
def yX4_otherCase : MethodName := ⟨RX4, "otherCase", "(I)I"⟩
def RX5 : String := "ProofSheets$Row"
def TX5 : u_T := fun k => match k with
  | 0 => ("ProofSheets$Row", "cells", "[I", true)
  | _ => ("ProofSheets$Row", "used", "I", false)
def tyX5 : Nat → FieldType := fun k => match k with
  | 0 => .array .int
  | _ => .int
abbrev wsX50 : List Cond := u_ws RX5 TX5 2
theorem nmX5 : ∀ a, a < 2 → ∀ b, b < 2 → a ≠ b → (TX5 a).2.1 ≠ (TX5 b).2.1 := by decide +kernel
theorem tyX5_ok : ∀ k, k < 2 → parseFieldDescriptor (TX5 k).2.2.1 = some (tyX5 k) := by decide +kernel
abbrev cX5_init : ByteArray := prog_7_method_1_code
def yX5_init : MethodName := ⟨RX5, "<init>", "(I)V"⟩
abbrev cX5_used : ByteArray := prog_7_method_2_code
def yX5_used : MethodName := ⟨RX5, "used", "()I"⟩
abbrev cX5_hasNot : ByteArray := prog_7_method_3_code
def yX5_hasNot : MethodName := ⟨RX5, "hasNot", "(I)Z"⟩
abbrev cX5_get : ByteArray := prog_7_method_4_code
def yX5_get : MethodName := ⟨RX5, "get", "(I)I"⟩
abbrev cX5_set : ByteArray := prog_7_method_5_code
def yX5_set : MethodName := ⟨RX5, "set", "(II)V"⟩
abbrev cX5_add : ByteArray := prog_7_method_6_code
def yX5_add : MethodName := ⟨RX5, "add", "(II)V"⟩
abbrev cX5_append : ByteArray := prog_7_method_7_code
def yX5_append : MethodName := ⟨RX5, "append", "(I)V"⟩
abbrev cX5_insert : ByteArray := prog_7_method_8_code
def yX5_insert : MethodName := ⟨RX5, "insert", "(II)V"⟩
abbrev cX5_remove : ByteArray := prog_7_method_9_code
def yX5_remove : MethodName := ⟨RX5, "remove", "(I)V"⟩
abbrev cX5_cutTo : ByteArray := prog_7_method_10_code
def yX5_cutTo : MethodName := ⟨RX5, "cutTo", "(I)V"⟩
abbrev cX5_fill : ByteArray := prog_7_method_11_code
def yX5_fill : MethodName := ⟨RX5, "fill", "(II)V"⟩
abbrev cX5_copyFrom : ByteArray := prog_7_method_12_code
def yX5_copyFrom : MethodName := ⟨RX5, "copyFrom", "(LProofSheets$Row;)V"⟩
abbrev cX5_placeOf : ByteArray := prog_7_method_13_code
def yX5_placeOf : MethodName := ⟨RX5, "placeOf", "(I)I"⟩
def RX6 : String := "ProofSheets$Sheet"
def TX6 : u_T := fun k => match k with
  | 0 => ("ProofSheets$Sheet", "marks", "LProofSheets$Row;", true)
  | 1 => ("ProofSheets$Sheet", "reader", "I", false)
  | _ => ("ProofSheets$Sheet", "status", "I", false)
def tyX6 : Nat → FieldType := fun k => match k with
  | 0 => .object "ProofSheets$Row"
  | 1 => .int
  | _ => .int
abbrev wsX60 : List Cond := u_ws RX6 TX6 3
theorem nmX6 : ∀ a, a < 3 → ∀ b, b < 3 → a ≠ b → (TX6 a).2.1 ≠ (TX6 b).2.1 := by decide +kernel
theorem tyX6_ok : ∀ k, k < 3 → parseFieldDescriptor (TX6 k).2.2.1 = some (tyX6 k) := by decide +kernel
abbrev cX6_init : ByteArray := prog_8_method_1_code
def yX6_init : MethodName := ⟨RX6, "<init>", "()V"⟩
abbrev cX6_startFor : ByteArray := prog_8_method_2_code
def yX6_startFor : MethodName := ⟨RX6, "startFor", "(I)V"⟩
abbrev cX6_copyFrom : ByteArray := prog_8_method_3_code
def yX6_copyFrom : MethodName := ⟨RX6, "copyFrom", "(LProofSheets$Sheet;)V"⟩
def RX7 : String := "ProofSheets$State"
def TX7 : u_T := fun k => match k with
  | 0 => ("ProofSheets$State", "text", "LProofSheets$Row;", true)
  | 1 => ("ProofSheets$State", "sheets", "[LProofSheets$Sheet;", true)
  | 2 => ("ProofSheets$State", "list", "LProofSheets$MarkList;", true)
  | 3 => ("ProofSheets$State", "accounts", "LProofSheets$Row;", true)
  | 4 => ("ProofSheets$State", "sentTo", "LProofSheets$Row;", true)
  | 5 => ("ProofSheets$State", "madeBy", "LProofSheets$Row;", true)
  | 6 => ("ProofSheets$State", "mergedOf", "LProofSheets$Row;", true)
  | 7 => ("ProofSheets$State", "round", "I", false)
  | _ => ("ProofSheets$State", "sheetCount", "I", false)
def tyX7 : Nat → FieldType := fun k => match k with
  | 0 => .object "ProofSheets$Row"
  | 1 => .array (.object "ProofSheets$Sheet")
  | 2 => .object "ProofSheets$MarkList"
  | 3 => .object "ProofSheets$Row"
  | 4 => .object "ProofSheets$Row"
  | 5 => .object "ProofSheets$Row"
  | 6 => .object "ProofSheets$Row"
  | 7 => .int
  | _ => .int
abbrev wsX70 : List Cond := u_ws RX7 TX7 9
theorem nmX7 : ∀ a, a < 9 → ∀ b, b < 9 → a ≠ b → (TX7 a).2.1 ≠ (TX7 b).2.1 := by decide +kernel
theorem tyX7_ok : ∀ k, k < 9 → parseFieldDescriptor (TX7 k).2.2.1 = some (tyX7 k) := by decide +kernel
abbrev cX7_init : ByteArray := prog_9_method_1_code
def yX7_init : MethodName := ⟨RX7, "<init>", "()V"⟩
abbrev cX7_copyFrom : ByteArray := prog_9_method_2_code
def yX7_copyFrom : MethodName := ⟨RX7, "copyFrom", "(LProofSheets$State;)V"⟩
abbrev cX7_copySheet : ByteArray := prog_9_method_3_code
def yX7_copySheet : MethodName := ⟨RX7, "copySheet", "(LProofSheets$Sheet;LProofSheets$Sheet;)V"⟩
abbrev cX7_sheetNumbered : ByteArray := prog_9_method_4_code
def yX7_sheetNumbered : MethodName := ⟨RX7, "sheetNumbered", "(I)LProofSheets$Sheet;"⟩
abbrev cX7_addSheet : ByteArray := prog_9_method_5_code
def yX7_addSheet : MethodName := ⟨RX7, "addSheet", "(I)I"⟩
abbrev cX7_hasSheetOut : ByteArray := prog_9_method_6_code
def yX7_hasSheetOut : MethodName := ⟨RX7, "hasSheetOut", "(I)Z"⟩
abbrev cX7_howManySheetsAre : ByteArray := prog_9_method_7_code
def yX7_howManySheetsAre : MethodName := ⟨RX7, "howManySheetsAre", "(I)I"⟩
abbrev cX7_marksOnSheetsThatAre : ByteArray := prog_9_method_8_code
def yX7_marksOnSheetsThatAre : MethodName := ⟨RX7, "marksOnSheetsThatAre", "(I)I"⟩
abbrev cX7_account : ByteArray := prog_9_method_9_code
def yX7_account : MethodName := ⟨RX7, "account", "(I)I"⟩
abbrev cX7_writeOn : ByteArray := prog_9_method_10_code
def yX7_writeOn : MethodName := ⟨RX7, "writeOn", "(LProofSheets$Sheet;LProofSheets$Row;)V"⟩
abbrev cX7_mergeMarksOf : ByteArray := prog_9_method_11_code
def yX7_mergeMarksOf : MethodName := ⟨RX7, "mergeMarksOf", "(LProofSheets$Sheet;)I"⟩
abbrev cX7_keepAnswer : ByteArray := prog_9_method_12_code
def yX7_keepAnswer : MethodName := ⟨RX7, "keepAnswer", "(II)V"⟩
abbrev cX7_canBeFinished : ByteArray := prog_9_method_13_code
def yX7_canBeFinished : MethodName := ⟨RX7, "canBeFinished", "()Z"⟩
abbrev cX7_endRound : ByteArray := prog_9_method_14_code
def yX7_endRound : MethodName := ⟨RX7, "endRound", "(LProofSheets$Row;)V"⟩
def RX8 : String := "ProofSheets"
def TX8 : u_T := fun k => match k with
  | 0 => ("ProofSheets", "now", "LProofSheets$State;", true)
  | 1 => ("ProofSheets", "history", "LProofSheets$History;", true)
  | 2 => ("ProofSheets", "markText", "LProofSheets$MarkText;", true)
  | _ => ("ProofSheets", "press", "LProofSheets$Press;", true)
def tyX8 : Nat → FieldType := fun k => match k with
  | 0 => .object "ProofSheets$State"
  | 1 => .object "ProofSheets$History"
  | 2 => .object "ProofSheets$MarkText"
  | _ => .object "ProofSheets$Press"
abbrev wsX80 : List Cond := u_ws RX8 TX8 4
theorem nmX8 : ∀ a, a < 4 → ∀ b, b < 4 → a ≠ b → (TX8 a).2.1 ≠ (TX8 b).2.1 := by decide +kernel
theorem tyX8_ok : ∀ k, k < 4 → parseFieldDescriptor (TX8 k).2.2.1 = some (tyX8 k) := by decide +kernel
abbrev cX8_init : ByteArray := prog_1_method_1_code
def yX8_init : MethodName := ⟨RX8, "<init>", "()V"⟩
abbrev cX8_put : ByteArray := prog_1_method_2_code
def yX8_put : MethodName := ⟨RX8, "put", "(I)I"⟩
abbrev cX8_begin : ByteArray := prog_1_method_3_code
def yX8_begin : MethodName := ⟨RX8, "begin", "()I"⟩
abbrev cX8_send : ByteArray := prog_1_method_4_code
def yX8_send : MethodName := ⟨RX8, "send", "(I)I"⟩
abbrev cX8_bring : ByteArray := prog_1_method_5_code
def yX8_bring : MethodName := ⟨RX8, "bring", "(I)I"⟩
abbrev cX8_lose : ByteArray := prog_1_method_6_code
def yX8_lose : MethodName := ⟨RX8, "lose", "(I)I"⟩
abbrev cX8_find : ByteArray := prog_1_method_7_code
def yX8_find : MethodName := ⟨RX8, "find", "(I)I"⟩
abbrev cX8_merge : ByteArray := prog_1_method_8_code
def yX8_merge : MethodName := ⟨RX8, "merge", "(I)I"⟩
abbrev cX8_sheet : ByteArray := prog_1_method_9_code
def yX8_sheet : MethodName := ⟨RX8, "sheet", "(II)I"⟩
abbrev cX8_written : ByteArray := prog_1_method_10_code
def yX8_written : MethodName := ⟨RX8, "written", "(III)I"⟩
abbrev cX8_undo : ByteArray := prog_1_method_11_code
def yX8_undo : MethodName := ⟨RX8, "undo", "()I"⟩
abbrev cX8_count : ByteArray := prog_1_method_12_code
def yX8_count : MethodName := ⟨RX8, "count", "(I)I"⟩
abbrev cX8_at : ByteArray := prog_1_method_13_code
def yX8_at : MethodName := ⟨RX8, "at", "(I)I"⟩
abbrev cX8_mark : ByteArray := prog_1_method_14_code
def yX8_mark : MethodName := ⟨RX8, "mark", "(II)I"⟩
abbrev cX8_answer : ByteArray := prog_1_method_15_code
def yX8_answer : MethodName := ⟨RX8, "answer", "(II)I"⟩
abbrev cX8_against : ByteArray := prog_1_method_16_code
def yX8_against : MethodName := ⟨RX8, "against", "(II)I"⟩
abbrev cX8_next : ByteArray := prog_1_method_17_code
def yX8_next : MethodName := ⟨RX8, "next", "()I"⟩
abbrev cX8_finish : ByteArray := prog_1_method_18_code
def yX8_finish : MethodName := ⟨RX8, "finish", "()I"⟩
abbrev cX8_would : ByteArray := prog_1_method_19_code
def yX8_would : MethodName := ⟨RX8, "would", "(I)I"⟩
abbrev cX8_again : ByteArray := prog_1_method_20_code
def yX8_again : MethodName := ⟨RX8, "again", "(I)I"⟩
abbrev cX8_reader : ByteArray := prog_1_method_21_code
def yX8_reader : MethodName := ⟨RX8, "reader", "(II)I"⟩
abbrev cX8_type : ByteArray := prog_1_method_22_code
def yX8_type : MethodName := ⟨RX8, "type", "(I)I"⟩
abbrev cX8_clearText : ByteArray := prog_1_method_23_code
def yX8_clearText : MethodName := ⟨RX8, "clearText", "()I"⟩
abbrev cX8_fault : ByteArray := prog_1_method_24_code
def yX8_fault : MethodName := ⟨RX8, "fault", "(II)I"⟩
abbrev cX8_write : ByteArray := prog_1_method_25_code
def yX8_write : MethodName := ⟨RX8, "write", "(I)I"⟩
abbrev cX8_putSheet : ByteArray := prog_1_method_26_code
def yX8_putSheet : MethodName := ⟨RX8, "putSheet", "(LProofSheets$Sheet;I)I"⟩
abbrev cX8_characterIn : ByteArray := prog_1_method_27_code
def yX8_characterIn : MethodName := ⟨RX8, "characterIn", "(LProofSheets$Row;I)I"⟩
abbrev cX8_isOutside : ByteArray := prog_1_method_28_code
def yX8_isOutside : MethodName := ⟨RX8, "isOutside", "(III)Z"⟩
abbrev cX8_isNoCharacter : ByteArray := prog_1_method_29_code
def yX8_isNoCharacter : MethodName := ⟨RX8, "isNoCharacter", "(I)Z"⟩
abbrev cX8_isNoReader : ByteArray := prog_1_method_30_code
def yX8_isNoReader : MethodName := ⟨RX8, "isNoReader", "(I)Z"⟩
def RX9 : String := "ProofSheetsModel"
def TX9 : u_T := fun k => match k with
  | 0 => ("ProofSheetsModel", "st", "[I", true)
  | 1 => ("ProofSheetsModel", "past", "[I", true)
  | 2 => ("ProofSheetsModel", "pasts", "I", false)
  | 3 => ("ProofSheetsModel", "typed", "[I", true)
  | 4 => ("ProofSheetsModel", "typedMany", "I", false)
  | 5 => ("ProofSheetsModel", "made", "[I", true)
  | 6 => ("ProofSheetsModel", "madeMany", "I", false)
  | 7 => ("ProofSheetsModel", "from", "I", false)
  | 8 => ("ProofSheetsModel", "spot", "I", false)
  | 9 => ("ProofSheetsModel", "read", "[I", true)
  | _ => ("ProofSheetsModel", "readMany", "I", false)
def tyX9 : Nat → FieldType := fun k => match k with
  | 0 => .array .int
  | 1 => .array .int
  | 2 => .int
  | 3 => .array .int
  | 4 => .int
  | 5 => .array .int
  | 6 => .int
  | 7 => .int
  | 8 => .int
  | 9 => .array .int
  | _ => .int
abbrev wsX90 : List Cond := u_ws RX9 TX9 11
theorem nmX9 : ∀ a, a < 11 → ∀ b, b < 11 → a ≠ b → (TX9 a).2.1 ≠ (TX9 b).2.1 := by decide +kernel
theorem tyX9_ok : ∀ k, k < 11 → parseFieldDescriptor (TX9 k).2.2.1 = some (tyX9 k) := by decide +kernel
abbrev cX9_init : ByteArray := prog_11_method_1_code
def yX9_init : MethodName := ⟨RX9, "<init>", "()V"⟩
abbrev cX9_in : ByteArray := prog_11_method_3_code
def yX9_in : MethodName := ⟨RX9, "in", "(III)Z"⟩
abbrev cX9_records : ByteArray := prog_11_method_4_code
def yX9_records : MethodName := ⟨RX9, "records", "()V"⟩
abbrev cX9_undo : ByteArray := prog_11_method_5_code
def yX9_undo : MethodName := ⟨RX9, "undo", "()I"⟩
abbrev cX9_put : ByteArray := prog_11_method_6_code
def yX9_put : MethodName := ⟨RX9, "put", "(I)I"⟩
abbrev cX9_begin : ByteArray := prog_11_method_7_code
def yX9_begin : MethodName := ⟨RX9, "begin", "()I"⟩
abbrev cX9_sheetAt : ByteArray := prog_11_method_8_code
def yX9_sheetAt : MethodName := ⟨RX9, "sheetAt", "(I)I"⟩
abbrev cX9_of : ByteArray := prog_11_method_9_code
def yX9_of : MethodName := ⟨RX9, "of", "(II)I"⟩
abbrev cX9_isSheet : ByteArray := prog_11_method_10_code
def yX9_isSheet : MethodName := ⟨RX9, "isSheet", "(I)Z"⟩
abbrev cX9_markOf : ByteArray := prog_11_method_11_code
def yX9_markOf : MethodName := ⟨RX9, "markOf", "(II)I"⟩
abbrev cX9_listed : ByteArray := prog_11_method_12_code
def yX9_listed : MethodName := ⟨RX9, "listed", "(I)I"⟩
abbrev cX9_isMark : ByteArray := prog_11_method_13_code
def yX9_isMark : MethodName := ⟨RX9, "isMark", "(I)Z"⟩
abbrev cX9_isReader : ByteArray := prog_11_method_14_code
def yX9_isReader : MethodName := ⟨RX9, "isReader", "(I)Z"⟩
abbrev cX9_inState : ByteArray := prog_11_method_15_code
def yX9_inState : MethodName := ⟨RX9, "inState", "(I)I"⟩
abbrev cX9_isBusy : ByteArray := prog_11_method_16_code
def yX9_isBusy : MethodName := ⟨RX9, "isBusy", "(I)Z"⟩
abbrev cX9_send : ByteArray := prog_11_method_17_code
def yX9_send : MethodName := ⟨RX9, "send", "(I)I"⟩
abbrev cX9_becomes : ByteArray := prog_11_method_18_code
def yX9_becomes : MethodName := ⟨RX9, "becomes", "(II)I"⟩
abbrev cX9_bring : ByteArray := prog_11_method_19_code
def yX9_bring : MethodName := ⟨RX9, "bring", "(I)I"⟩
abbrev cX9_lose : ByteArray := prog_11_method_20_code
def yX9_lose : MethodName := ⟨RX9, "lose", "(I)I"⟩
abbrev cX9_find : ByteArray := prog_11_method_21_code
def yX9_find : MethodName := ⟨RX9, "find", "(I)I"⟩
abbrev cX9_areLike : ByteArray := prog_11_method_22_code
def yX9_areLike : MethodName := ⟨RX9, "areLike", "(II)Z"⟩
abbrev cX9_behind : ByteArray := prog_11_method_23_code
def yX9_behind : MethodName := ⟨RX9, "behind", "(I)I"⟩
abbrev cX9_isWithin : ByteArray := prog_11_method_24_code
def yX9_isWithin : MethodName := ⟨RX9, "isWithin", "(II)Z"⟩
abbrev cX9_areAgainst : ByteArray := prog_11_method_25_code
def yX9_areAgainst : MethodName := ⟨RX9, "areAgainst", "(II)Z"⟩
abbrev cX9_likeOf : ByteArray := prog_11_method_26_code
def yX9_likeOf : MethodName := ⟨RX9, "likeOf", "(I)I"⟩
abbrev cX9_isBarred : ByteArray := prog_11_method_27_code
def yX9_isBarred : MethodName := ⟨RX9, "isBarred", "(I)Z"⟩
abbrev cX9_comes : ByteArray := prog_11_method_28_code
def yX9_comes : MethodName := ⟨RX9, "comes", "(II)Z"⟩
abbrev cX9_merge : ByteArray := prog_11_method_29_code
def yX9_merge : MethodName := ⟨RX9, "merge", "(I)I"⟩
abbrev cX9_sheetTold : ByteArray := prog_11_method_30_code
def yX9_sheetTold : MethodName := ⟨RX9, "sheetTold", "(II)I"⟩
abbrev cX9_sheet : ByteArray := prog_11_method_31_code
def yX9_sheet : MethodName := ⟨RX9, "sheet", "(II)I"⟩
abbrev cX9_numberOf : ByteArray := prog_11_method_32_code
def yX9_numberOf : MethodName := ⟨RX9, "numberOf", "(II)I"⟩
abbrev cX9_written : ByteArray := prog_11_method_33_code
def yX9_written : MethodName := ⟨RX9, "written", "(III)I"⟩
abbrev cX9_unanswered : ByteArray := prog_11_method_34_code
def yX9_unanswered : MethodName := ⟨RX9, "unanswered", "()I"⟩
abbrev cX9_againstMany : ByteArray := prog_11_method_35_code
def yX9_againstMany : MethodName := ⟨RX9, "againstMany", "(I)I"⟩
abbrev cX9_pairs : ByteArray := prog_11_method_36_code
def yX9_pairs : MethodName := ⟨RX9, "pairs", "()I"⟩
abbrev cX9_unmerged : ByteArray := prog_11_method_37_code
def yX9_unmerged : MethodName := ⟨RX9, "unmerged", "()I"⟩
abbrev cX9_count : ByteArray := prog_11_method_38_code
def yX9_count : MethodName := ⟨RX9, "count", "(I)I"⟩
abbrev cX9_at : ByteArray := prog_11_method_39_code
def yX9_at : MethodName := ⟨RX9, "at", "(I)I"⟩
abbrev cX9_lowest : ByteArray := prog_11_method_40_code
def yX9_lowest : MethodName := ⟨RX9, "lowest", "(I)I"⟩
abbrev cX9_markTold : ByteArray := prog_11_method_41_code
def yX9_markTold : MethodName := ⟨RX9, "markTold", "(II)I"⟩
abbrev cX9_mark : ByteArray := prog_11_method_42_code
def yX9_mark : MethodName := ⟨RX9, "mark", "(II)I"⟩
abbrev cX9_answer : ByteArray := prog_11_method_43_code
def yX9_answer : MethodName := ⟨RX9, "answer", "(II)I"⟩
abbrev cX9_against : ByteArray := prog_11_method_44_code
def yX9_against : MethodName := ⟨RX9, "against", "(II)I"⟩
abbrev cX9_next : ByteArray := prog_11_method_45_code
def yX9_next : MethodName := ⟨RX9, "next", "()I"⟩
abbrev cX9_other : ByteArray := prog_11_method_46_code
def yX9_other : MethodName := ⟨RX9, "other", "(I)I"⟩
abbrev cX9_isAccepted : ByteArray := prog_11_method_47_code
def yX9_isAccepted : MethodName := ⟨RX9, "isAccepted", "(I)Z"⟩
abbrev cX9_brings : ByteArray := prog_11_method_48_code
def yX9_brings : MethodName := ⟨RX9, "brings", "(I)V"⟩
abbrev cX9_turned : ByteArray := prog_11_method_49_code
def yX9_turned : MethodName := ⟨RX9, "turned", "(I)I"⟩
abbrev cX9_makes : ByteArray := prog_11_method_50_code
def yX9_makes : MethodName := ⟨RX9, "makes", "()V"⟩
abbrev cX9_madeAt : ByteArray := prog_11_method_51_code
def yX9_madeAt : MethodName := ⟨RX9, "madeAt", "(I)I"⟩
abbrev cX9_would : ByteArray := prog_11_method_52_code
def yX9_would : MethodName := ⟨RX9, "would", "(I)I"⟩
abbrev cX9_shifts : ByteArray := prog_11_method_53_code
def yX9_shifts : MethodName := ⟨RX9, "shifts", "(II)V"⟩
abbrev cX9_carries : ByteArray := prog_11_method_54_code
def yX9_carries : MethodName := ⟨RX9, "carries", "(I)V"⟩
abbrev cX9_makesOneByOne : ByteArray := prog_11_method_55_code
def yX9_makesOneByOne : MethodName := ⟨RX9, "makesOneByOne", "()V"⟩
abbrev cX9_again : ByteArray := prog_11_method_56_code
def yX9_again : MethodName := ⟨RX9, "again", "(I)I"⟩
abbrev cX9_finish : ByteArray := prog_11_method_57_code
def yX9_finish : MethodName := ⟨RX9, "finish", "()I"⟩
abbrev cX9_reader : ByteArray := prog_11_method_58_code
def yX9_reader : MethodName := ⟨RX9, "reader", "(II)I"⟩
abbrev cX9_type : ByteArray := prog_11_method_59_code
def yX9_type : MethodName := ⟨RX9, "type", "(I)I"⟩
abbrev cX9_clearText : ByteArray := prog_11_method_60_code
def yX9_clearText : MethodName := ⟨RX9, "clearText", "()I"⟩
abbrev cX9_here : ByteArray := prog_11_method_61_code
def yX9_here : MethodName := ⟨RX9, "here", "()I"⟩
abbrev cX9_takes : ByteArray := prog_11_method_62_code
def yX9_takes : MethodName := ⟨RX9, "takes", "(I)Z"⟩
abbrev cX9_spelt : ByteArray := prog_11_method_63_code
def yX9_spelt : MethodName := ⟨RX9, "spelt", "(IIII)I"⟩
abbrev cX9_wordHere : ByteArray := prog_11_method_64_code
def yX9_wordHere : MethodName := ⟨RX9, "wordHere", "()I"⟩
abbrev cX9_takesPosition : ByteArray := prog_11_method_65_code
def yX9_takesPosition : MethodName := ⟨RX9, "takesPosition", "()I"⟩
abbrev cX9_isFormed : ByteArray := prog_11_method_66_code
def yX9_isFormed : MethodName := ⟨RX9, "isFormed", "(I)Z"⟩
abbrev cX9_isInRange : ByteArray := prog_11_method_67_code
def yX9_isInRange : MethodName := ⟨RX9, "isInRange", "()Z"⟩
abbrev cX9_isThere : ByteArray := prog_11_method_68_code
def yX9_isThere : MethodName := ⟨RX9, "isThere", "(I)Z"⟩
abbrev cX9_reason : ByteArray := prog_11_method_69_code
def yX9_reason : MethodName := ⟨RX9, "reason", "(I)I"⟩
abbrev cX9_readsAll : ByteArray := prog_11_method_70_code
def yX9_readsAll : MethodName := ⟨RX9, "readsAll", "(I)I"⟩
abbrev cX9_fault : ByteArray := prog_11_method_71_code
def yX9_fault : MethodName := ⟨RX9, "fault", "(II)I"⟩
abbrev cX9_write : ByteArray := prog_11_method_72_code
def yX9_write : MethodName := ⟨RX9, "write", "(I)I"⟩
def RJ9 : String := "java/lang/Math"
def TJ9 : u_T := fun k => match k with
  | _ => ("", "", "", false)
def tyJ9 : Nat → FieldType := fun k => match k with
  | _ => .int
abbrev wsJ90 : List Cond := u_ws RJ9 TJ9 0
theorem nmJ9 : ∀ a, a < 0 → ∀ b, b < 0 → a ≠ b → (TJ9 a).2.1 ≠ (TJ9 b).2.1 := by decide +kernel
theorem tyJ9_ok : ∀ k, k < 0 → parseFieldDescriptor (TJ9 k).2.2.1 = some (tyJ9 k) := by decide +kernel
abbrev cJ9_min_7cf53 : ByteArray := prog_12_method_69_code
def yJ9_min_7cf53 : MethodName := ⟨RJ9, "min", "(II)I"⟩
def RJ0 : String := "java/lang/String"
def TJ0 : u_T := fun k => match k with
  | _ => ("", "", "", false)
def tyJ0 : Nat → FieldType := fun k => match k with
  | _ => .int
abbrev wsJ00 : List Cond := u_ws RJ0 TJ0 0
theorem nmJ0 : ∀ a, a < 0 → ∀ b, b < 0 → a ≠ b → (TJ0 a).2.1 ≠ (TJ0 b).2.1 := by decide +kernel
theorem tyJ0_ok : ∀ k, k < 0 → parseFieldDescriptor (TJ0 k).2.2.1 = some (tyJ0 k) := by decide +kernel
abbrev cJ0_length_8abf5 : ByteArray := prog_13_method_54_code
def yJ0_length_8abf5 : MethodName := ⟨RJ0, "length", "()I"⟩
abbrev cJ0_charAt_5068e : ByteArray := prog_13_method_56_code
def yJ0_charAt_5068e : MethodName := ⟨RJ0, "charAt", "(I)C"⟩
abbrev cJ0_coder_7d493 : ByteArray := prog_13_method_152_code
def yJ0_coder_7d493 : MethodName := ⟨RJ0, "coder", "()B"⟩
abbrev cJ0_isLatin1_aae02 : ByteArray := prog_13_method_154_code
def yJ0_isLatin1_aae02 : MethodName := ⟨RJ0, "isLatin1", "()Z"⟩
abbrev cJ0_checkIndex_df160 : ByteArray := prog_13_method_155_code
def yJ0_checkIndex_df160 : MethodName := ⟨RJ0, "checkIndex", "(II)V"⟩
def RJ1 : String := "java/lang/StringLatin1"
def TJ1 : u_T := fun k => match k with
  | _ => ("", "", "", false)
def tyJ1 : Nat → FieldType := fun k => match k with
  | _ => .int
abbrev wsJ10 : List Cond := u_ws RJ1 TJ1 0
theorem nmJ1 : ∀ a, a < 0 → ∀ b, b < 0 → a ≠ b → (TJ1 a).2.1 ≠ (TJ1 b).2.1 := by decide +kernel
theorem tyJ1_ok : ∀ k, k < 0 → parseFieldDescriptor (TJ1 k).2.2.1 = some (tyJ1 k) := by decide +kernel
abbrev cJ1_charAt_3b067 : ByteArray := prog_14_method_2_code
def yJ1_charAt_3b067 : MethodName := ⟨RJ1, "charAt", "([BI)C"⟩
def RJ2 : String := "java/lang/StringUTF16"
def TJ2 : u_T := fun k => match k with
  | _ => ("", "", "", false)
def tyJ2 : Nat → FieldType := fun k => match k with
  | _ => .int
abbrev wsJ20 : List Cond := u_ws RJ2 TJ2 0
theorem nmJ2 : ∀ a, a < 0 → ∀ b, b < 0 → a ≠ b → (TJ2 a).2.1 ≠ (TJ2 b).2.1 := by decide +kernel
theorem tyJ2_ok : ∀ k, k < 0 → parseFieldDescriptor (TJ2 k).2.2.1 = some (tyJ2 k) := by decide +kernel
abbrev cJ2_getChar_3b067 : ByteArray := prog_15_method_5_code
def yJ2_getChar_3b067 : MethodName := ⟨RJ2, "getChar", "([BI)C"⟩
abbrev cJ2_length_9d52b : ByteArray := prog_15_method_6_code
def yJ2_length_9d52b : MethodName := ⟨RJ2, "length", "([B)I"⟩
abbrev cJ2_charAt_3b067 : ByteArray := prog_15_method_83_code
def yJ2_charAt_3b067 : MethodName := ⟨RJ2, "charAt", "([BI)C"⟩
abbrev cJ2_checkIndex_2214a : ByteArray := prog_15_method_91_code
def yJ2_checkIndex_2214a : MethodName := ⟨RJ2, "checkIndex", "(I[B)V"⟩
def RJ3 : String := "jdk/internal/util/Preconditions"
def TJ3 : u_T := fun k => match k with
  | _ => ("", "", "", false)
def tyJ3 : Nat → FieldType := fun k => match k with
  | _ => .int
abbrev wsJ30 : List Cond := u_ws RJ3 TJ3 0
theorem nmJ3 : ∀ a, a < 0 → ∀ b, b < 0 → a ≠ b → (TJ3 a).2.1 ≠ (TJ3 b).2.1 := by decide +kernel
theorem tyJ3_ok : ∀ k, k < 0 → parseFieldDescriptor (TJ3 k).2.2.1 = some (tyJ3 k) := by decide +kernel
abbrev cJ3_checkIndex_8e157 : ByteArray := prog_16_method_11_code
def yJ3_checkIndex_8e157 : MethodName := ⟨RJ3, "checkIndex", "(IILjava/util/function/BiFunction;)I"⟩
def RL : String := "ProofSheetsLaw"
abbrev cL_law : ByteArray := code
def yL_law : MethodName := ⟨RL, "law", "([I)Z"⟩
def wsX5_init : List Cond := .code yX5_init cX5_init 2 none :: ([.methodLink RX5 1 objectInit, .instanceMethod objectInit, .code objectInit ⟨#[0xb1]⟩ 1 none, .arrayClass .int, .fieldLink RX5 7 "ProofSheets$Row" "cells" "[I"] ++ wsX50)
def wsX2_init : List Cond := .code yX2_init cX2_init 1 none :: ([.methodLink RX2 3 objectInit, .instanceMethod objectInit, .code objectInit ⟨#[0xb1]⟩ 1 none, .classLink RX2 9 RX5, .instantiable RX5 2, .initialized RX5, .fieldLink RX2 14 "ProofSheets$MarkList" "codes" "LProofSheets$Row;", .fieldLink RX2 20 "ProofSheets$MarkList" "answers" "LProofSheets$Row;", .fieldLink RX2 23 "ProofSheets$MarkList" "sheetCounts" "LProofSheets$Row;", .fieldLink RX2 26 "ProofSheets$MarkList" "lowestReaders" "LProofSheets$Row;", .methodLink RX2 11 yX5_init, .instanceMethod yX5_init, .code yX5_init cX5_init 2 none, .methodLink RX5 1 objectInit, .arrayClass .int, .fieldLink RX5 7 "ProofSheets$Row" "cells" "[I"] ++ wsX50 ++ wsX20)
def wsX6_init : List Cond := .code yX6_init cX6_init 1 none :: ([.methodLink RX6 3 objectInit, .instanceMethod objectInit, .code objectInit ⟨#[0xb1]⟩ 1 none, .classLink RX6 9 RX5, .instantiable RX5 2, .initialized RX5, .fieldLink RX6 14 "ProofSheets$Sheet" "marks" "LProofSheets$Row;", .methodLink RX6 11 yX5_init, .instanceMethod yX5_init, .code yX5_init cX5_init 2 none, .methodLink RX5 1 objectInit, .arrayClass .int, .fieldLink RX5 7 "ProofSheets$Row" "cells" "[I"] ++ wsX50 ++ wsX60)
def wsX5_append : List Cond := .code yX5_append cX5_append 2 none :: ([.fieldLink RX5 13 "ProofSheets$Row" "used" "I", .fieldLink RX5 7 "ProofSheets$Row" "cells" "[I"] ++ wsX50)
def wsX5_fill : List Cond := .code yX5_fill cX5_fill 4 none :: ([.fieldLink RX5 13 "ProofSheets$Row" "used" "I", .methodLink RX5 29 yX5_append, .instanceMethod yX5_append, .selects RX5 yX5_append yX5_append, .initialized RX5, .code yX5_append cX5_append 2 none, .fieldLink RX5 7 "ProofSheets$Row" "cells" "[I"] ++ wsX50)
def wsX7_init_r1 : List Cond := [Cond.methodLink RX7 3 objectInit, Cond.instanceMethod objectInit, Cond.code objectInit ⟨#[0xb1]⟩ 1 none, Cond.classLink RX7 9 RX5, Cond.instantiable RX5 2, Cond.initialized RX5, Cond.fieldLink RX7 14 "ProofSheets$State" "text" "LProofSheets$Row;", Cond.classLink RX7 20 RX6, Cond.fieldLink RX7 22 "ProofSheets$State" "sheets" "[LProofSheets$Sheet;", Cond.classLink RX7 26 RX2, Cond.instantiable RX2 4, Cond.initialized RX2, Cond.fieldLink RX7 29 "ProofSheets$State" "list" "LProofSheets$MarkList;", Cond.fieldLink RX7 33 "ProofSheets$State" "accounts" "LProofSheets$Row;", Cond.fieldLink RX7 36 "ProofSheets$State" "sentTo" "LProofSheets$Row;", Cond.fieldLink RX7 39 "ProofSheets$State" "madeBy" "LProofSheets$Row;", Cond.fieldLink RX7 42 "ProofSheets$State" "mergedOf" "LProofSheets$Row;", Cond.instantiable RX6 3, Cond.initialized RX6, Cond.methodLink RX7 11 yX5_init, Cond.instanceMethod yX5_init, Cond.code yX5_init cX5_init 2 none, Cond.methodLink RX5 1 objectInit, Cond.arrayClass .int]
def wsX7_init_r2 : List Cond := [Cond.fieldLink RX5 7 "ProofSheets$Row" "cells" "[I", Cond.instanceMethod yX2_init, Cond.code yX2_init cX2_init 1 none, Cond.methodLink RX2 3 objectInit, Cond.classLink RX2 9 RX5, Cond.fieldLink RX2 14 "ProofSheets$MarkList" "codes" "LProofSheets$Row;", Cond.fieldLink RX2 20 "ProofSheets$MarkList" "answers" "LProofSheets$Row;", Cond.fieldLink RX2 23 "ProofSheets$MarkList" "sheetCounts" "LProofSheets$Row;", Cond.fieldLink RX2 26 "ProofSheets$MarkList" "lowestReaders" "LProofSheets$Row;", Cond.methodLink RX2 11 yX5_init, Cond.instanceMethod yX6_init, Cond.code yX6_init cX6_init 1 none, Cond.methodLink RX6 3 objectInit, Cond.classLink RX6 9 RX5, Cond.fieldLink RX6 14 "ProofSheets$Sheet" "marks" "LProofSheets$Row;", Cond.methodLink RX6 11 yX5_init, Cond.methodLink RX7 46 yX5_fill, Cond.instanceMethod yX5_fill, Cond.selects RX5 yX5_fill yX5_fill, Cond.code yX5_fill cX5_fill 4 none, Cond.fieldLink RX5 13 "ProofSheets$Row" "used" "I", Cond.methodLink RX5 29 yX5_append, Cond.instanceMethod yX5_append, Cond.selects RX5 yX5_append yX5_append]
def wsX7_init_r3 : List Cond := [Cond.code yX5_append cX5_append 2 none]
def wsX7_init : List Cond := .code yX7_init cX7_init 2 none :: ((wsX7_init_r1 ++ (wsX7_init_r2 ++ wsX7_init_r3)) ++ wsX50 ++ wsX70 ++ wsX20 ++ wsX60)
def wsX0_init_r1 : List Cond := [Cond.methodLink RX0 3 objectInit, Cond.instanceMethod objectInit, Cond.code objectInit ⟨#[0xb1]⟩ 1 none, Cond.classLink RX0 9 RX7, Cond.fieldLink RX0 11 "ProofSheets$History" "states" "[LProofSheets$State;", Cond.instantiable RX7 9, Cond.initialized RX7, Cond.methodLink RX0 17 yX7_init, Cond.instanceMethod yX7_init, Cond.code yX7_init cX7_init 2 none, Cond.methodLink RX7 3 objectInit, Cond.classLink RX7 9 RX5, Cond.instantiable RX5 2, Cond.initialized RX5, Cond.fieldLink RX7 14 "ProofSheets$State" "text" "LProofSheets$Row;", Cond.classLink RX7 20 RX6, Cond.fieldLink RX7 22 "ProofSheets$State" "sheets" "[LProofSheets$Sheet;", Cond.classLink RX7 26 RX2, Cond.instantiable RX2 4, Cond.initialized RX2, Cond.fieldLink RX7 29 "ProofSheets$State" "list" "LProofSheets$MarkList;", Cond.fieldLink RX7 33 "ProofSheets$State" "accounts" "LProofSheets$Row;", Cond.fieldLink RX7 36 "ProofSheets$State" "sentTo" "LProofSheets$Row;", Cond.fieldLink RX7 39 "ProofSheets$State" "madeBy" "LProofSheets$Row;"]
def wsX0_init_r2 : List Cond := [Cond.fieldLink RX7 42 "ProofSheets$State" "mergedOf" "LProofSheets$Row;", Cond.instantiable RX6 3, Cond.initialized RX6, Cond.methodLink RX7 11 yX5_init, Cond.instanceMethod yX5_init, Cond.code yX5_init cX5_init 2 none, Cond.methodLink RX5 1 objectInit, Cond.arrayClass .int, Cond.fieldLink RX5 7 "ProofSheets$Row" "cells" "[I", Cond.instanceMethod yX2_init, Cond.code yX2_init cX2_init 1 none, Cond.methodLink RX2 3 objectInit, Cond.classLink RX2 9 RX5, Cond.fieldLink RX2 14 "ProofSheets$MarkList" "codes" "LProofSheets$Row;", Cond.fieldLink RX2 20 "ProofSheets$MarkList" "answers" "LProofSheets$Row;", Cond.fieldLink RX2 23 "ProofSheets$MarkList" "sheetCounts" "LProofSheets$Row;", Cond.fieldLink RX2 26 "ProofSheets$MarkList" "lowestReaders" "LProofSheets$Row;", Cond.methodLink RX2 11 yX5_init, Cond.instanceMethod yX6_init, Cond.code yX6_init cX6_init 1 none, Cond.methodLink RX6 3 objectInit, Cond.classLink RX6 9 RX5, Cond.fieldLink RX6 14 "ProofSheets$Sheet" "marks" "LProofSheets$Row;", Cond.methodLink RX6 11 yX5_init]
def wsX0_init_r3 : List Cond := [Cond.methodLink RX7 46 yX5_fill, Cond.instanceMethod yX5_fill, Cond.selects RX5 yX5_fill yX5_fill, Cond.code yX5_fill cX5_fill 4 none, Cond.fieldLink RX5 13 "ProofSheets$Row" "used" "I", Cond.methodLink RX5 29 yX5_append, Cond.instanceMethod yX5_append, Cond.selects RX5 yX5_append yX5_append, Cond.code yX5_append cX5_append 2 none]
def wsX0_init : List Cond := .code yX0_init cX0_init 2 none :: ((wsX0_init_r1 ++ (wsX0_init_r2 ++ wsX0_init_r3)) ++ wsX00 ++ wsX70 ++ wsX50 ++ wsX20 ++ wsX60)
def wsX0_dropOldest : List Cond := .code yX0_dropOldest cX0_dropOldest 3 none :: ([.fieldLink RX0 11 "ProofSheets$History" "states" "[LProofSheets$State;", .fieldLink RX0 18 "ProofSheets$History" "used" "I"] ++ wsX00)
def wsX5_copyFrom : List Cond := .code yX5_copyFrom cX5_copyFrom 3 none :: ([.fieldLink RX5 13 "ProofSheets$Row" "used" "I", .fieldLink RX5 7 "ProofSheets$Row" "cells" "[I"] ++ wsX50)
def wsX2_copyFrom : List Cond := .code yX2_copyFrom cX2_copyFrom 2 none :: ([.fieldLink RX2 14 "ProofSheets$MarkList" "codes" "LProofSheets$Row;", .fieldLink RX2 20 "ProofSheets$MarkList" "answers" "LProofSheets$Row;", .fieldLink RX2 23 "ProofSheets$MarkList" "sheetCounts" "LProofSheets$Row;", .fieldLink RX2 26 "ProofSheets$MarkList" "lowestReaders" "LProofSheets$Row;", .methodLink RX2 32 yX5_copyFrom, .instanceMethod yX5_copyFrom, .selects RX5 yX5_copyFrom yX5_copyFrom, .initialized RX5, .code yX5_copyFrom cX5_copyFrom 3 none, .fieldLink RX5 13 "ProofSheets$Row" "used" "I", .fieldLink RX5 7 "ProofSheets$Row" "cells" "[I"] ++ wsX20 ++ wsX50)
def wsX7_sheetNumbered : List Cond := .code yX7_sheetNumbered cX7_sheetNumbered 2 (some (.object "ProofSheets$Sheet")) :: ([.fieldLink RX7 61 "ProofSheets$State" "sheetCount" "I", .fieldLink RX7 22 "ProofSheets$State" "sheets" "[LProofSheets$Sheet;"] ++ wsX70)
def wsX6_copyFrom : List Cond := .code yX6_copyFrom cX6_copyFrom 2 none :: ([.fieldLink RX6 20 "ProofSheets$Sheet" "reader" "I", .fieldLink RX6 24 "ProofSheets$Sheet" "status" "I", .fieldLink RX6 14 "ProofSheets$Sheet" "marks" "LProofSheets$Row;", .methodLink RX6 30 yX5_copyFrom, .instanceMethod yX5_copyFrom, .selects RX5 yX5_copyFrom yX5_copyFrom, .initialized RX5, .code yX5_copyFrom cX5_copyFrom 3 none, .fieldLink RX5 13 "ProofSheets$Row" "used" "I", .fieldLink RX5 7 "ProofSheets$Row" "cells" "[I"] ++ wsX60 ++ wsX50)
def wsX7_copySheet : List Cond := .code yX7_copySheet cX7_copySheet 2 none :: ([.methodLink RX7 72 yX6_copyFrom, .instanceMethod yX6_copyFrom, .selects RX6 yX6_copyFrom yX6_copyFrom, .initialized RX6, .code yX6_copyFrom cX6_copyFrom 2 none, .fieldLink RX6 20 "ProofSheets$Sheet" "reader" "I", .fieldLink RX6 24 "ProofSheets$Sheet" "status" "I", .fieldLink RX6 14 "ProofSheets$Sheet" "marks" "LProofSheets$Row;", .methodLink RX6 30 yX5_copyFrom, .instanceMethod yX5_copyFrom, .selects RX5 yX5_copyFrom yX5_copyFrom, .initialized RX5, .code yX5_copyFrom cX5_copyFrom 3 none, .fieldLink RX5 13 "ProofSheets$Row" "used" "I", .fieldLink RX5 7 "ProofSheets$Row" "cells" "[I"] ++ wsX60 ++ wsX50)
def wsX7_copyFrom_r1 : List Cond := [Cond.fieldLink RX7 14 "ProofSheets$State" "text" "LProofSheets$Row;", Cond.fieldLink RX7 29 "ProofSheets$State" "list" "LProofSheets$MarkList;", Cond.fieldLink RX7 33 "ProofSheets$State" "accounts" "LProofSheets$Row;", Cond.fieldLink RX7 36 "ProofSheets$State" "sentTo" "LProofSheets$Row;", Cond.fieldLink RX7 39 "ProofSheets$State" "madeBy" "LProofSheets$Row;", Cond.fieldLink RX7 42 "ProofSheets$State" "mergedOf" "LProofSheets$Row;", Cond.fieldLink RX7 57 "ProofSheets$State" "round" "I", Cond.fieldLink RX7 61 "ProofSheets$State" "sheetCount" "I", Cond.methodLink RX7 50 yX5_copyFrom, Cond.instanceMethod yX5_copyFrom, Cond.selects RX5 yX5_copyFrom yX5_copyFrom, Cond.initialized RX5, Cond.code yX5_copyFrom cX5_copyFrom 3 none, Cond.fieldLink RX5 13 "ProofSheets$Row" "used" "I", Cond.fieldLink RX5 7 "ProofSheets$Row" "cells" "[I", Cond.methodLink RX7 54 yX2_copyFrom, Cond.instanceMethod yX2_copyFrom, Cond.selects RX2 yX2_copyFrom yX2_copyFrom, Cond.initialized RX2, Cond.code yX2_copyFrom cX2_copyFrom 2 none, Cond.fieldLink RX2 14 "ProofSheets$MarkList" "codes" "LProofSheets$Row;", Cond.fieldLink RX2 20 "ProofSheets$MarkList" "answers" "LProofSheets$Row;", Cond.fieldLink RX2 23 "ProofSheets$MarkList" "sheetCounts" "LProofSheets$Row;", Cond.fieldLink RX2 26 "ProofSheets$MarkList" "lowestReaders" "LProofSheets$Row;"]
def wsX7_copyFrom_r2 : List Cond := [Cond.methodLink RX2 32 yX5_copyFrom, Cond.methodLink RX7 64 yX7_sheetNumbered, Cond.instanceMethod yX7_sheetNumbered, Cond.selects RX7 yX7_sheetNumbered yX7_sheetNumbered, Cond.initialized RX7, Cond.code yX7_sheetNumbered cX7_sheetNumbered 2 (some (.object "ProofSheets$Sheet")), Cond.fieldLink RX7 22 "ProofSheets$State" "sheets" "[LProofSheets$Sheet;", Cond.methodLink RX7 68 yX7_copySheet, Cond.static yX7_copySheet, Cond.code yX7_copySheet cX7_copySheet 2 none, Cond.methodLink RX7 72 yX6_copyFrom, Cond.instanceMethod yX6_copyFrom, Cond.selects RX6 yX6_copyFrom yX6_copyFrom, Cond.initialized RX6, Cond.code yX6_copyFrom cX6_copyFrom 2 none, Cond.fieldLink RX6 20 "ProofSheets$Sheet" "reader" "I", Cond.fieldLink RX6 24 "ProofSheets$Sheet" "status" "I", Cond.fieldLink RX6 14 "ProofSheets$Sheet" "marks" "LProofSheets$Row;", Cond.methodLink RX6 30 yX5_copyFrom]
def wsX7_copyFrom : List Cond := .code yX7_copyFrom cX7_copyFrom 3 none :: ((wsX7_copyFrom_r1 ++ wsX7_copyFrom_r2) ++ wsX70 ++ wsX50 ++ wsX20 ++ wsX60)
def wsX0_record_r1 : List Cond := [Cond.fieldLink RX0 18 "ProofSheets$History" "used" "I", Cond.fieldLink RX0 11 "ProofSheets$History" "states" "[LProofSheets$State;", Cond.methodLink RX0 22 yX0_dropOldest, Cond.instanceMethod yX0_dropOldest, Cond.selects RX0 yX0_dropOldest yX0_dropOldest, Cond.initialized RX0, Cond.code yX0_dropOldest cX0_dropOldest 3 none, Cond.methodLink RX0 25 yX7_copyFrom, Cond.instanceMethod yX7_copyFrom, Cond.selects RX7 yX7_copyFrom yX7_copyFrom, Cond.initialized RX7, Cond.code yX7_copyFrom cX7_copyFrom 3 none, Cond.fieldLink RX7 14 "ProofSheets$State" "text" "LProofSheets$Row;", Cond.fieldLink RX7 29 "ProofSheets$State" "list" "LProofSheets$MarkList;", Cond.fieldLink RX7 33 "ProofSheets$State" "accounts" "LProofSheets$Row;", Cond.fieldLink RX7 36 "ProofSheets$State" "sentTo" "LProofSheets$Row;", Cond.fieldLink RX7 39 "ProofSheets$State" "madeBy" "LProofSheets$Row;", Cond.fieldLink RX7 42 "ProofSheets$State" "mergedOf" "LProofSheets$Row;", Cond.fieldLink RX7 57 "ProofSheets$State" "round" "I", Cond.fieldLink RX7 61 "ProofSheets$State" "sheetCount" "I", Cond.methodLink RX7 50 yX5_copyFrom, Cond.instanceMethod yX5_copyFrom, Cond.selects RX5 yX5_copyFrom yX5_copyFrom, Cond.initialized RX5]
def wsX0_record_r2 : List Cond := [Cond.code yX5_copyFrom cX5_copyFrom 3 none, Cond.fieldLink RX5 13 "ProofSheets$Row" "used" "I", Cond.fieldLink RX5 7 "ProofSheets$Row" "cells" "[I", Cond.methodLink RX7 54 yX2_copyFrom, Cond.instanceMethod yX2_copyFrom, Cond.selects RX2 yX2_copyFrom yX2_copyFrom, Cond.initialized RX2, Cond.code yX2_copyFrom cX2_copyFrom 2 none, Cond.fieldLink RX2 14 "ProofSheets$MarkList" "codes" "LProofSheets$Row;", Cond.fieldLink RX2 20 "ProofSheets$MarkList" "answers" "LProofSheets$Row;", Cond.fieldLink RX2 23 "ProofSheets$MarkList" "sheetCounts" "LProofSheets$Row;", Cond.fieldLink RX2 26 "ProofSheets$MarkList" "lowestReaders" "LProofSheets$Row;", Cond.methodLink RX2 32 yX5_copyFrom, Cond.methodLink RX7 64 yX7_sheetNumbered, Cond.instanceMethod yX7_sheetNumbered, Cond.selects RX7 yX7_sheetNumbered yX7_sheetNumbered, Cond.code yX7_sheetNumbered cX7_sheetNumbered 2 (some (.object "ProofSheets$Sheet")), Cond.fieldLink RX7 22 "ProofSheets$State" "sheets" "[LProofSheets$Sheet;", Cond.methodLink RX7 68 yX7_copySheet, Cond.static yX7_copySheet, Cond.code yX7_copySheet cX7_copySheet 2 none, Cond.methodLink RX7 72 yX6_copyFrom, Cond.instanceMethod yX6_copyFrom, Cond.selects RX6 yX6_copyFrom yX6_copyFrom]
def wsX0_record_r3 : List Cond := [Cond.initialized RX6, Cond.code yX6_copyFrom cX6_copyFrom 2 none, Cond.fieldLink RX6 20 "ProofSheets$Sheet" "reader" "I", Cond.fieldLink RX6 24 "ProofSheets$Sheet" "status" "I", Cond.fieldLink RX6 14 "ProofSheets$Sheet" "marks" "LProofSheets$Row;", Cond.methodLink RX6 30 yX5_copyFrom]
def wsX0_record : List Cond := .code yX0_record cX0_record 2 none :: ((wsX0_record_r1 ++ (wsX0_record_r2 ++ wsX0_record_r3)) ++ wsX00 ++ wsX70 ++ wsX50 ++ wsX20 ++ wsX60)
def wsX0_restore_r1 : List Cond := [Cond.fieldLink RX0 18 "ProofSheets$History" "used" "I", Cond.fieldLink RX0 11 "ProofSheets$History" "states" "[LProofSheets$State;", Cond.methodLink RX0 25 yX7_copyFrom, Cond.instanceMethod yX7_copyFrom, Cond.selects RX7 yX7_copyFrom yX7_copyFrom, Cond.initialized RX7, Cond.code yX7_copyFrom cX7_copyFrom 3 none, Cond.fieldLink RX7 14 "ProofSheets$State" "text" "LProofSheets$Row;", Cond.fieldLink RX7 29 "ProofSheets$State" "list" "LProofSheets$MarkList;", Cond.fieldLink RX7 33 "ProofSheets$State" "accounts" "LProofSheets$Row;", Cond.fieldLink RX7 36 "ProofSheets$State" "sentTo" "LProofSheets$Row;", Cond.fieldLink RX7 39 "ProofSheets$State" "madeBy" "LProofSheets$Row;", Cond.fieldLink RX7 42 "ProofSheets$State" "mergedOf" "LProofSheets$Row;", Cond.fieldLink RX7 57 "ProofSheets$State" "round" "I", Cond.fieldLink RX7 61 "ProofSheets$State" "sheetCount" "I", Cond.methodLink RX7 50 yX5_copyFrom, Cond.instanceMethod yX5_copyFrom, Cond.selects RX5 yX5_copyFrom yX5_copyFrom, Cond.initialized RX5, Cond.code yX5_copyFrom cX5_copyFrom 3 none, Cond.fieldLink RX5 13 "ProofSheets$Row" "used" "I", Cond.fieldLink RX5 7 "ProofSheets$Row" "cells" "[I", Cond.methodLink RX7 54 yX2_copyFrom, Cond.instanceMethod yX2_copyFrom]
def wsX0_restore_r2 : List Cond := [Cond.selects RX2 yX2_copyFrom yX2_copyFrom, Cond.initialized RX2, Cond.code yX2_copyFrom cX2_copyFrom 2 none, Cond.fieldLink RX2 14 "ProofSheets$MarkList" "codes" "LProofSheets$Row;", Cond.fieldLink RX2 20 "ProofSheets$MarkList" "answers" "LProofSheets$Row;", Cond.fieldLink RX2 23 "ProofSheets$MarkList" "sheetCounts" "LProofSheets$Row;", Cond.fieldLink RX2 26 "ProofSheets$MarkList" "lowestReaders" "LProofSheets$Row;", Cond.methodLink RX2 32 yX5_copyFrom, Cond.methodLink RX7 64 yX7_sheetNumbered, Cond.instanceMethod yX7_sheetNumbered, Cond.selects RX7 yX7_sheetNumbered yX7_sheetNumbered, Cond.code yX7_sheetNumbered cX7_sheetNumbered 2 (some (.object "ProofSheets$Sheet")), Cond.fieldLink RX7 22 "ProofSheets$State" "sheets" "[LProofSheets$Sheet;", Cond.methodLink RX7 68 yX7_copySheet, Cond.static yX7_copySheet, Cond.code yX7_copySheet cX7_copySheet 2 none, Cond.methodLink RX7 72 yX6_copyFrom, Cond.instanceMethod yX6_copyFrom, Cond.selects RX6 yX6_copyFrom yX6_copyFrom, Cond.initialized RX6, Cond.code yX6_copyFrom cX6_copyFrom 2 none, Cond.fieldLink RX6 20 "ProofSheets$Sheet" "reader" "I", Cond.fieldLink RX6 24 "ProofSheets$Sheet" "status" "I", Cond.fieldLink RX6 14 "ProofSheets$Sheet" "marks" "LProofSheets$Row;"]
def wsX0_restore_r3 : List Cond := [Cond.methodLink RX6 30 yX5_copyFrom]
def wsX0_restore : List Cond := .code yX0_restore cX0_restore 3 none :: ((wsX0_restore_r1 ++ (wsX0_restore_r2 ++ wsX0_restore_r3)) ++ wsX00 ++ wsX70 ++ wsX50 ++ wsX20 ++ wsX60)
def wsX1_codeOf : List Cond := .code yX1_codeOf cX1_codeOf 4 (some .int) :: ([])
def wsX1_kindOf : List Cond := .code yX1_kindOf cX1_kindOf 1 (some .int) :: ([])
def wsX1_firstOf : List Cond := .code yX1_firstOf cX1_firstOf 1 (some .int) :: ([])
def wsX1_secondOf : List Cond := .code yX1_secondOf cX1_secondOf 1 (some .int) :: ([])
def wsX1_characterOf : List Cond := .code yX1_characterOf cX1_characterOf 1 (some .int) :: ([])
def wsX1_takesCharacter : List Cond := .code yX1_takesCharacter cX1_takesCharacter 1 (some .boolean) :: ([])
def wsX1_partOf : List Cond := .code yX1_partOf cX1_partOf 2 (some .int) :: ([.methodLink RX1 9 yX1_kindOf, .static yX1_kindOf, .initialized RX1, .code yX1_kindOf cX1_kindOf 1 (some .int), .methodLink RX1 15 yX1_firstOf, .static yX1_firstOf, .code yX1_firstOf cX1_firstOf 1 (some .int), .methodLink RX1 18 yX1_secondOf, .static yX1_secondOf, .code yX1_secondOf cX1_secondOf 1 (some .int), .methodLink RX1 21 yX1_takesCharacter, .static yX1_takesCharacter, .code yX1_takesCharacter cX1_takesCharacter 1 (some .boolean), .methodLink RX1 25 yX1_characterOf, .static yX1_characterOf, .code yX1_characterOf cX1_characterOf 1 (some .int)])
def wsX1_isPossible : List Cond := .code yX1_isPossible cX1_isPossible 4 (some .boolean) :: ([])
def wsX1_endOf : List Cond := .code yX1_endOf cX1_endOf 1 (some .int) :: ([.methodLink RX1 9 yX1_kindOf, .static yX1_kindOf, .initialized RX1, .code yX1_kindOf cX1_kindOf 1 (some .int), .methodLink RX1 18 yX1_secondOf, .static yX1_secondOf, .code yX1_secondOf cX1_secondOf 1 (some .int), .methodLink RX1 15 yX1_firstOf, .static yX1_firstOf, .code yX1_firstOf cX1_firstOf 1 (some .int)])
def wsX1_areOpposed : List Cond := .code yX1_areOpposed cX1_areOpposed 4 (some .boolean) :: ([.methodLink RX1 9 yX1_kindOf, .static yX1_kindOf, .initialized RX1, .code yX1_kindOf cX1_kindOf 1 (some .int), .methodLink RX1 15 yX1_firstOf, .static yX1_firstOf, .code yX1_firstOf cX1_firstOf 1 (some .int), .methodLink RX1 28 yX1_endOf, .static yX1_endOf, .code yX1_endOf cX1_endOf 1 (some .int), .methodLink RX1 18 yX1_secondOf, .static yX1_secondOf, .code yX1_secondOf cX1_secondOf 1 (some .int)])
def wsX5_cutTo : List Cond := .code yX5_cutTo cX5_cutTo 2 none :: ([.fieldLink RX5 13 "ProofSheets$Row" "used" "I"] ++ wsX50)
def wsX2_empty : List Cond := .code yX2_empty cX2_empty 1 none :: ([.fieldLink RX2 14 "ProofSheets$MarkList" "codes" "LProofSheets$Row;", .fieldLink RX2 20 "ProofSheets$MarkList" "answers" "LProofSheets$Row;", .fieldLink RX2 23 "ProofSheets$MarkList" "sheetCounts" "LProofSheets$Row;", .fieldLink RX2 26 "ProofSheets$MarkList" "lowestReaders" "LProofSheets$Row;", .methodLink RX2 29 yX5_cutTo, .instanceMethod yX5_cutTo, .selects RX5 yX5_cutTo yX5_cutTo, .initialized RX5, .code yX5_cutTo cX5_cutTo 2 none, .fieldLink RX5 13 "ProofSheets$Row" "used" "I"] ++ wsX20 ++ wsX50)
def wsX5_used : List Cond := .code yX5_used cX5_used 1 (some .int) :: ([.fieldLink RX5 13 "ProofSheets$Row" "used" "I"] ++ wsX50)
def wsX8_isOutside : List Cond := .code yX8_isOutside cX8_isOutside 3 (some .boolean) :: ([])
def wsX2_hasNot : List Cond := .code yX2_hasNot cX2_hasNot 2 (some .boolean) :: ([.fieldLink RX2 14 "ProofSheets$MarkList" "codes" "LProofSheets$Row;", .methodLink RX2 36 yX5_used, .instanceMethod yX5_used, .selects RX5 yX5_used yX5_used, .initialized RX5, .code yX5_used cX5_used 1 (some .int), .fieldLink RX5 13 "ProofSheets$Row" "used" "I", .static yX8_isOutside, .initialized RX8, .code yX8_isOutside cX8_isOutside 3 (some .boolean)] ++ wsX20 ++ wsX50)
def wsX5_hasNot : List Cond := .code yX5_hasNot cX5_hasNot 2 (some .boolean) :: ([.fieldLink RX5 13 "ProofSheets$Row" "used" "I", .fieldLink RX5 7 "ProofSheets$Row" "cells" "[I"] ++ wsX50)
def wsX5_get : List Cond := .code yX5_get cX5_get 2 (some .int) :: ([.fieldLink RX5 7 "ProofSheets$Row" "cells" "[I", .methodLink RX5 17 yX5_hasNot, .instanceMethod yX5_hasNot, .selects RX5 yX5_hasNot yX5_hasNot, .initialized RX5, .code yX5_hasNot cX5_hasNot 2 (some .boolean), .fieldLink RX5 13 "ProofSheets$Row" "used" "I"] ++ wsX50)
def wsX5_placeOf : List Cond := .code yX5_placeOf cX5_placeOf 3 (some .int) :: ([.fieldLink RX5 13 "ProofSheets$Row" "used" "I", .methodLink RX5 21 yX5_get, .instanceMethod yX5_get, .selects RX5 yX5_get yX5_get, .initialized RX5, .code yX5_get cX5_get 2 (some .int), .fieldLink RX5 7 "ProofSheets$Row" "cells" "[I", .methodLink RX5 17 yX5_hasNot, .instanceMethod yX5_hasNot, .selects RX5 yX5_hasNot yX5_hasNot, .code yX5_hasNot cX5_hasNot 2 (some .boolean)] ++ wsX50)
def wsX5_set : List Cond := .code yX5_set cX5_set 3 none :: ([.fieldLink RX5 7 "ProofSheets$Row" "cells" "[I", .methodLink RX5 17 yX5_hasNot, .instanceMethod yX5_hasNot, .selects RX5 yX5_hasNot yX5_hasNot, .initialized RX5, .code yX5_hasNot cX5_hasNot 2 (some .boolean), .fieldLink RX5 13 "ProofSheets$Row" "used" "I"] ++ wsX50)
def wsX5_add : List Cond := .code yX5_add cX5_add 3 none :: ([.methodLink RX5 21 yX5_get, .instanceMethod yX5_get, .selects RX5 yX5_get yX5_get, .initialized RX5, .code yX5_get cX5_get 2 (some .int), .fieldLink RX5 7 "ProofSheets$Row" "cells" "[I", .methodLink RX5 17 yX5_hasNot, .instanceMethod yX5_hasNot, .selects RX5 yX5_hasNot yX5_hasNot, .code yX5_hasNot cX5_hasNot 2 (some .boolean), .fieldLink RX5 13 "ProofSheets$Row" "used" "I", .methodLink RX5 25 yX5_set, .instanceMethod yX5_set, .selects RX5 yX5_set yX5_set, .code yX5_set cX5_set 3 none] ++ wsX50)
def wsX2_take_r1 : List Cond := [Cond.fieldLink RX2 14 "ProofSheets$MarkList" "codes" "LProofSheets$Row;", Cond.fieldLink RX2 23 "ProofSheets$MarkList" "sheetCounts" "LProofSheets$Row;", Cond.fieldLink RX2 26 "ProofSheets$MarkList" "lowestReaders" "LProofSheets$Row;", Cond.methodLink RX2 55 Lib.Math.min.name, Cond.static Lib.Math.min.name, Cond.initialized "java/lang/Math", Cond.code Lib.Math.min.name Lib.Math.min.code 2 (some .int), Cond.fieldLink RX2 20 "ProofSheets$MarkList" "answers" "LProofSheets$Row;", Cond.methodLink RX2 44 yX5_placeOf, Cond.instanceMethod yX5_placeOf, Cond.selects RX5 yX5_placeOf yX5_placeOf, Cond.initialized RX5, Cond.code yX5_placeOf cX5_placeOf 3 (some .int), Cond.fieldLink RX5 13 "ProofSheets$Row" "used" "I", Cond.methodLink RX5 21 yX5_get, Cond.instanceMethod yX5_get, Cond.selects RX5 yX5_get yX5_get, Cond.code yX5_get cX5_get 2 (some .int), Cond.fieldLink RX5 7 "ProofSheets$Row" "cells" "[I", Cond.methodLink RX5 17 yX5_hasNot, Cond.instanceMethod yX5_hasNot, Cond.selects RX5 yX5_hasNot yX5_hasNot, Cond.code yX5_hasNot cX5_hasNot 2 (some .boolean), Cond.methodLink RX2 48 yX5_add]
def wsX2_take_r2 : List Cond := [Cond.instanceMethod yX5_add, Cond.selects RX5 yX5_add yX5_add, Cond.code yX5_add cX5_add 3 none, Cond.methodLink RX5 25 yX5_set, Cond.instanceMethod yX5_set, Cond.selects RX5 yX5_set yX5_set, Cond.code yX5_set cX5_set 3 none, Cond.methodLink RX2 52 yX5_get, Cond.methodLink RX2 61 yX5_set, Cond.methodLink RX2 64 yX5_append, Cond.instanceMethod yX5_append, Cond.selects RX5 yX5_append yX5_append, Cond.code yX5_append cX5_append 2 none]
def wsX2_take : List Cond := .code yX2_take cX2_take 4 (some .boolean) :: ((wsX2_take_r1 ++ wsX2_take_r2) ++ wsX20 ++ wsX50)
def wsX2_howManyAreOpen : List Cond := .code yX2_howManyAreOpen cX2_howManyAreOpen 3 (some .int) :: ([.fieldLink RX2 20 "ProofSheets$MarkList" "answers" "LProofSheets$Row;", .methodLink RX2 36 yX5_used, .instanceMethod yX5_used, .selects RX5 yX5_used yX5_used, .initialized RX5, .code yX5_used cX5_used 1 (some .int), .fieldLink RX5 13 "ProofSheets$Row" "used" "I", .methodLink RX2 52 yX5_get, .instanceMethod yX5_get, .selects RX5 yX5_get yX5_get, .code yX5_get cX5_get 2 (some .int), .fieldLink RX5 7 "ProofSheets$Row" "cells" "[I", .methodLink RX5 17 yX5_hasNot, .instanceMethod yX5_hasNot, .selects RX5 yX5_hasNot yX5_hasNot, .code yX5_hasNot cX5_hasNot 2 (some .boolean)] ++ wsX20 ++ wsX50)
def wsX2_howManyOppose_r1 : List Cond := [Cond.fieldLink RX2 14 "ProofSheets$MarkList" "codes" "LProofSheets$Row;", Cond.methodLink RX2 36 yX5_used, Cond.instanceMethod yX5_used, Cond.selects RX5 yX5_used yX5_used, Cond.initialized RX5, Cond.code yX5_used cX5_used 1 (some .int), Cond.fieldLink RX5 13 "ProofSheets$Row" "used" "I", Cond.methodLink RX2 52 yX5_get, Cond.instanceMethod yX5_get, Cond.selects RX5 yX5_get yX5_get, Cond.code yX5_get cX5_get 2 (some .int), Cond.fieldLink RX5 7 "ProofSheets$Row" "cells" "[I", Cond.methodLink RX5 17 yX5_hasNot, Cond.instanceMethod yX5_hasNot, Cond.selects RX5 yX5_hasNot yX5_hasNot, Cond.code yX5_hasNot cX5_hasNot 2 (some .boolean), Cond.methodLink RX2 67 yX1_areOpposed, Cond.static yX1_areOpposed, Cond.initialized RX1, Cond.code yX1_areOpposed cX1_areOpposed 4 (some .boolean), Cond.methodLink RX1 9 yX1_kindOf, Cond.static yX1_kindOf, Cond.code yX1_kindOf cX1_kindOf 1 (some .int), Cond.methodLink RX1 15 yX1_firstOf]
def wsX2_howManyOppose_r2 : List Cond := [Cond.static yX1_firstOf, Cond.code yX1_firstOf cX1_firstOf 1 (some .int), Cond.methodLink RX1 28 yX1_endOf, Cond.static yX1_endOf, Cond.code yX1_endOf cX1_endOf 1 (some .int), Cond.methodLink RX1 18 yX1_secondOf, Cond.static yX1_secondOf, Cond.code yX1_secondOf cX1_secondOf 1 (some .int)]
def wsX2_howManyOppose : List Cond := .code yX2_howManyOppose cX2_howManyOppose 4 (some .int) :: ((wsX2_howManyOppose_r1 ++ wsX2_howManyOppose_r2) ++ wsX20 ++ wsX50)
def wsX2_opposedPairs_r1 : List Cond := [Cond.fieldLink RX2 14 "ProofSheets$MarkList" "codes" "LProofSheets$Row;", Cond.methodLink RX2 36 yX5_used, Cond.instanceMethod yX5_used, Cond.selects RX5 yX5_used yX5_used, Cond.initialized RX5, Cond.code yX5_used cX5_used 1 (some .int), Cond.fieldLink RX5 13 "ProofSheets$Row" "used" "I", Cond.methodLink RX2 52 yX5_get, Cond.instanceMethod yX5_get, Cond.selects RX5 yX5_get yX5_get, Cond.code yX5_get cX5_get 2 (some .int), Cond.fieldLink RX5 7 "ProofSheets$Row" "cells" "[I", Cond.methodLink RX5 17 yX5_hasNot, Cond.instanceMethod yX5_hasNot, Cond.selects RX5 yX5_hasNot yX5_hasNot, Cond.code yX5_hasNot cX5_hasNot 2 (some .boolean), Cond.methodLink RX2 73 yX2_howManyOppose, Cond.instanceMethod yX2_howManyOppose, Cond.selects RX2 yX2_howManyOppose yX2_howManyOppose, Cond.initialized RX2, Cond.code yX2_howManyOppose cX2_howManyOppose 4 (some .int), Cond.methodLink RX2 67 yX1_areOpposed, Cond.static yX1_areOpposed, Cond.initialized RX1]
def wsX2_opposedPairs_r2 : List Cond := [Cond.code yX1_areOpposed cX1_areOpposed 4 (some .boolean), Cond.methodLink RX1 9 yX1_kindOf, Cond.static yX1_kindOf, Cond.code yX1_kindOf cX1_kindOf 1 (some .int), Cond.methodLink RX1 15 yX1_firstOf, Cond.static yX1_firstOf, Cond.code yX1_firstOf cX1_firstOf 1 (some .int), Cond.methodLink RX1 28 yX1_endOf, Cond.static yX1_endOf, Cond.code yX1_endOf cX1_endOf 1 (some .int), Cond.methodLink RX1 18 yX1_secondOf, Cond.static yX1_secondOf, Cond.code yX1_secondOf cX1_secondOf 1 (some .int)]
def wsX2_opposedPairs : List Cond := .code yX2_opposedPairs cX2_opposedPairs 3 (some .int) :: ((wsX2_opposedPairs_r1 ++ wsX2_opposedPairs_r2) ++ wsX20 ++ wsX50)
def wsX2_meetsAnAccepted_r1 : List Cond := [Cond.fieldLink RX2 14 "ProofSheets$MarkList" "codes" "LProofSheets$Row;", Cond.fieldLink RX2 20 "ProofSheets$MarkList" "answers" "LProofSheets$Row;", Cond.methodLink RX2 36 yX5_used, Cond.instanceMethod yX5_used, Cond.selects RX5 yX5_used yX5_used, Cond.initialized RX5, Cond.code yX5_used cX5_used 1 (some .int), Cond.fieldLink RX5 13 "ProofSheets$Row" "used" "I", Cond.methodLink RX2 52 yX5_get, Cond.instanceMethod yX5_get, Cond.selects RX5 yX5_get yX5_get, Cond.code yX5_get cX5_get 2 (some .int), Cond.fieldLink RX5 7 "ProofSheets$Row" "cells" "[I", Cond.methodLink RX5 17 yX5_hasNot, Cond.instanceMethod yX5_hasNot, Cond.selects RX5 yX5_hasNot yX5_hasNot, Cond.code yX5_hasNot cX5_hasNot 2 (some .boolean), Cond.methodLink RX2 67 yX1_areOpposed, Cond.static yX1_areOpposed, Cond.initialized RX1, Cond.code yX1_areOpposed cX1_areOpposed 4 (some .boolean), Cond.methodLink RX1 9 yX1_kindOf, Cond.static yX1_kindOf, Cond.code yX1_kindOf cX1_kindOf 1 (some .int)]
def wsX2_meetsAnAccepted_r2 : List Cond := [Cond.methodLink RX1 15 yX1_firstOf, Cond.static yX1_firstOf, Cond.code yX1_firstOf cX1_firstOf 1 (some .int), Cond.methodLink RX1 28 yX1_endOf, Cond.static yX1_endOf, Cond.code yX1_endOf cX1_endOf 1 (some .int), Cond.methodLink RX1 18 yX1_secondOf, Cond.static yX1_secondOf, Cond.code yX1_secondOf cX1_secondOf 1 (some .int)]
def wsX2_meetsAnAccepted : List Cond := .code yX2_meetsAnAccepted cX2_meetsAnAccepted 3 (some .boolean) :: ((wsX2_meetsAnAccepted_r1 ++ wsX2_meetsAnAccepted_r2) ++ wsX20 ++ wsX50)
def wsX2_canBeAccepted_r1 : List Cond := [Cond.fieldLink RX2 20 "ProofSheets$MarkList" "answers" "LProofSheets$Row;", Cond.fieldLink RX2 14 "ProofSheets$MarkList" "codes" "LProofSheets$Row;", Cond.methodLink RX2 52 yX5_get, Cond.instanceMethod yX5_get, Cond.selects RX5 yX5_get yX5_get, Cond.initialized RX5, Cond.code yX5_get cX5_get 2 (some .int), Cond.fieldLink RX5 7 "ProofSheets$Row" "cells" "[I", Cond.methodLink RX5 17 yX5_hasNot, Cond.instanceMethod yX5_hasNot, Cond.selects RX5 yX5_hasNot yX5_hasNot, Cond.code yX5_hasNot cX5_hasNot 2 (some .boolean), Cond.fieldLink RX5 13 "ProofSheets$Row" "used" "I", Cond.methodLink RX2 76 yX2_meetsAnAccepted, Cond.instanceMethod yX2_meetsAnAccepted, Cond.selects RX2 yX2_meetsAnAccepted yX2_meetsAnAccepted, Cond.initialized RX2, Cond.code yX2_meetsAnAccepted cX2_meetsAnAccepted 3 (some .boolean), Cond.methodLink RX2 36 yX5_used, Cond.instanceMethod yX5_used, Cond.selects RX5 yX5_used yX5_used, Cond.code yX5_used cX5_used 1 (some .int), Cond.methodLink RX2 67 yX1_areOpposed, Cond.static yX1_areOpposed]
def wsX2_canBeAccepted_r2 : List Cond := [Cond.initialized RX1, Cond.code yX1_areOpposed cX1_areOpposed 4 (some .boolean), Cond.methodLink RX1 9 yX1_kindOf, Cond.static yX1_kindOf, Cond.code yX1_kindOf cX1_kindOf 1 (some .int), Cond.methodLink RX1 15 yX1_firstOf, Cond.static yX1_firstOf, Cond.code yX1_firstOf cX1_firstOf 1 (some .int), Cond.methodLink RX1 28 yX1_endOf, Cond.static yX1_endOf, Cond.code yX1_endOf cX1_endOf 1 (some .int), Cond.methodLink RX1 18 yX1_secondOf, Cond.static yX1_secondOf, Cond.code yX1_secondOf cX1_secondOf 1 (some .int)]
def wsX2_canBeAccepted : List Cond := .code yX2_canBeAccepted cX2_canBeAccepted 2 (some .boolean) :: ((wsX2_canBeAccepted_r1 ++ wsX2_canBeAccepted_r2) ++ wsX20 ++ wsX50)
def wsX2_howManyAreListed : List Cond := .code yX2_howManyAreListed cX2_howManyAreListed 4 (some .int) :: ([.fieldLink RX2 14 "ProofSheets$MarkList" "codes" "LProofSheets$Row;", .methodLink RX2 36 yX5_used, .instanceMethod yX5_used, .selects RX5 yX5_used yX5_used, .initialized RX5, .code yX5_used cX5_used 1 (some .int), .fieldLink RX5 13 "ProofSheets$Row" "used" "I", .methodLink RX2 52 yX5_get, .instanceMethod yX5_get, .selects RX5 yX5_get yX5_get, .code yX5_get cX5_get 2 (some .int), .fieldLink RX5 7 "ProofSheets$Row" "cells" "[I", .methodLink RX5 17 yX5_hasNot, .instanceMethod yX5_hasNot, .selects RX5 yX5_hasNot yX5_hasNot, .code yX5_hasNot cX5_hasNot 2 (some .boolean), .methodLink RX2 44 yX5_placeOf, .instanceMethod yX5_placeOf, .selects RX5 yX5_placeOf yX5_placeOf, .code yX5_placeOf cX5_placeOf 3 (some .int), .methodLink RX5 21 yX5_get] ++ wsX20 ++ wsX50)
def wsX2_howManyMeetAnAccepted_r1 : List Cond := [Cond.methodLink RX2 36 yX5_used, Cond.instanceMethod yX5_used, Cond.selects RX5 yX5_used yX5_used, Cond.initialized RX5, Cond.code yX5_used cX5_used 1 (some .int), Cond.fieldLink RX5 13 "ProofSheets$Row" "used" "I", Cond.methodLink RX2 52 yX5_get, Cond.instanceMethod yX5_get, Cond.selects RX5 yX5_get yX5_get, Cond.code yX5_get cX5_get 2 (some .int), Cond.fieldLink RX5 7 "ProofSheets$Row" "cells" "[I", Cond.methodLink RX5 17 yX5_hasNot, Cond.instanceMethod yX5_hasNot, Cond.selects RX5 yX5_hasNot yX5_hasNot, Cond.code yX5_hasNot cX5_hasNot 2 (some .boolean), Cond.methodLink RX2 76 yX2_meetsAnAccepted, Cond.instanceMethod yX2_meetsAnAccepted, Cond.selects RX2 yX2_meetsAnAccepted yX2_meetsAnAccepted, Cond.initialized RX2, Cond.code yX2_meetsAnAccepted cX2_meetsAnAccepted 3 (some .boolean), Cond.fieldLink RX2 14 "ProofSheets$MarkList" "codes" "LProofSheets$Row;", Cond.fieldLink RX2 20 "ProofSheets$MarkList" "answers" "LProofSheets$Row;", Cond.methodLink RX2 67 yX1_areOpposed, Cond.static yX1_areOpposed]
def wsX2_howManyMeetAnAccepted_r2 : List Cond := [Cond.initialized RX1, Cond.code yX1_areOpposed cX1_areOpposed 4 (some .boolean), Cond.methodLink RX1 9 yX1_kindOf, Cond.static yX1_kindOf, Cond.code yX1_kindOf cX1_kindOf 1 (some .int), Cond.methodLink RX1 15 yX1_firstOf, Cond.static yX1_firstOf, Cond.code yX1_firstOf cX1_firstOf 1 (some .int), Cond.methodLink RX1 28 yX1_endOf, Cond.static yX1_endOf, Cond.code yX1_endOf cX1_endOf 1 (some .int), Cond.methodLink RX1 18 yX1_secondOf, Cond.static yX1_secondOf, Cond.code yX1_secondOf cX1_secondOf 1 (some .int)]
def wsX2_howManyMeetAnAccepted : List Cond := .code yX2_howManyMeetAnAccepted cX2_howManyMeetAnAccepted 4 (some .int) :: ((wsX2_howManyMeetAnAccepted_r1 ++ wsX2_howManyMeetAnAccepted_r2) ++ wsX50 ++ wsX20)
def wsX2_isMoreWanted : List Cond := .code yX2_isMoreWanted cX2_isMoreWanted 3 (some .boolean) :: ([.fieldLink RX2 23 "ProofSheets$MarkList" "sheetCounts" "LProofSheets$Row;", .fieldLink RX2 14 "ProofSheets$MarkList" "codes" "LProofSheets$Row;", .methodLink RX2 52 yX5_get, .instanceMethod yX5_get, .selects RX5 yX5_get yX5_get, .initialized RX5, .code yX5_get cX5_get 2 (some .int), .fieldLink RX5 7 "ProofSheets$Row" "cells" "[I", .methodLink RX5 17 yX5_hasNot, .instanceMethod yX5_hasNot, .selects RX5 yX5_hasNot yX5_hasNot, .code yX5_hasNot cX5_hasNot 2 (some .boolean), .fieldLink RX5 13 "ProofSheets$Row" "used" "I", .methodLink RX2 83 yX1_firstOf, .static yX1_firstOf, .initialized RX1, .code yX1_firstOf cX1_firstOf 1 (some .int)] ++ wsX20 ++ wsX50)
def wsX2_mostWanted_r1 : List Cond := [Cond.fieldLink RX2 14 "ProofSheets$MarkList" "codes" "LProofSheets$Row;", Cond.fieldLink RX2 20 "ProofSheets$MarkList" "answers" "LProofSheets$Row;", Cond.methodLink RX2 36 yX5_used, Cond.instanceMethod yX5_used, Cond.selects RX5 yX5_used yX5_used, Cond.initialized RX5, Cond.code yX5_used cX5_used 1 (some .int), Cond.fieldLink RX5 13 "ProofSheets$Row" "used" "I", Cond.methodLink RX2 52 yX5_get, Cond.instanceMethod yX5_get, Cond.selects RX5 yX5_get yX5_get, Cond.code yX5_get cX5_get 2 (some .int), Cond.fieldLink RX5 7 "ProofSheets$Row" "cells" "[I", Cond.methodLink RX5 17 yX5_hasNot, Cond.instanceMethod yX5_hasNot, Cond.selects RX5 yX5_hasNot yX5_hasNot, Cond.code yX5_hasNot cX5_hasNot 2 (some .boolean), Cond.methodLink RX2 80 yX2_isMoreWanted, Cond.instanceMethod yX2_isMoreWanted, Cond.selects RX2 yX2_isMoreWanted yX2_isMoreWanted, Cond.initialized RX2, Cond.code yX2_isMoreWanted cX2_isMoreWanted 3 (some .boolean), Cond.fieldLink RX2 23 "ProofSheets$MarkList" "sheetCounts" "LProofSheets$Row;", Cond.methodLink RX2 83 yX1_firstOf]
def wsX2_mostWanted_r2 : List Cond := [Cond.static yX1_firstOf, Cond.initialized RX1, Cond.code yX1_firstOf cX1_firstOf 1 (some .int)]
def wsX2_mostWanted : List Cond := .code yX2_mostWanted cX2_mostWanted 3 (some .int) :: ((wsX2_mostWanted_r1 ++ wsX2_mostWanted_r2) ++ wsX20 ++ wsX50)
def wsX3_init : List Cond := .code yX3_init cX3_init 1 none :: ([.methodLink RX3 3 objectInit, .instanceMethod objectInit, .code objectInit ⟨#[0xb1]⟩ 1 none, .classLink RX3 9 RX5, .instantiable RX5 2, .initialized RX5, .fieldLink RX3 14 "ProofSheets$MarkText" "signs" "LProofSheets$Row;", .fieldLink RX3 20 "ProofSheets$MarkText" "codes" "LProofSheets$Row;", .methodLink RX3 11 yX5_init, .instanceMethod yX5_init, .code yX5_init cX5_init 2 none, .methodLink RX5 1 objectInit, .arrayClass .int, .fieldLink RX5 7 "ProofSheets$Row" "cells" "[I"] ++ wsX50 ++ wsX30)
def wsX3_wordOf : List Cond := .code yX3_wordOf cX3_wordOf 1 (some (.object "java/lang/String")) :: ([])
def wsJ0_coder_7d493 : List Cond := .code yJ0_coder_7d493 cJ0_coder_7d493 1 (some .byte) :: ([.fieldLink RJ0 38 "java/lang/String" "COMPACT_STRINGS" "Z", .fieldLink RJ0 15 "java/lang/String" "coder" "B"])
def wsJ0_length_8abf5 : List Cond := .code yJ0_length_8abf5 cJ0_length_8abf5 1 (some .int) :: ([.fieldLink RJ0 9 "java/lang/String" "value" "[B", .methodLink RJ0 335 yJ0_coder_7d493, .instanceMethod yJ0_coder_7d493, .selects RJ0 yJ0_coder_7d493 yJ0_coder_7d493, .initialized RJ0, .code yJ0_coder_7d493 cJ0_coder_7d493 1 (some .byte), .fieldLink RJ0 38 "java/lang/String" "COMPACT_STRINGS" "Z", .fieldLink RJ0 15 "java/lang/String" "coder" "B"])
def wsJ0_isLatin1_aae02 : List Cond := .code yJ0_isLatin1_aae02 cJ0_isLatin1_aae02 1 (some .boolean) :: ([.fieldLink RJ0 38 "java/lang/String" "COMPACT_STRINGS" "Z", .fieldLink RJ0 15 "java/lang/String" "coder" "B"])
def wsJ3_checkIndex_8e157 : List Cond := .code yJ3_checkIndex_8e157 cJ3_checkIndex_8e157 3 (some .int) :: ([])
def wsJ0_checkIndex_df160 : List Cond := .code yJ0_checkIndex_df160 cJ0_checkIndex_df160 2 none :: ([.fieldLink RJ0 1053 "jdk/internal/util/Preconditions" "SIOOBE_FORMATTER" "Ljava/util/function/BiFunction;", .methodLink RJ0 1059 yJ3_checkIndex_8e157, .static yJ3_checkIndex_8e157, .initialized RJ3, .code yJ3_checkIndex_8e157 cJ3_checkIndex_8e157 3 (some .int)])
def wsJ1_charAt_3b067 : List Cond := .code yJ1_charAt_3b067 cJ1_charAt_3b067 2 (some .char) :: ([.methodLink RJ1 9 yJ0_checkIndex_df160, .static yJ0_checkIndex_df160, .initialized RJ0, .code yJ0_checkIndex_df160 cJ0_checkIndex_df160 2 none, .fieldLink RJ0 1053 "jdk/internal/util/Preconditions" "SIOOBE_FORMATTER" "Ljava/util/function/BiFunction;", .methodLink RJ0 1059 yJ3_checkIndex_8e157, .static yJ3_checkIndex_8e157, .initialized RJ3, .code yJ3_checkIndex_8e157 cJ3_checkIndex_8e157 3 (some .int)])
def wsJ2_length_9d52b : List Cond := .code yJ2_length_9d52b cJ2_length_9d52b 1 (some .int) :: ([])
def wsJ2_checkIndex_2214a : List Cond := .code yJ2_checkIndex_2214a cJ2_checkIndex_2214a 2 none :: ([.methodLink RJ2 48 yJ2_length_9d52b, .static yJ2_length_9d52b, .initialized RJ2, .code yJ2_length_9d52b cJ2_length_9d52b 1 (some .int), .methodLink RJ2 414 yJ0_checkIndex_df160, .static yJ0_checkIndex_df160, .initialized RJ0, .code yJ0_checkIndex_df160 cJ0_checkIndex_df160 2 none, .fieldLink RJ0 1053 "jdk/internal/util/Preconditions" "SIOOBE_FORMATTER" "Ljava/util/function/BiFunction;", .methodLink RJ0 1059 yJ3_checkIndex_8e157, .static yJ3_checkIndex_8e157, .initialized RJ3, .code yJ3_checkIndex_8e157 cJ3_checkIndex_8e157 3 (some .int)])
def wsJ2_getChar_3b067 : List Cond := .code yJ2_getChar_3b067 cJ2_getChar_3b067 2 (some .char) :: ([.fieldLink RJ2 44 "java/lang/StringUTF16" "$assertionsDisabled" "Z", .fieldLink RJ2 59 "java/lang/StringUTF16" "HI_BYTE_SHIFT" "I", .fieldLink RJ2 63 "java/lang/StringUTF16" "LO_BYTE_SHIFT" "I", .methodLink RJ2 48 yJ2_length_9d52b, .static yJ2_length_9d52b, .initialized RJ2, .code yJ2_length_9d52b cJ2_length_9d52b 1 (some .int)])
def wsJ2_charAt_3b067 : List Cond := .code yJ2_charAt_3b067 cJ2_charAt_3b067 2 (some .char) :: ([.methodLink RJ2 67 yJ2_checkIndex_2214a, .static yJ2_checkIndex_2214a, .initialized RJ2, .code yJ2_checkIndex_2214a cJ2_checkIndex_2214a 2 none, .methodLink RJ2 48 yJ2_length_9d52b, .static yJ2_length_9d52b, .code yJ2_length_9d52b cJ2_length_9d52b 1 (some .int), .methodLink RJ2 414 yJ0_checkIndex_df160, .static yJ0_checkIndex_df160, .initialized RJ0, .code yJ0_checkIndex_df160 cJ0_checkIndex_df160 2 none, .fieldLink RJ0 1053 "jdk/internal/util/Preconditions" "SIOOBE_FORMATTER" "Ljava/util/function/BiFunction;", .methodLink RJ0 1059 yJ3_checkIndex_8e157, .static yJ3_checkIndex_8e157, .initialized RJ3, .code yJ3_checkIndex_8e157 cJ3_checkIndex_8e157 3 (some .int), .methodLink RJ2 71 yJ2_getChar_3b067, .static yJ2_getChar_3b067, .code yJ2_getChar_3b067 cJ2_getChar_3b067 2 (some .char), .fieldLink RJ2 44 "java/lang/StringUTF16" "$assertionsDisabled" "Z", .fieldLink RJ2 59 "java/lang/StringUTF16" "HI_BYTE_SHIFT" "I", .fieldLink RJ2 63 "java/lang/StringUTF16" "LO_BYTE_SHIFT" "I"])
def wsJ0_charAt_5068e_r1 : List Cond := [Cond.fieldLink RJ0 9 "java/lang/String" "value" "[B", Cond.methodLink RJ0 492 yJ0_isLatin1_aae02, Cond.instanceMethod yJ0_isLatin1_aae02, Cond.selects RJ0 yJ0_isLatin1_aae02 yJ0_isLatin1_aae02, Cond.initialized RJ0, Cond.code yJ0_isLatin1_aae02 cJ0_isLatin1_aae02 1 (some .boolean), Cond.fieldLink RJ0 38 "java/lang/String" "COMPACT_STRINGS" "Z", Cond.fieldLink RJ0 15 "java/lang/String" "coder" "B", Cond.methodLink RJ0 495 yJ1_charAt_3b067, Cond.static yJ1_charAt_3b067, Cond.initialized RJ1, Cond.code yJ1_charAt_3b067 cJ1_charAt_3b067 2 (some .char), Cond.methodLink RJ1 9 yJ0_checkIndex_df160, Cond.static yJ0_checkIndex_df160, Cond.code yJ0_checkIndex_df160 cJ0_checkIndex_df160 2 none, Cond.fieldLink RJ0 1053 "jdk/internal/util/Preconditions" "SIOOBE_FORMATTER" "Ljava/util/function/BiFunction;", Cond.methodLink RJ0 1059 yJ3_checkIndex_8e157, Cond.static yJ3_checkIndex_8e157, Cond.initialized RJ3, Cond.code yJ3_checkIndex_8e157 cJ3_checkIndex_8e157 3 (some .int), Cond.methodLink RJ0 498 yJ2_charAt_3b067, Cond.static yJ2_charAt_3b067, Cond.initialized RJ2, Cond.code yJ2_charAt_3b067 cJ2_charAt_3b067 2 (some .char)]
def wsJ0_charAt_5068e_r2 : List Cond := [Cond.methodLink RJ2 67 yJ2_checkIndex_2214a, Cond.static yJ2_checkIndex_2214a, Cond.code yJ2_checkIndex_2214a cJ2_checkIndex_2214a 2 none, Cond.methodLink RJ2 48 yJ2_length_9d52b, Cond.static yJ2_length_9d52b, Cond.code yJ2_length_9d52b cJ2_length_9d52b 1 (some .int), Cond.methodLink RJ2 414 yJ0_checkIndex_df160, Cond.methodLink RJ2 71 yJ2_getChar_3b067, Cond.static yJ2_getChar_3b067, Cond.code yJ2_getChar_3b067 cJ2_getChar_3b067 2 (some .char), Cond.fieldLink RJ2 44 "java/lang/StringUTF16" "$assertionsDisabled" "Z", Cond.fieldLink RJ2 59 "java/lang/StringUTF16" "HI_BYTE_SHIFT" "I", Cond.fieldLink RJ2 63 "java/lang/StringUTF16" "LO_BYTE_SHIFT" "I"]
def wsJ0_charAt_5068e : List Cond := .code yJ0_charAt_5068e cJ0_charAt_5068e 2 (some .char) :: ((wsJ0_charAt_5068e_r1 ++ wsJ0_charAt_5068e_r2))
def wsX3_spells_r1 : List Cond := [Cond.fieldLink RX3 26 "ProofSheets$MarkText" "cursor" "I", Cond.fieldLink RX3 14 "ProofSheets$MarkText" "signs" "LProofSheets$Row;", Cond.methodLink RX3 104 yJ0_length_8abf5, Cond.instanceMethod yJ0_length_8abf5, Cond.selects RJ0 yJ0_length_8abf5 yJ0_length_8abf5, Cond.initialized RJ0, Cond.code yJ0_length_8abf5 cJ0_length_8abf5 1 (some .int), Cond.fieldLink RJ0 9 "java/lang/String" "value" "[B", Cond.methodLink RJ0 335 yJ0_coder_7d493, Cond.instanceMethod yJ0_coder_7d493, Cond.selects RJ0 yJ0_coder_7d493 yJ0_coder_7d493, Cond.code yJ0_coder_7d493 cJ0_coder_7d493 1 (some .byte), Cond.fieldLink RJ0 38 "java/lang/String" "COMPACT_STRINGS" "Z", Cond.fieldLink RJ0 15 "java/lang/String" "coder" "B", Cond.methodLink RX3 81 yX5_get, Cond.instanceMethod yX5_get, Cond.selects RX5 yX5_get yX5_get, Cond.initialized RX5, Cond.code yX5_get cX5_get 2 (some .int), Cond.fieldLink RX5 7 "ProofSheets$Row" "cells" "[I", Cond.methodLink RX5 17 yX5_hasNot, Cond.instanceMethod yX5_hasNot, Cond.selects RX5 yX5_hasNot yX5_hasNot, Cond.code yX5_hasNot cX5_hasNot 2 (some .boolean)]
def wsX3_spells_r2 : List Cond := [Cond.fieldLink RX5 13 "ProofSheets$Row" "used" "I", Cond.methodLink RX3 109 yJ0_charAt_5068e, Cond.instanceMethod yJ0_charAt_5068e, Cond.selects RJ0 yJ0_charAt_5068e yJ0_charAt_5068e, Cond.code yJ0_charAt_5068e cJ0_charAt_5068e 2 (some .char), Cond.methodLink RJ0 492 yJ0_isLatin1_aae02, Cond.instanceMethod yJ0_isLatin1_aae02, Cond.selects RJ0 yJ0_isLatin1_aae02 yJ0_isLatin1_aae02, Cond.code yJ0_isLatin1_aae02 cJ0_isLatin1_aae02 1 (some .boolean), Cond.methodLink RJ0 495 yJ1_charAt_3b067, Cond.static yJ1_charAt_3b067, Cond.initialized RJ1, Cond.code yJ1_charAt_3b067 cJ1_charAt_3b067 2 (some .char), Cond.methodLink RJ1 9 yJ0_checkIndex_df160, Cond.static yJ0_checkIndex_df160, Cond.code yJ0_checkIndex_df160 cJ0_checkIndex_df160 2 none, Cond.fieldLink RJ0 1053 "jdk/internal/util/Preconditions" "SIOOBE_FORMATTER" "Ljava/util/function/BiFunction;", Cond.methodLink RJ0 1059 yJ3_checkIndex_8e157, Cond.static yJ3_checkIndex_8e157, Cond.initialized RJ3, Cond.code yJ3_checkIndex_8e157 cJ3_checkIndex_8e157 3 (some .int), Cond.methodLink RJ0 498 yJ2_charAt_3b067, Cond.static yJ2_charAt_3b067, Cond.initialized RJ2]
def wsX3_spells_r3 : List Cond := [Cond.code yJ2_charAt_3b067 cJ2_charAt_3b067 2 (some .char), Cond.methodLink RJ2 67 yJ2_checkIndex_2214a, Cond.static yJ2_checkIndex_2214a, Cond.code yJ2_checkIndex_2214a cJ2_checkIndex_2214a 2 none, Cond.methodLink RJ2 48 yJ2_length_9d52b, Cond.static yJ2_length_9d52b, Cond.code yJ2_length_9d52b cJ2_length_9d52b 1 (some .int), Cond.methodLink RJ2 414 yJ0_checkIndex_df160, Cond.methodLink RJ2 71 yJ2_getChar_3b067, Cond.static yJ2_getChar_3b067, Cond.code yJ2_getChar_3b067 cJ2_getChar_3b067 2 (some .char), Cond.fieldLink RJ2 44 "java/lang/StringUTF16" "$assertionsDisabled" "Z", Cond.fieldLink RJ2 59 "java/lang/StringUTF16" "HI_BYTE_SHIFT" "I", Cond.fieldLink RJ2 63 "java/lang/StringUTF16" "LO_BYTE_SHIFT" "I"]
def wsX3_spells : List Cond := .code yX3_spells cX3_spells 4 (some .boolean) :: ((wsX3_spells_r1 ++ (wsX3_spells_r2 ++ wsX3_spells_r3)) ++ wsX30 ++ wsX50)
def wsX3_readWord_r1 : List Cond := [Cond.fieldLink RX3 26 "ProofSheets$MarkText" "cursor" "I", Cond.fieldLink RX3 14 "ProofSheets$MarkText" "signs" "LProofSheets$Row;", Cond.methodLink RX3 33 yX5_used, Cond.instanceMethod yX5_used, Cond.selects RX5 yX5_used yX5_used, Cond.initialized RX5, Cond.code yX5_used cX5_used 1 (some .int), Cond.fieldLink RX5 13 "ProofSheets$Row" "used" "I", Cond.methodLink RX3 81 yX5_get, Cond.instanceMethod yX5_get, Cond.selects RX5 yX5_get yX5_get, Cond.code yX5_get cX5_get 2 (some .int), Cond.fieldLink RX5 7 "ProofSheets$Row" "cells" "[I", Cond.methodLink RX5 17 yX5_hasNot, Cond.instanceMethod yX5_hasNot, Cond.selects RX5 yX5_hasNot yX5_hasNot, Cond.code yX5_hasNot cX5_hasNot 2 (some .boolean), Cond.methodLink RX3 84 yX3_wordOf, Cond.static yX3_wordOf, Cond.initialized RX3, Cond.code yX3_wordOf cX3_wordOf 1 (some (.object "java/lang/String")), Cond.methodLink RX3 88 yX3_spells, Cond.instanceMethod yX3_spells, Cond.selects RX3 yX3_spells yX3_spells]
def wsX3_readWord_r2 : List Cond := [Cond.code yX3_spells cX3_spells 4 (some .boolean), Cond.methodLink RX3 104 yJ0_length_8abf5, Cond.instanceMethod yJ0_length_8abf5, Cond.selects RJ0 yJ0_length_8abf5 yJ0_length_8abf5, Cond.initialized RJ0, Cond.code yJ0_length_8abf5 cJ0_length_8abf5 1 (some .int), Cond.fieldLink RJ0 9 "java/lang/String" "value" "[B", Cond.methodLink RJ0 335 yJ0_coder_7d493, Cond.instanceMethod yJ0_coder_7d493, Cond.selects RJ0 yJ0_coder_7d493 yJ0_coder_7d493, Cond.code yJ0_coder_7d493 cJ0_coder_7d493 1 (some .byte), Cond.fieldLink RJ0 38 "java/lang/String" "COMPACT_STRINGS" "Z", Cond.fieldLink RJ0 15 "java/lang/String" "coder" "B", Cond.methodLink RX3 109 yJ0_charAt_5068e, Cond.instanceMethod yJ0_charAt_5068e, Cond.selects RJ0 yJ0_charAt_5068e yJ0_charAt_5068e, Cond.code yJ0_charAt_5068e cJ0_charAt_5068e 2 (some .char), Cond.methodLink RJ0 492 yJ0_isLatin1_aae02, Cond.instanceMethod yJ0_isLatin1_aae02, Cond.selects RJ0 yJ0_isLatin1_aae02 yJ0_isLatin1_aae02, Cond.code yJ0_isLatin1_aae02 cJ0_isLatin1_aae02 1 (some .boolean), Cond.methodLink RJ0 495 yJ1_charAt_3b067, Cond.static yJ1_charAt_3b067, Cond.initialized RJ1]
def wsX3_readWord_r3 : List Cond := [Cond.code yJ1_charAt_3b067 cJ1_charAt_3b067 2 (some .char), Cond.methodLink RJ1 9 yJ0_checkIndex_df160, Cond.static yJ0_checkIndex_df160, Cond.code yJ0_checkIndex_df160 cJ0_checkIndex_df160 2 none, Cond.fieldLink RJ0 1053 "jdk/internal/util/Preconditions" "SIOOBE_FORMATTER" "Ljava/util/function/BiFunction;", Cond.methodLink RJ0 1059 yJ3_checkIndex_8e157, Cond.static yJ3_checkIndex_8e157, Cond.initialized RJ3, Cond.code yJ3_checkIndex_8e157 cJ3_checkIndex_8e157 3 (some .int), Cond.methodLink RJ0 498 yJ2_charAt_3b067, Cond.static yJ2_charAt_3b067, Cond.initialized RJ2, Cond.code yJ2_charAt_3b067 cJ2_charAt_3b067 2 (some .char), Cond.methodLink RJ2 67 yJ2_checkIndex_2214a, Cond.static yJ2_checkIndex_2214a, Cond.code yJ2_checkIndex_2214a cJ2_checkIndex_2214a 2 none, Cond.methodLink RJ2 48 yJ2_length_9d52b, Cond.static yJ2_length_9d52b, Cond.code yJ2_length_9d52b cJ2_length_9d52b 1 (some .int), Cond.methodLink RJ2 414 yJ0_checkIndex_df160, Cond.methodLink RJ2 71 yJ2_getChar_3b067, Cond.static yJ2_getChar_3b067, Cond.code yJ2_getChar_3b067 cJ2_getChar_3b067 2 (some .char), Cond.fieldLink RJ2 44 "java/lang/StringUTF16" "$assertionsDisabled" "Z"]
def wsX3_readWord_r4 : List Cond := [Cond.fieldLink RJ2 59 "java/lang/StringUTF16" "HI_BYTE_SHIFT" "I", Cond.fieldLink RJ2 63 "java/lang/StringUTF16" "LO_BYTE_SHIFT" "I"]
def wsX3_readWord : List Cond := .code yX3_readWord cX3_readWord 4 (some .int) :: ((wsX3_readWord_r1 ++ (wsX3_readWord_r2 ++ (wsX3_readWord_r3 ++ wsX3_readWord_r4))) ++ wsX30 ++ wsX50)
def wsX3_passes : List Cond := .code yX3_passes cX3_passes 2 (some .boolean) :: ([.fieldLink RX3 14 "ProofSheets$MarkText" "signs" "LProofSheets$Row;", .fieldLink RX3 26 "ProofSheets$MarkText" "cursor" "I", .methodLink RX3 81 yX5_get, .instanceMethod yX5_get, .selects RX5 yX5_get yX5_get, .initialized RX5, .code yX5_get cX5_get 2 (some .int), .fieldLink RX5 7 "ProofSheets$Row" "cells" "[I", .methodLink RX5 17 yX5_hasNot, .instanceMethod yX5_hasNot, .selects RX5 yX5_hasNot yX5_hasNot, .code yX5_hasNot cX5_hasNot 2 (some .boolean), .fieldLink RX5 13 "ProofSheets$Row" "used" "I"] ++ wsX30 ++ wsX50)
def wsX3_readPosition : List Cond := .code yX3_readPosition cX3_readPosition 3 (some .int) :: ([.fieldLink RX3 14 "ProofSheets$MarkText" "signs" "LProofSheets$Row;", .fieldLink RX3 26 "ProofSheets$MarkText" "cursor" "I", .methodLink RX3 59 yX3_passes, .instanceMethod yX3_passes, .selects RX3 yX3_passes yX3_passes, .initialized RX3, .code yX3_passes cX3_passes 2 (some .boolean), .methodLink RX3 81 yX5_get, .instanceMethod yX5_get, .selects RX5 yX5_get yX5_get, .initialized RX5, .code yX5_get cX5_get 2 (some .int), .fieldLink RX5 7 "ProofSheets$Row" "cells" "[I", .methodLink RX5 17 yX5_hasNot, .instanceMethod yX5_hasNot, .selects RX5 yX5_hasNot yX5_hasNot, .code yX5_hasNot cX5_hasNot 2 (some .boolean), .fieldLink RX5 13 "ProofSheets$Row" "used" "I"] ++ wsX30 ++ wsX50)
def wsX3_readCharacter : List Cond := .code yX3_readCharacter cX3_readCharacter 1 (some .int) :: ([.fieldLink RX3 26 "ProofSheets$MarkText" "cursor" "I", .fieldLink RX3 14 "ProofSheets$MarkText" "signs" "LProofSheets$Row;", .methodLink RX3 59 yX3_passes, .instanceMethod yX3_passes, .selects RX3 yX3_passes yX3_passes, .initialized RX3, .code yX3_passes cX3_passes 2 (some .boolean), .methodLink RX3 81 yX5_get, .instanceMethod yX5_get, .selects RX5 yX5_get yX5_get, .initialized RX5, .code yX5_get cX5_get 2 (some .int), .fieldLink RX5 7 "ProofSheets$Row" "cells" "[I", .methodLink RX5 17 yX5_hasNot, .instanceMethod yX5_hasNot, .selects RX5 yX5_hasNot yX5_hasNot, .code yX5_hasNot cX5_hasNot 2 (some .boolean), .fieldLink RX5 13 "ProofSheets$Row" "used" "I", .methodLink RX3 33 yX5_used, .instanceMethod yX5_used, .selects RX5 yX5_used yX5_used, .code yX5_used cX5_used 1 (some .int)] ++ wsX30 ++ wsX50)
def wsX3_keep_r1 : List Cond := [Cond.fieldLink RX3 20 "ProofSheets$MarkText" "codes" "LProofSheets$Row;", Cond.fieldLink RX3 30 "ProofSheets$MarkText" "reason" "I", Cond.methodLink RX3 74 yX5_placeOf, Cond.instanceMethod yX5_placeOf, Cond.selects RX5 yX5_placeOf yX5_placeOf, Cond.initialized RX5, Cond.code yX5_placeOf cX5_placeOf 3 (some .int), Cond.fieldLink RX5 13 "ProofSheets$Row" "used" "I", Cond.methodLink RX5 21 yX5_get, Cond.instanceMethod yX5_get, Cond.selects RX5 yX5_get yX5_get, Cond.code yX5_get cX5_get 2 (some .int), Cond.fieldLink RX5 7 "ProofSheets$Row" "cells" "[I", Cond.methodLink RX5 17 yX5_hasNot, Cond.instanceMethod yX5_hasNot, Cond.selects RX5 yX5_hasNot yX5_hasNot, Cond.code yX5_hasNot cX5_hasNot 2 (some .boolean), Cond.methodLink RX3 33 yX5_used, Cond.instanceMethod yX5_used, Cond.selects RX5 yX5_used yX5_used, Cond.code yX5_used cX5_used 1 (some .int), Cond.methodLink RX3 78 yX5_append, Cond.instanceMethod yX5_append, Cond.selects RX5 yX5_append yX5_append]
def wsX3_keep_r2 : List Cond := [Cond.code yX5_append cX5_append 2 none]
def wsX3_keep : List Cond := .code yX3_keep cX3_keep 3 none :: ((wsX3_keep_r1 ++ wsX3_keep_r2) ++ wsX30 ++ wsX50)
def wsX3_readMark_r1 : List Cond := [Cond.fieldLink RX3 30 "ProofSheets$MarkText" "reason" "I", Cond.methodLink RX3 44 yX3_readWord, Cond.instanceMethod yX3_readWord, Cond.selects RX3 yX3_readWord yX3_readWord, Cond.initialized RX3, Cond.code yX3_readWord cX3_readWord 4 (some .int), Cond.fieldLink RX3 26 "ProofSheets$MarkText" "cursor" "I", Cond.fieldLink RX3 14 "ProofSheets$MarkText" "signs" "LProofSheets$Row;", Cond.methodLink RX3 33 yX5_used, Cond.instanceMethod yX5_used, Cond.selects RX5 yX5_used yX5_used, Cond.initialized RX5, Cond.code yX5_used cX5_used 1 (some .int), Cond.fieldLink RX5 13 "ProofSheets$Row" "used" "I", Cond.methodLink RX3 81 yX5_get, Cond.instanceMethod yX5_get, Cond.selects RX5 yX5_get yX5_get, Cond.code yX5_get cX5_get 2 (some .int), Cond.fieldLink RX5 7 "ProofSheets$Row" "cells" "[I", Cond.methodLink RX5 17 yX5_hasNot, Cond.instanceMethod yX5_hasNot, Cond.selects RX5 yX5_hasNot yX5_hasNot, Cond.code yX5_hasNot cX5_hasNot 2 (some .boolean), Cond.methodLink RX3 84 yX3_wordOf]
def wsX3_readMark_r2 : List Cond := [Cond.static yX3_wordOf, Cond.code yX3_wordOf cX3_wordOf 1 (some (.object "java/lang/String")), Cond.methodLink RX3 88 yX3_spells, Cond.instanceMethod yX3_spells, Cond.selects RX3 yX3_spells yX3_spells, Cond.code yX3_spells cX3_spells 4 (some .boolean), Cond.methodLink RX3 104 yJ0_length_8abf5, Cond.instanceMethod yJ0_length_8abf5, Cond.selects RJ0 yJ0_length_8abf5 yJ0_length_8abf5, Cond.initialized RJ0, Cond.code yJ0_length_8abf5 cJ0_length_8abf5 1 (some .int), Cond.fieldLink RJ0 9 "java/lang/String" "value" "[B", Cond.methodLink RJ0 335 yJ0_coder_7d493, Cond.instanceMethod yJ0_coder_7d493, Cond.selects RJ0 yJ0_coder_7d493 yJ0_coder_7d493, Cond.code yJ0_coder_7d493 cJ0_coder_7d493 1 (some .byte), Cond.fieldLink RJ0 38 "java/lang/String" "COMPACT_STRINGS" "Z", Cond.fieldLink RJ0 15 "java/lang/String" "coder" "B", Cond.methodLink RX3 109 yJ0_charAt_5068e, Cond.instanceMethod yJ0_charAt_5068e, Cond.selects RJ0 yJ0_charAt_5068e yJ0_charAt_5068e, Cond.code yJ0_charAt_5068e cJ0_charAt_5068e 2 (some .char), Cond.methodLink RJ0 492 yJ0_isLatin1_aae02, Cond.instanceMethod yJ0_isLatin1_aae02]
def wsX3_readMark_r3 : List Cond := [Cond.selects RJ0 yJ0_isLatin1_aae02 yJ0_isLatin1_aae02, Cond.code yJ0_isLatin1_aae02 cJ0_isLatin1_aae02 1 (some .boolean), Cond.methodLink RJ0 495 yJ1_charAt_3b067, Cond.static yJ1_charAt_3b067, Cond.initialized RJ1, Cond.code yJ1_charAt_3b067 cJ1_charAt_3b067 2 (some .char), Cond.methodLink RJ1 9 yJ0_checkIndex_df160, Cond.static yJ0_checkIndex_df160, Cond.code yJ0_checkIndex_df160 cJ0_checkIndex_df160 2 none, Cond.fieldLink RJ0 1053 "jdk/internal/util/Preconditions" "SIOOBE_FORMATTER" "Ljava/util/function/BiFunction;", Cond.methodLink RJ0 1059 yJ3_checkIndex_8e157, Cond.static yJ3_checkIndex_8e157, Cond.initialized RJ3, Cond.code yJ3_checkIndex_8e157 cJ3_checkIndex_8e157 3 (some .int), Cond.methodLink RJ0 498 yJ2_charAt_3b067, Cond.static yJ2_charAt_3b067, Cond.initialized RJ2, Cond.code yJ2_charAt_3b067 cJ2_charAt_3b067 2 (some .char), Cond.methodLink RJ2 67 yJ2_checkIndex_2214a, Cond.static yJ2_checkIndex_2214a, Cond.code yJ2_checkIndex_2214a cJ2_checkIndex_2214a 2 none, Cond.methodLink RJ2 48 yJ2_length_9d52b, Cond.static yJ2_length_9d52b, Cond.code yJ2_length_9d52b cJ2_length_9d52b 1 (some .int)]
def wsX3_readMark_r4 : List Cond := [Cond.methodLink RJ2 414 yJ0_checkIndex_df160, Cond.methodLink RJ2 71 yJ2_getChar_3b067, Cond.static yJ2_getChar_3b067, Cond.code yJ2_getChar_3b067 cJ2_getChar_3b067 2 (some .char), Cond.fieldLink RJ2 44 "java/lang/StringUTF16" "$assertionsDisabled" "Z", Cond.fieldLink RJ2 59 "java/lang/StringUTF16" "HI_BYTE_SHIFT" "I", Cond.fieldLink RJ2 63 "java/lang/StringUTF16" "LO_BYTE_SHIFT" "I", Cond.methodLink RX3 47 yX3_readPosition, Cond.instanceMethod yX3_readPosition, Cond.selects RX3 yX3_readPosition yX3_readPosition, Cond.code yX3_readPosition cX3_readPosition 3 (some .int), Cond.methodLink RX3 59 yX3_passes, Cond.instanceMethod yX3_passes, Cond.selects RX3 yX3_passes yX3_passes, Cond.code yX3_passes cX3_passes 2 (some .boolean), Cond.methodLink RX3 50 yX1_takesCharacter, Cond.static yX1_takesCharacter, Cond.initialized RX1, Cond.code yX1_takesCharacter cX1_takesCharacter 1 (some .boolean), Cond.methodLink RX3 56 yX3_readCharacter, Cond.instanceMethod yX3_readCharacter, Cond.selects RX3 yX3_readCharacter yX3_readCharacter, Cond.code yX3_readCharacter cX3_readCharacter 1 (some .int), Cond.methodLink RX3 62 yX1_isPossible]
def wsX3_readMark_r5 : List Cond := [Cond.static yX1_isPossible, Cond.code yX1_isPossible cX1_isPossible 4 (some .boolean), Cond.methodLink RX3 66 yX1_codeOf, Cond.static yX1_codeOf, Cond.code yX1_codeOf cX1_codeOf 4 (some .int), Cond.methodLink RX3 70 yX3_keep, Cond.instanceMethod yX3_keep, Cond.selects RX3 yX3_keep yX3_keep, Cond.code yX3_keep cX3_keep 3 none, Cond.fieldLink RX3 20 "ProofSheets$MarkText" "codes" "LProofSheets$Row;", Cond.methodLink RX3 74 yX5_placeOf, Cond.instanceMethod yX5_placeOf, Cond.selects RX5 yX5_placeOf yX5_placeOf, Cond.code yX5_placeOf cX5_placeOf 3 (some .int), Cond.methodLink RX5 21 yX5_get, Cond.methodLink RX3 78 yX5_append, Cond.instanceMethod yX5_append, Cond.selects RX5 yX5_append yX5_append, Cond.code yX5_append cX5_append 2 none]
def wsX3_readMark : List Cond := .code yX3_readMark cX3_readMark 7 none :: ((wsX3_readMark_r1 ++ (wsX3_readMark_r2 ++ (wsX3_readMark_r3 ++ (wsX3_readMark_r4 ++ wsX3_readMark_r5)))) ++ wsX30 ++ wsX50)
def wsX3_readFor_r1 : List Cond := [Cond.fieldLink RX3 20 "ProofSheets$MarkText" "codes" "LProofSheets$Row;", Cond.fieldLink RX3 26 "ProofSheets$MarkText" "cursor" "I", Cond.fieldLink RX3 30 "ProofSheets$MarkText" "reason" "I", Cond.fieldLink RX3 14 "ProofSheets$MarkText" "signs" "LProofSheets$Row;", Cond.fieldLink RX3 37 "ProofSheets$MarkText" "start" "I", Cond.methodLink RX3 23 yX5_cutTo, Cond.instanceMethod yX5_cutTo, Cond.selects RX5 yX5_cutTo yX5_cutTo, Cond.initialized RX5, Cond.code yX5_cutTo cX5_cutTo 2 none, Cond.fieldLink RX5 13 "ProofSheets$Row" "used" "I", Cond.methodLink RX3 33 yX5_used, Cond.instanceMethod yX5_used, Cond.selects RX5 yX5_used yX5_used, Cond.code yX5_used cX5_used 1 (some .int), Cond.methodLink RX3 40 yX3_readMark, Cond.instanceMethod yX3_readMark, Cond.selects RX3 yX3_readMark yX3_readMark, Cond.initialized RX3, Cond.code yX3_readMark cX3_readMark 7 none, Cond.methodLink RX3 44 yX3_readWord, Cond.instanceMethod yX3_readWord, Cond.selects RX3 yX3_readWord yX3_readWord, Cond.code yX3_readWord cX3_readWord 4 (some .int)]
def wsX3_readFor_r2 : List Cond := [Cond.methodLink RX3 81 yX5_get, Cond.instanceMethod yX5_get, Cond.selects RX5 yX5_get yX5_get, Cond.code yX5_get cX5_get 2 (some .int), Cond.fieldLink RX5 7 "ProofSheets$Row" "cells" "[I", Cond.methodLink RX5 17 yX5_hasNot, Cond.instanceMethod yX5_hasNot, Cond.selects RX5 yX5_hasNot yX5_hasNot, Cond.code yX5_hasNot cX5_hasNot 2 (some .boolean), Cond.methodLink RX3 84 yX3_wordOf, Cond.static yX3_wordOf, Cond.code yX3_wordOf cX3_wordOf 1 (some (.object "java/lang/String")), Cond.methodLink RX3 88 yX3_spells, Cond.instanceMethod yX3_spells, Cond.selects RX3 yX3_spells yX3_spells, Cond.code yX3_spells cX3_spells 4 (some .boolean), Cond.methodLink RX3 104 yJ0_length_8abf5, Cond.instanceMethod yJ0_length_8abf5, Cond.selects RJ0 yJ0_length_8abf5 yJ0_length_8abf5, Cond.initialized RJ0, Cond.code yJ0_length_8abf5 cJ0_length_8abf5 1 (some .int), Cond.fieldLink RJ0 9 "java/lang/String" "value" "[B", Cond.methodLink RJ0 335 yJ0_coder_7d493, Cond.instanceMethod yJ0_coder_7d493]
def wsX3_readFor_r3 : List Cond := [Cond.selects RJ0 yJ0_coder_7d493 yJ0_coder_7d493, Cond.code yJ0_coder_7d493 cJ0_coder_7d493 1 (some .byte), Cond.fieldLink RJ0 38 "java/lang/String" "COMPACT_STRINGS" "Z", Cond.fieldLink RJ0 15 "java/lang/String" "coder" "B", Cond.methodLink RX3 109 yJ0_charAt_5068e, Cond.instanceMethod yJ0_charAt_5068e, Cond.selects RJ0 yJ0_charAt_5068e yJ0_charAt_5068e, Cond.code yJ0_charAt_5068e cJ0_charAt_5068e 2 (some .char), Cond.methodLink RJ0 492 yJ0_isLatin1_aae02, Cond.instanceMethod yJ0_isLatin1_aae02, Cond.selects RJ0 yJ0_isLatin1_aae02 yJ0_isLatin1_aae02, Cond.code yJ0_isLatin1_aae02 cJ0_isLatin1_aae02 1 (some .boolean), Cond.methodLink RJ0 495 yJ1_charAt_3b067, Cond.static yJ1_charAt_3b067, Cond.initialized RJ1, Cond.code yJ1_charAt_3b067 cJ1_charAt_3b067 2 (some .char), Cond.methodLink RJ1 9 yJ0_checkIndex_df160, Cond.static yJ0_checkIndex_df160, Cond.code yJ0_checkIndex_df160 cJ0_checkIndex_df160 2 none, Cond.fieldLink RJ0 1053 "jdk/internal/util/Preconditions" "SIOOBE_FORMATTER" "Ljava/util/function/BiFunction;", Cond.methodLink RJ0 1059 yJ3_checkIndex_8e157, Cond.static yJ3_checkIndex_8e157, Cond.initialized RJ3, Cond.code yJ3_checkIndex_8e157 cJ3_checkIndex_8e157 3 (some .int)]
def wsX3_readFor_r4 : List Cond := [Cond.methodLink RJ0 498 yJ2_charAt_3b067, Cond.static yJ2_charAt_3b067, Cond.initialized RJ2, Cond.code yJ2_charAt_3b067 cJ2_charAt_3b067 2 (some .char), Cond.methodLink RJ2 67 yJ2_checkIndex_2214a, Cond.static yJ2_checkIndex_2214a, Cond.code yJ2_checkIndex_2214a cJ2_checkIndex_2214a 2 none, Cond.methodLink RJ2 48 yJ2_length_9d52b, Cond.static yJ2_length_9d52b, Cond.code yJ2_length_9d52b cJ2_length_9d52b 1 (some .int), Cond.methodLink RJ2 414 yJ0_checkIndex_df160, Cond.methodLink RJ2 71 yJ2_getChar_3b067, Cond.static yJ2_getChar_3b067, Cond.code yJ2_getChar_3b067 cJ2_getChar_3b067 2 (some .char), Cond.fieldLink RJ2 44 "java/lang/StringUTF16" "$assertionsDisabled" "Z", Cond.fieldLink RJ2 59 "java/lang/StringUTF16" "HI_BYTE_SHIFT" "I", Cond.fieldLink RJ2 63 "java/lang/StringUTF16" "LO_BYTE_SHIFT" "I", Cond.methodLink RX3 47 yX3_readPosition, Cond.instanceMethod yX3_readPosition, Cond.selects RX3 yX3_readPosition yX3_readPosition, Cond.code yX3_readPosition cX3_readPosition 3 (some .int), Cond.methodLink RX3 59 yX3_passes, Cond.instanceMethod yX3_passes, Cond.selects RX3 yX3_passes yX3_passes]
def wsX3_readFor_r5 : List Cond := [Cond.code yX3_passes cX3_passes 2 (some .boolean), Cond.methodLink RX3 50 yX1_takesCharacter, Cond.static yX1_takesCharacter, Cond.initialized RX1, Cond.code yX1_takesCharacter cX1_takesCharacter 1 (some .boolean), Cond.methodLink RX3 56 yX3_readCharacter, Cond.instanceMethod yX3_readCharacter, Cond.selects RX3 yX3_readCharacter yX3_readCharacter, Cond.code yX3_readCharacter cX3_readCharacter 1 (some .int), Cond.methodLink RX3 62 yX1_isPossible, Cond.static yX1_isPossible, Cond.code yX1_isPossible cX1_isPossible 4 (some .boolean), Cond.methodLink RX3 66 yX1_codeOf, Cond.static yX1_codeOf, Cond.code yX1_codeOf cX1_codeOf 4 (some .int), Cond.methodLink RX3 70 yX3_keep, Cond.instanceMethod yX3_keep, Cond.selects RX3 yX3_keep yX3_keep, Cond.code yX3_keep cX3_keep 3 none, Cond.methodLink RX3 74 yX5_placeOf, Cond.instanceMethod yX5_placeOf, Cond.selects RX5 yX5_placeOf yX5_placeOf, Cond.code yX5_placeOf cX5_placeOf 3 (some .int), Cond.methodLink RX5 21 yX5_get]
def wsX3_readFor_r6 : List Cond := [Cond.methodLink RX3 78 yX5_append, Cond.instanceMethod yX5_append, Cond.selects RX5 yX5_append yX5_append, Cond.code yX5_append cX5_append 2 none]
def wsX3_readFor : List Cond := .code yX3_readFor cX3_readFor 4 none :: ((wsX3_readFor_r1 ++ (wsX3_readFor_r2 ++ (wsX3_readFor_r3 ++ (wsX3_readFor_r4 ++ (wsX3_readFor_r5 ++ wsX3_readFor_r6))))) ++ wsX30 ++ wsX50)
def wsX4_init : List Cond := .code yX4_init cX4_init 1 none :: ([.methodLink RX4 3 objectInit, .instanceMethod objectInit, .code objectInit ⟨#[0xb1]⟩ 1 none, .classLink RX4 9 RX5, .instantiable RX5 2, .initialized RX5, .fieldLink RX4 14 "ProofSheets$Press" "ahead" "LProofSheets$Row;", .fieldLink RX4 20 "ProofSheets$Press" "instead" "LProofSheets$Row;", .fieldLink RX4 23 "ProofSheets$Press" "turns" "LProofSheets$Row;", .fieldLink RX4 26 "ProofSheets$Press" "paper" "LProofSheets$Row;", .methodLink RX4 11 yX5_init, .instanceMethod yX5_init, .code yX5_init cX5_init 2 none, .methodLink RX5 1 objectInit, .arrayClass .int, .fieldLink RX5 7 "ProofSheets$Row" "cells" "[I"] ++ wsX50 ++ wsX40)
def wsX4_otherCase : List Cond := .code yX4_otherCase cX4_otherCase 1 (some .int) :: ([.static yX8_isOutside, .initialized RX8, .code yX8_isOutside cX8_isOutside 3 (some .boolean)])
def wsX4_arrange_r1 : List Cond := [Cond.fieldLink RX4 20 "ProofSheets$Press" "instead" "LProofSheets$Row;", Cond.fieldLink RX4 14 "ProofSheets$Press" "ahead" "LProofSheets$Row;", Cond.methodLink RX4 63 yX1_firstOf, Cond.static yX1_firstOf, Cond.initialized RX1, Cond.code yX1_firstOf cX1_firstOf 1 (some .int), Cond.methodLink RX4 68 yX1_kindOf, Cond.static yX1_kindOf, Cond.code yX1_kindOf cX1_kindOf 1 (some .int), Cond.methodLink RX4 71 yX1_secondOf, Cond.static yX1_secondOf, Cond.code yX1_secondOf cX1_secondOf 1 (some .int), Cond.methodLink RX4 74 yX5_set, Cond.instanceMethod yX5_set, Cond.selects RX5 yX5_set yX5_set, Cond.initialized RX5, Cond.code yX5_set cX5_set 3 none, Cond.fieldLink RX5 7 "ProofSheets$Row" "cells" "[I", Cond.methodLink RX5 17 yX5_hasNot, Cond.instanceMethod yX5_hasNot, Cond.selects RX5 yX5_hasNot yX5_hasNot, Cond.code yX5_hasNot cX5_hasNot 2 (some .boolean), Cond.fieldLink RX5 13 "ProofSheets$Row" "used" "I", Cond.methodLink RX4 77 yX1_characterOf]
def wsX4_arrange_r2 : List Cond := [Cond.static yX1_characterOf, Cond.code yX1_characterOf cX1_characterOf 1 (some .int), Cond.methodLink RX4 49 yX5_get, Cond.instanceMethod yX5_get, Cond.selects RX5 yX5_get yX5_get, Cond.code yX5_get cX5_get 2 (some .int), Cond.methodLink RX4 80 yX4_otherCase, Cond.static yX4_otherCase, Cond.initialized RX4, Cond.code yX4_otherCase cX4_otherCase 1 (some .int), Cond.static yX8_isOutside, Cond.initialized RX8, Cond.code yX8_isOutside cX8_isOutside 3 (some .boolean)]
def wsX4_arrange : List Cond := .code yX4_arrange cX4_arrange 5 none :: ((wsX4_arrange_r1 ++ wsX4_arrange_r2) ++ wsX40 ++ wsX50)
def wsX4_printIfAny : List Cond := .code yX4_printIfAny cX4_printIfAny 2 none :: ([.fieldLink RX4 26 "ProofSheets$Press" "paper" "LProofSheets$Row;", .methodLink RX4 83 yX5_append, .instanceMethod yX5_append, .selects RX5 yX5_append yX5_append, .initialized RX5, .code yX5_append cX5_append 2 none, .fieldLink RX5 13 "ProofSheets$Row" "used" "I", .fieldLink RX5 7 "ProofSheets$Row" "cells" "[I"] ++ wsX40 ++ wsX50)
def wsX4_printAtOnce_r1 : List Cond := [Cond.fieldLink RX4 14 "ProofSheets$Press" "ahead" "LProofSheets$Row;", Cond.fieldLink RX4 20 "ProofSheets$Press" "instead" "LProofSheets$Row;", Cond.fieldLink RX4 26 "ProofSheets$Press" "paper" "LProofSheets$Row;", Cond.methodLink RX4 29 yX5_used, Cond.instanceMethod yX5_used, Cond.selects RX5 yX5_used yX5_used, Cond.initialized RX5, Cond.code yX5_used cX5_used 1 (some .int), Cond.fieldLink RX5 13 "ProofSheets$Row" "used" "I", Cond.methodLink RX4 33 yX5_fill, Cond.instanceMethod yX5_fill, Cond.selects RX5 yX5_fill yX5_fill, Cond.code yX5_fill cX5_fill 4 none, Cond.methodLink RX5 29 yX5_append, Cond.instanceMethod yX5_append, Cond.selects RX5 yX5_append yX5_append, Cond.code yX5_append cX5_append 2 none, Cond.fieldLink RX5 7 "ProofSheets$Row" "cells" "[I", Cond.methodLink RX4 37 yX5_copyFrom, Cond.instanceMethod yX5_copyFrom, Cond.selects RX5 yX5_copyFrom yX5_copyFrom, Cond.code yX5_copyFrom cX5_copyFrom 3 none, Cond.methodLink RX4 49 yX5_get, Cond.instanceMethod yX5_get]
def wsX4_printAtOnce_r2 : List Cond := [Cond.selects RX5 yX5_get yX5_get, Cond.code yX5_get cX5_get 2 (some .int), Cond.methodLink RX5 17 yX5_hasNot, Cond.instanceMethod yX5_hasNot, Cond.selects RX5 yX5_hasNot yX5_hasNot, Cond.code yX5_hasNot cX5_hasNot 2 (some .boolean), Cond.methodLink RX4 53 yX4_arrange, Cond.instanceMethod yX4_arrange, Cond.selects RX4 yX4_arrange yX4_arrange, Cond.initialized RX4, Cond.code yX4_arrange cX4_arrange 5 none, Cond.methodLink RX4 63 yX1_firstOf, Cond.static yX1_firstOf, Cond.initialized RX1, Cond.code yX1_firstOf cX1_firstOf 1 (some .int), Cond.methodLink RX4 68 yX1_kindOf, Cond.static yX1_kindOf, Cond.code yX1_kindOf cX1_kindOf 1 (some .int), Cond.methodLink RX4 71 yX1_secondOf, Cond.static yX1_secondOf, Cond.code yX1_secondOf cX1_secondOf 1 (some .int), Cond.methodLink RX4 74 yX5_set, Cond.instanceMethod yX5_set, Cond.selects RX5 yX5_set yX5_set]
def wsX4_printAtOnce_r3 : List Cond := [Cond.code yX5_set cX5_set 3 none, Cond.methodLink RX4 77 yX1_characterOf, Cond.static yX1_characterOf, Cond.code yX1_characterOf cX1_characterOf 1 (some .int), Cond.methodLink RX4 80 yX4_otherCase, Cond.static yX4_otherCase, Cond.code yX4_otherCase cX4_otherCase 1 (some .int), Cond.static yX8_isOutside, Cond.initialized RX8, Cond.code yX8_isOutside cX8_isOutside 3 (some .boolean), Cond.methodLink RX4 57 yX5_cutTo, Cond.instanceMethod yX5_cutTo, Cond.selects RX5 yX5_cutTo yX5_cutTo, Cond.code yX5_cutTo cX5_cutTo 2 none, Cond.methodLink RX4 60 yX4_printIfAny, Cond.instanceMethod yX4_printIfAny, Cond.selects RX4 yX4_printIfAny yX4_printIfAny, Cond.code yX4_printIfAny cX4_printIfAny 2 none, Cond.methodLink RX4 83 yX5_append]
def wsX4_printAtOnce : List Cond := .code yX4_printAtOnce cX4_printAtOnce 4 (some (.object "ProofSheets$Row")) :: ((wsX4_printAtOnce_r1 ++ (wsX4_printAtOnce_r2 ++ wsX4_printAtOnce_r3)) ++ wsX40 ++ wsX20 ++ wsX50)
def wsX4_goesBefore : List Cond := .code yX4_goesBefore cX4_goesBefore 2 (some .boolean) :: ([.methodLink RX4 63 yX1_firstOf, .static yX1_firstOf, .initialized RX1, .code yX1_firstOf cX1_firstOf 1 (some .int), .methodLink RX4 68 yX1_kindOf, .static yX1_kindOf, .code yX1_kindOf cX1_kindOf 1 (some .int)])
def wsX4_turnOf_r1 : List Cond := [Cond.fieldLink RX4 23 "ProofSheets$Press" "turns" "LProofSheets$Row;", Cond.methodLink RX4 29 yX5_used, Cond.instanceMethod yX5_used, Cond.selects RX5 yX5_used yX5_used, Cond.initialized RX5, Cond.code yX5_used cX5_used 1 (some .int), Cond.fieldLink RX5 13 "ProofSheets$Row" "used" "I", Cond.methodLink RX4 49 yX5_get, Cond.instanceMethod yX5_get, Cond.selects RX5 yX5_get yX5_get, Cond.code yX5_get cX5_get 2 (some .int), Cond.fieldLink RX5 7 "ProofSheets$Row" "cells" "[I", Cond.methodLink RX5 17 yX5_hasNot, Cond.instanceMethod yX5_hasNot, Cond.selects RX5 yX5_hasNot yX5_hasNot, Cond.code yX5_hasNot cX5_hasNot 2 (some .boolean), Cond.methodLink RX4 95 yX4_goesBefore, Cond.static yX4_goesBefore, Cond.initialized RX4, Cond.code yX4_goesBefore cX4_goesBefore 2 (some .boolean), Cond.methodLink RX4 63 yX1_firstOf, Cond.static yX1_firstOf, Cond.initialized RX1, Cond.code yX1_firstOf cX1_firstOf 1 (some .int)]
def wsX4_turnOf_r2 : List Cond := [Cond.methodLink RX4 68 yX1_kindOf, Cond.static yX1_kindOf, Cond.code yX1_kindOf cX1_kindOf 1 (some .int)]
def wsX4_turnOf : List Cond := .code yX4_turnOf cX4_turnOf 3 (some .int) :: ((wsX4_turnOf_r1 ++ wsX4_turnOf_r2) ++ wsX40 ++ wsX50)
def wsX5_insert : List Cond := .code yX5_insert cX5_insert 4 none :: ([.fieldLink RX5 13 "ProofSheets$Row" "used" "I", .fieldLink RX5 7 "ProofSheets$Row" "cells" "[I", .methodLink RX5 29 yX5_append, .instanceMethod yX5_append, .selects RX5 yX5_append yX5_append, .initialized RX5, .code yX5_append cX5_append 2 none, .methodLink RX5 21 yX5_get, .instanceMethod yX5_get, .selects RX5 yX5_get yX5_get, .code yX5_get cX5_get 2 (some .int), .methodLink RX5 17 yX5_hasNot, .instanceMethod yX5_hasNot, .selects RX5 yX5_hasNot yX5_hasNot, .code yX5_hasNot cX5_hasNot 2 (some .boolean), .methodLink RX5 25 yX5_set, .instanceMethod yX5_set, .selects RX5 yX5_set yX5_set, .code yX5_set cX5_set 3 none] ++ wsX50)
def wsX5_remove : List Cond := .code yX5_remove cX5_remove 3 none :: ([.fieldLink RX5 13 "ProofSheets$Row" "used" "I", .methodLink RX5 17 yX5_hasNot, .instanceMethod yX5_hasNot, .selects RX5 yX5_hasNot yX5_hasNot, .initialized RX5, .code yX5_hasNot cX5_hasNot 2 (some .boolean), .fieldLink RX5 7 "ProofSheets$Row" "cells" "[I", .methodLink RX5 21 yX5_get, .instanceMethod yX5_get, .selects RX5 yX5_get yX5_get, .code yX5_get cX5_get 2 (some .int), .methodLink RX5 25 yX5_set, .instanceMethod yX5_set, .selects RX5 yX5_set yX5_set, .code yX5_set cX5_set 3 none] ++ wsX50)
def wsX4_carryOut_r1 : List Cond := [Cond.fieldLink RX4 26 "ProofSheets$Press" "paper" "LProofSheets$Row;", Cond.methodLink RX4 63 yX1_firstOf, Cond.static yX1_firstOf, Cond.initialized RX1, Cond.code yX1_firstOf cX1_firstOf 1 (some .int), Cond.methodLink RX4 68 yX1_kindOf, Cond.static yX1_kindOf, Cond.code yX1_kindOf cX1_kindOf 1 (some .int), Cond.methodLink RX4 71 yX1_secondOf, Cond.static yX1_secondOf, Cond.code yX1_secondOf cX1_secondOf 1 (some .int), Cond.methodLink RX4 99 yX5_remove, Cond.instanceMethod yX5_remove, Cond.selects RX5 yX5_remove yX5_remove, Cond.initialized RX5, Cond.code yX5_remove cX5_remove 3 none, Cond.fieldLink RX5 13 "ProofSheets$Row" "used" "I", Cond.methodLink RX5 17 yX5_hasNot, Cond.instanceMethod yX5_hasNot, Cond.selects RX5 yX5_hasNot yX5_hasNot, Cond.code yX5_hasNot cX5_hasNot 2 (some .boolean), Cond.fieldLink RX5 7 "ProofSheets$Row" "cells" "[I", Cond.methodLink RX5 21 yX5_get, Cond.instanceMethod yX5_get]
def wsX4_carryOut_r2 : List Cond := [Cond.selects RX5 yX5_get yX5_get, Cond.code yX5_get cX5_get 2 (some .int), Cond.methodLink RX5 25 yX5_set, Cond.instanceMethod yX5_set, Cond.selects RX5 yX5_set yX5_set, Cond.code yX5_set cX5_set 3 none, Cond.methodLink RX4 77 yX1_characterOf, Cond.static yX1_characterOf, Cond.code yX1_characterOf cX1_characterOf 1 (some .int), Cond.methodLink RX4 89 yX5_insert, Cond.instanceMethod yX5_insert, Cond.selects RX5 yX5_insert yX5_insert, Cond.code yX5_insert cX5_insert 4 none, Cond.methodLink RX5 29 yX5_append, Cond.instanceMethod yX5_append, Cond.selects RX5 yX5_append yX5_append, Cond.code yX5_append cX5_append 2 none, Cond.methodLink RX4 74 yX5_set, Cond.methodLink RX4 49 yX5_get, Cond.methodLink RX4 80 yX4_otherCase, Cond.static yX4_otherCase, Cond.initialized RX4, Cond.code yX4_otherCase cX4_otherCase 1 (some .int), Cond.static yX8_isOutside]
def wsX4_carryOut_r3 : List Cond := [Cond.initialized RX8, Cond.code yX8_isOutside cX8_isOutside 3 (some .boolean)]
def wsX4_carryOut : List Cond := .code yX4_carryOut cX4_carryOut 4 none :: ((wsX4_carryOut_r1 ++ (wsX4_carryOut_r2 ++ wsX4_carryOut_r3)) ++ wsX40 ++ wsX50)
def wsX4_printInTurn_r1 : List Cond := [Cond.fieldLink RX4 23 "ProofSheets$Press" "turns" "LProofSheets$Row;", Cond.fieldLink RX4 26 "ProofSheets$Press" "paper" "LProofSheets$Row;", Cond.methodLink RX4 57 yX5_cutTo, Cond.instanceMethod yX5_cutTo, Cond.selects RX5 yX5_cutTo yX5_cutTo, Cond.initialized RX5, Cond.code yX5_cutTo cX5_cutTo 2 none, Cond.fieldLink RX5 13 "ProofSheets$Row" "used" "I", Cond.methodLink RX4 29 yX5_used, Cond.instanceMethod yX5_used, Cond.selects RX5 yX5_used yX5_used, Cond.code yX5_used cX5_used 1 (some .int), Cond.methodLink RX4 49 yX5_get, Cond.instanceMethod yX5_get, Cond.selects RX5 yX5_get yX5_get, Cond.code yX5_get cX5_get 2 (some .int), Cond.fieldLink RX5 7 "ProofSheets$Row" "cells" "[I", Cond.methodLink RX5 17 yX5_hasNot, Cond.instanceMethod yX5_hasNot, Cond.selects RX5 yX5_hasNot yX5_hasNot, Cond.code yX5_hasNot cX5_hasNot 2 (some .boolean), Cond.methodLink RX4 86 yX4_turnOf, Cond.instanceMethod yX4_turnOf, Cond.selects RX4 yX4_turnOf yX4_turnOf]
def wsX4_printInTurn_r2 : List Cond := [Cond.initialized RX4, Cond.code yX4_turnOf cX4_turnOf 3 (some .int), Cond.methodLink RX4 95 yX4_goesBefore, Cond.static yX4_goesBefore, Cond.code yX4_goesBefore cX4_goesBefore 2 (some .boolean), Cond.methodLink RX4 63 yX1_firstOf, Cond.static yX1_firstOf, Cond.initialized RX1, Cond.code yX1_firstOf cX1_firstOf 1 (some .int), Cond.methodLink RX4 68 yX1_kindOf, Cond.static yX1_kindOf, Cond.code yX1_kindOf cX1_kindOf 1 (some .int), Cond.methodLink RX4 89 yX5_insert, Cond.instanceMethod yX5_insert, Cond.selects RX5 yX5_insert yX5_insert, Cond.code yX5_insert cX5_insert 4 none, Cond.methodLink RX5 29 yX5_append, Cond.instanceMethod yX5_append, Cond.selects RX5 yX5_append yX5_append, Cond.code yX5_append cX5_append 2 none, Cond.methodLink RX5 21 yX5_get, Cond.methodLink RX5 25 yX5_set, Cond.instanceMethod yX5_set, Cond.selects RX5 yX5_set yX5_set]
def wsX4_printInTurn_r3 : List Cond := [Cond.code yX5_set cX5_set 3 none, Cond.methodLink RX4 37 yX5_copyFrom, Cond.instanceMethod yX5_copyFrom, Cond.selects RX5 yX5_copyFrom yX5_copyFrom, Cond.code yX5_copyFrom cX5_copyFrom 3 none, Cond.methodLink RX4 92 yX4_carryOut, Cond.instanceMethod yX4_carryOut, Cond.selects RX4 yX4_carryOut yX4_carryOut, Cond.code yX4_carryOut cX4_carryOut 4 none, Cond.methodLink RX4 71 yX1_secondOf, Cond.static yX1_secondOf, Cond.code yX1_secondOf cX1_secondOf 1 (some .int), Cond.methodLink RX4 99 yX5_remove, Cond.instanceMethod yX5_remove, Cond.selects RX5 yX5_remove yX5_remove, Cond.code yX5_remove cX5_remove 3 none, Cond.methodLink RX4 77 yX1_characterOf, Cond.static yX1_characterOf, Cond.code yX1_characterOf cX1_characterOf 1 (some .int), Cond.methodLink RX4 74 yX5_set, Cond.methodLink RX4 80 yX4_otherCase, Cond.static yX4_otherCase, Cond.code yX4_otherCase cX4_otherCase 1 (some .int), Cond.static yX8_isOutside]
def wsX4_printInTurn_r4 : List Cond := [Cond.initialized RX8, Cond.code yX8_isOutside cX8_isOutside 3 (some .boolean)]
def wsX4_printInTurn : List Cond := .code yX4_printInTurn cX4_printInTurn 4 (some (.object "ProofSheets$Row")) :: ((wsX4_printInTurn_r1 ++ (wsX4_printInTurn_r2 ++ (wsX4_printInTurn_r3 ++ wsX4_printInTurn_r4))) ++ wsX40 ++ wsX20 ++ wsX50)
def wsX6_startFor : List Cond := .code yX6_startFor cX6_startFor 2 none :: ([.fieldLink RX6 20 "ProofSheets$Sheet" "reader" "I", .fieldLink RX6 24 "ProofSheets$Sheet" "status" "I", .fieldLink RX6 14 "ProofSheets$Sheet" "marks" "LProofSheets$Row;", .methodLink RX6 27 yX5_cutTo, .instanceMethod yX5_cutTo, .selects RX5 yX5_cutTo yX5_cutTo, .initialized RX5, .code yX5_cutTo cX5_cutTo 2 none, .fieldLink RX5 13 "ProofSheets$Row" "used" "I"] ++ wsX60 ++ wsX50)
def wsX7_addSheet_r1 : List Cond := [Cond.fieldLink RX7 61 "ProofSheets$State" "sheetCount" "I", Cond.fieldLink RX7 36 "ProofSheets$State" "sentTo" "LProofSheets$Row;", Cond.methodLink RX7 64 yX7_sheetNumbered, Cond.instanceMethod yX7_sheetNumbered, Cond.selects RX7 yX7_sheetNumbered yX7_sheetNumbered, Cond.initialized RX7, Cond.code yX7_sheetNumbered cX7_sheetNumbered 2 (some (.object "ProofSheets$Sheet")), Cond.fieldLink RX7 22 "ProofSheets$State" "sheets" "[LProofSheets$Sheet;", Cond.methodLink RX7 75 yX6_startFor, Cond.instanceMethod yX6_startFor, Cond.selects RX6 yX6_startFor yX6_startFor, Cond.initialized RX6, Cond.code yX6_startFor cX6_startFor 2 none, Cond.fieldLink RX6 20 "ProofSheets$Sheet" "reader" "I", Cond.fieldLink RX6 24 "ProofSheets$Sheet" "status" "I", Cond.fieldLink RX6 14 "ProofSheets$Sheet" "marks" "LProofSheets$Row;", Cond.methodLink RX6 27 yX5_cutTo, Cond.instanceMethod yX5_cutTo, Cond.selects RX5 yX5_cutTo yX5_cutTo, Cond.initialized RX5, Cond.code yX5_cutTo cX5_cutTo 2 none, Cond.fieldLink RX5 13 "ProofSheets$Row" "used" "I", Cond.methodLink RX7 78 yX5_add, Cond.instanceMethod yX5_add]
def wsX7_addSheet_r2 : List Cond := [Cond.selects RX5 yX5_add yX5_add, Cond.code yX5_add cX5_add 3 none, Cond.methodLink RX5 21 yX5_get, Cond.instanceMethod yX5_get, Cond.selects RX5 yX5_get yX5_get, Cond.code yX5_get cX5_get 2 (some .int), Cond.fieldLink RX5 7 "ProofSheets$Row" "cells" "[I", Cond.methodLink RX5 17 yX5_hasNot, Cond.instanceMethod yX5_hasNot, Cond.selects RX5 yX5_hasNot yX5_hasNot, Cond.code yX5_hasNot cX5_hasNot 2 (some .boolean), Cond.methodLink RX5 25 yX5_set, Cond.instanceMethod yX5_set, Cond.selects RX5 yX5_set yX5_set, Cond.code yX5_set cX5_set 3 none]
def wsX7_addSheet : List Cond := .code yX7_addSheet cX7_addSheet 3 (some .int) :: ((wsX7_addSheet_r1 ++ wsX7_addSheet_r2) ++ wsX70 ++ wsX60 ++ wsX50)
def wsX7_hasSheetOut : List Cond := .code yX7_hasSheetOut cX7_hasSheetOut 4 (some .boolean) :: ([.fieldLink RX7 61 "ProofSheets$State" "sheetCount" "I", .methodLink RX7 64 yX7_sheetNumbered, .instanceMethod yX7_sheetNumbered, .selects RX7 yX7_sheetNumbered yX7_sheetNumbered, .initialized RX7, .code yX7_sheetNumbered cX7_sheetNumbered 2 (some (.object "ProofSheets$Sheet")), .fieldLink RX7 22 "ProofSheets$State" "sheets" "[LProofSheets$Sheet;"] ++ wsX70 ++ wsX60)
def wsX7_howManySheetsAre : List Cond := .code yX7_howManySheetsAre cX7_howManySheetsAre 5 (some .int) :: ([.fieldLink RX7 61 "ProofSheets$State" "sheetCount" "I", .methodLink RX7 64 yX7_sheetNumbered, .instanceMethod yX7_sheetNumbered, .selects RX7 yX7_sheetNumbered yX7_sheetNumbered, .initialized RX7, .code yX7_sheetNumbered cX7_sheetNumbered 2 (some (.object "ProofSheets$Sheet")), .fieldLink RX7 22 "ProofSheets$State" "sheets" "[LProofSheets$Sheet;"] ++ wsX70 ++ wsX60)
def wsX7_marksOnSheetsThatAre : List Cond := .code yX7_marksOnSheetsThatAre cX7_marksOnSheetsThatAre 5 (some .int) :: ([.fieldLink RX7 61 "ProofSheets$State" "sheetCount" "I", .methodLink RX7 64 yX7_sheetNumbered, .instanceMethod yX7_sheetNumbered, .selects RX7 yX7_sheetNumbered yX7_sheetNumbered, .initialized RX7, .code yX7_sheetNumbered cX7_sheetNumbered 2 (some (.object "ProofSheets$Sheet")), .fieldLink RX7 22 "ProofSheets$State" "sheets" "[LProofSheets$Sheet;", .methodLink RX7 90 yX5_used, .instanceMethod yX5_used, .selects RX5 yX5_used yX5_used, .initialized RX5, .code yX5_used cX5_used 1 (some .int), .fieldLink RX5 13 "ProofSheets$Row" "used" "I"] ++ wsX70 ++ wsX60 ++ wsX50)
def wsX7_account_r1 : List Cond := [Cond.fieldLink RX7 29 "ProofSheets$State" "list" "LProofSheets$MarkList;", Cond.fieldLink RX7 33 "ProofSheets$State" "accounts" "LProofSheets$Row;", Cond.methodLink RX7 94 yX7_marksOnSheetsThatAre, Cond.instanceMethod yX7_marksOnSheetsThatAre, Cond.selects RX7 yX7_marksOnSheetsThatAre yX7_marksOnSheetsThatAre, Cond.initialized RX7, Cond.code yX7_marksOnSheetsThatAre cX7_marksOnSheetsThatAre 5 (some .int), Cond.fieldLink RX7 61 "ProofSheets$State" "sheetCount" "I", Cond.methodLink RX7 64 yX7_sheetNumbered, Cond.instanceMethod yX7_sheetNumbered, Cond.selects RX7 yX7_sheetNumbered yX7_sheetNumbered, Cond.code yX7_sheetNumbered cX7_sheetNumbered 2 (some (.object "ProofSheets$Sheet")), Cond.fieldLink RX7 22 "ProofSheets$State" "sheets" "[LProofSheets$Sheet;", Cond.methodLink RX7 90 yX5_used, Cond.instanceMethod yX5_used, Cond.selects RX5 yX5_used yX5_used, Cond.initialized RX5, Cond.code yX5_used cX5_used 1 (some .int), Cond.fieldLink RX5 13 "ProofSheets$Row" "used" "I", Cond.methodLink RX7 98 yX2_howManyAreOpen, Cond.instanceMethod yX2_howManyAreOpen, Cond.selects RX2 yX2_howManyAreOpen yX2_howManyAreOpen, Cond.initialized RX2, Cond.code yX2_howManyAreOpen cX2_howManyAreOpen 3 (some .int)]
def wsX7_account_r2 : List Cond := [Cond.fieldLink RX2 20 "ProofSheets$MarkList" "answers" "LProofSheets$Row;", Cond.methodLink RX2 36 yX5_used, Cond.methodLink RX2 52 yX5_get, Cond.instanceMethod yX5_get, Cond.selects RX5 yX5_get yX5_get, Cond.code yX5_get cX5_get 2 (some .int), Cond.fieldLink RX5 7 "ProofSheets$Row" "cells" "[I", Cond.methodLink RX5 17 yX5_hasNot, Cond.instanceMethod yX5_hasNot, Cond.selects RX5 yX5_hasNot yX5_hasNot, Cond.code yX5_hasNot cX5_hasNot 2 (some .boolean), Cond.methodLink RX7 101 yX5_get]
def wsX7_account : List Cond := .code yX7_account cX7_account 2 (some .int) :: ((wsX7_account_r1 ++ wsX7_account_r2) ++ wsX70 ++ wsX60 ++ wsX50 ++ wsX20)
def wsX7_writeOn_r1 : List Cond := [Cond.fieldLink RX7 33 "ProofSheets$State" "accounts" "LProofSheets$Row;", Cond.fieldLink RX7 39 "ProofSheets$State" "madeBy" "LProofSheets$Row;", Cond.methodLink RX7 90 yX5_used, Cond.instanceMethod yX5_used, Cond.selects RX5 yX5_used yX5_used, Cond.initialized RX5, Cond.code yX5_used cX5_used 1 (some .int), Cond.fieldLink RX5 13 "ProofSheets$Row" "used" "I", Cond.methodLink RX7 101 yX5_get, Cond.instanceMethod yX5_get, Cond.selects RX5 yX5_get yX5_get, Cond.code yX5_get cX5_get 2 (some .int), Cond.fieldLink RX5 7 "ProofSheets$Row" "cells" "[I", Cond.methodLink RX5 17 yX5_hasNot, Cond.instanceMethod yX5_hasNot, Cond.selects RX5 yX5_hasNot yX5_hasNot, Cond.code yX5_hasNot cX5_hasNot 2 (some .boolean), Cond.methodLink RX7 104 yX5_append, Cond.instanceMethod yX5_append, Cond.selects RX5 yX5_append yX5_append, Cond.code yX5_append cX5_append 2 none, Cond.methodLink RX7 78 yX5_add, Cond.instanceMethod yX5_add, Cond.selects RX5 yX5_add yX5_add]
def wsX7_writeOn_r2 : List Cond := [Cond.code yX5_add cX5_add 3 none, Cond.methodLink RX5 21 yX5_get, Cond.methodLink RX5 25 yX5_set, Cond.instanceMethod yX5_set, Cond.selects RX5 yX5_set yX5_set, Cond.code yX5_set cX5_set 3 none]
def wsX7_writeOn : List Cond := .code yX7_writeOn cX7_writeOn 4 none :: ((wsX7_writeOn_r1 ++ wsX7_writeOn_r2) ++ wsX60 ++ wsX70 ++ wsX50)
def wsX7_mergeMarksOf_r1 : List Cond := [Cond.fieldLink RX7 29 "ProofSheets$State" "list" "LProofSheets$MarkList;", Cond.fieldLink RX7 33 "ProofSheets$State" "accounts" "LProofSheets$Row;", Cond.fieldLink RX7 42 "ProofSheets$State" "mergedOf" "LProofSheets$Row;", Cond.methodLink RX7 90 yX5_used, Cond.instanceMethod yX5_used, Cond.selects RX5 yX5_used yX5_used, Cond.initialized RX5, Cond.code yX5_used cX5_used 1 (some .int), Cond.fieldLink RX5 13 "ProofSheets$Row" "used" "I", Cond.methodLink RX7 101 yX5_get, Cond.instanceMethod yX5_get, Cond.selects RX5 yX5_get yX5_get, Cond.code yX5_get cX5_get 2 (some .int), Cond.fieldLink RX5 7 "ProofSheets$Row" "cells" "[I", Cond.methodLink RX5 17 yX5_hasNot, Cond.instanceMethod yX5_hasNot, Cond.selects RX5 yX5_hasNot yX5_hasNot, Cond.code yX5_hasNot cX5_hasNot 2 (some .boolean), Cond.methodLink RX7 107 yX2_take, Cond.instanceMethod yX2_take, Cond.selects RX2 yX2_take yX2_take, Cond.initialized RX2, Cond.code yX2_take cX2_take 4 (some .boolean), Cond.fieldLink RX2 14 "ProofSheets$MarkList" "codes" "LProofSheets$Row;"]
def wsX7_mergeMarksOf_r2 : List Cond := [Cond.fieldLink RX2 23 "ProofSheets$MarkList" "sheetCounts" "LProofSheets$Row;", Cond.fieldLink RX2 26 "ProofSheets$MarkList" "lowestReaders" "LProofSheets$Row;", Cond.methodLink RX2 55 Lib.Math.min.name, Cond.static Lib.Math.min.name, Cond.initialized "java/lang/Math", Cond.code Lib.Math.min.name Lib.Math.min.code 2 (some .int), Cond.fieldLink RX2 20 "ProofSheets$MarkList" "answers" "LProofSheets$Row;", Cond.methodLink RX2 44 yX5_placeOf, Cond.instanceMethod yX5_placeOf, Cond.selects RX5 yX5_placeOf yX5_placeOf, Cond.code yX5_placeOf cX5_placeOf 3 (some .int), Cond.methodLink RX5 21 yX5_get, Cond.methodLink RX2 48 yX5_add, Cond.instanceMethod yX5_add, Cond.selects RX5 yX5_add yX5_add, Cond.code yX5_add cX5_add 3 none, Cond.methodLink RX5 25 yX5_set, Cond.instanceMethod yX5_set, Cond.selects RX5 yX5_set yX5_set, Cond.code yX5_set cX5_set 3 none, Cond.methodLink RX2 52 yX5_get, Cond.methodLink RX2 61 yX5_set, Cond.methodLink RX2 64 yX5_append, Cond.instanceMethod yX5_append]
def wsX7_mergeMarksOf_r3 : List Cond := [Cond.selects RX5 yX5_append yX5_append, Cond.code yX5_append cX5_append 2 none, Cond.methodLink RX7 78 yX5_add]
def wsX7_mergeMarksOf : List Cond := .code yX7_mergeMarksOf cX7_mergeMarksOf 4 (some .int) :: ((wsX7_mergeMarksOf_r1 ++ (wsX7_mergeMarksOf_r2 ++ wsX7_mergeMarksOf_r3)) ++ wsX60 ++ wsX70 ++ wsX50 ++ wsX20)
def wsX7_keepAnswer : List Cond := .code yX7_keepAnswer cX7_keepAnswer 3 none :: ([.fieldLink RX7 29 "ProofSheets$State" "list" "LProofSheets$MarkList;", .fieldLink RX7 33 "ProofSheets$State" "accounts" "LProofSheets$Row;", .methodLink RX7 114 yX5_set, .instanceMethod yX5_set, .selects RX5 yX5_set yX5_set, .initialized RX5, .code yX5_set cX5_set 3 none, .fieldLink RX5 7 "ProofSheets$Row" "cells" "[I", .methodLink RX5 17 yX5_hasNot, .instanceMethod yX5_hasNot, .selects RX5 yX5_hasNot yX5_hasNot, .code yX5_hasNot cX5_hasNot 2 (some .boolean), .fieldLink RX5 13 "ProofSheets$Row" "used" "I", .methodLink RX7 78 yX5_add, .instanceMethod yX5_add, .selects RX5 yX5_add yX5_add, .code yX5_add cX5_add 3 none, .methodLink RX5 21 yX5_get, .instanceMethod yX5_get, .selects RX5 yX5_get yX5_get, .code yX5_get cX5_get 2 (some .int), .methodLink RX5 25 yX5_set] ++ wsX70 ++ wsX20 ++ wsX50)
def wsX7_canBeFinished_r1 : List Cond := [Cond.fieldLink RX7 57 "ProofSheets$State" "round" "I", Cond.fieldLink RX7 29 "ProofSheets$State" "list" "LProofSheets$MarkList;", Cond.methodLink RX7 117 yX7_howManySheetsAre, Cond.instanceMethod yX7_howManySheetsAre, Cond.selects RX7 yX7_howManySheetsAre yX7_howManySheetsAre, Cond.initialized RX7, Cond.code yX7_howManySheetsAre cX7_howManySheetsAre 5 (some .int), Cond.fieldLink RX7 61 "ProofSheets$State" "sheetCount" "I", Cond.methodLink RX7 64 yX7_sheetNumbered, Cond.instanceMethod yX7_sheetNumbered, Cond.selects RX7 yX7_sheetNumbered yX7_sheetNumbered, Cond.code yX7_sheetNumbered cX7_sheetNumbered 2 (some (.object "ProofSheets$Sheet")), Cond.fieldLink RX7 22 "ProofSheets$State" "sheets" "[LProofSheets$Sheet;", Cond.methodLink RX7 98 yX2_howManyAreOpen, Cond.instanceMethod yX2_howManyAreOpen, Cond.selects RX2 yX2_howManyAreOpen yX2_howManyAreOpen, Cond.initialized RX2, Cond.code yX2_howManyAreOpen cX2_howManyAreOpen 3 (some .int), Cond.fieldLink RX2 20 "ProofSheets$MarkList" "answers" "LProofSheets$Row;", Cond.methodLink RX2 36 yX5_used, Cond.instanceMethod yX5_used, Cond.selects RX5 yX5_used yX5_used, Cond.initialized RX5, Cond.code yX5_used cX5_used 1 (some .int)]
def wsX7_canBeFinished_r2 : List Cond := [Cond.fieldLink RX5 13 "ProofSheets$Row" "used" "I", Cond.methodLink RX2 52 yX5_get, Cond.instanceMethod yX5_get, Cond.selects RX5 yX5_get yX5_get, Cond.code yX5_get cX5_get 2 (some .int), Cond.fieldLink RX5 7 "ProofSheets$Row" "cells" "[I", Cond.methodLink RX5 17 yX5_hasNot, Cond.instanceMethod yX5_hasNot, Cond.selects RX5 yX5_hasNot yX5_hasNot, Cond.code yX5_hasNot cX5_hasNot 2 (some .boolean)]
def wsX7_canBeFinished : List Cond := .code yX7_canBeFinished cX7_canBeFinished 1 (some .boolean) :: ((wsX7_canBeFinished_r1 ++ wsX7_canBeFinished_r2) ++ wsX70 ++ wsX60 ++ wsX20 ++ wsX50)
def wsX7_endRound_r1 : List Cond := [Cond.fieldLink RX7 33 "ProofSheets$State" "accounts" "LProofSheets$Row;", Cond.fieldLink RX7 14 "ProofSheets$State" "text" "LProofSheets$Row;", Cond.fieldLink RX7 29 "ProofSheets$State" "list" "LProofSheets$MarkList;", Cond.fieldLink RX7 61 "ProofSheets$State" "sheetCount" "I", Cond.fieldLink RX7 57 "ProofSheets$State" "round" "I", Cond.methodLink RX7 94 yX7_marksOnSheetsThatAre, Cond.instanceMethod yX7_marksOnSheetsThatAre, Cond.selects RX7 yX7_marksOnSheetsThatAre yX7_marksOnSheetsThatAre, Cond.initialized RX7, Cond.code yX7_marksOnSheetsThatAre cX7_marksOnSheetsThatAre 5 (some .int), Cond.methodLink RX7 64 yX7_sheetNumbered, Cond.instanceMethod yX7_sheetNumbered, Cond.selects RX7 yX7_sheetNumbered yX7_sheetNumbered, Cond.code yX7_sheetNumbered cX7_sheetNumbered 2 (some (.object "ProofSheets$Sheet")), Cond.fieldLink RX7 22 "ProofSheets$State" "sheets" "[LProofSheets$Sheet;", Cond.methodLink RX7 90 yX5_used, Cond.instanceMethod yX5_used, Cond.selects RX5 yX5_used yX5_used, Cond.initialized RX5, Cond.code yX5_used cX5_used 1 (some .int), Cond.fieldLink RX5 13 "ProofSheets$Row" "used" "I", Cond.methodLink RX7 78 yX5_add, Cond.instanceMethod yX5_add, Cond.selects RX5 yX5_add yX5_add]
def wsX7_endRound_r2 : List Cond := [Cond.code yX5_add cX5_add 3 none, Cond.methodLink RX5 21 yX5_get, Cond.instanceMethod yX5_get, Cond.selects RX5 yX5_get yX5_get, Cond.code yX5_get cX5_get 2 (some .int), Cond.fieldLink RX5 7 "ProofSheets$Row" "cells" "[I", Cond.methodLink RX5 17 yX5_hasNot, Cond.instanceMethod yX5_hasNot, Cond.selects RX5 yX5_hasNot yX5_hasNot, Cond.code yX5_hasNot cX5_hasNot 2 (some .boolean), Cond.methodLink RX5 25 yX5_set, Cond.instanceMethod yX5_set, Cond.selects RX5 yX5_set yX5_set, Cond.code yX5_set cX5_set 3 none, Cond.methodLink RX7 50 yX5_copyFrom, Cond.instanceMethod yX5_copyFrom, Cond.selects RX5 yX5_copyFrom yX5_copyFrom, Cond.code yX5_copyFrom cX5_copyFrom 3 none, Cond.methodLink RX7 120 yX2_empty, Cond.instanceMethod yX2_empty, Cond.selects RX2 yX2_empty yX2_empty, Cond.initialized RX2, Cond.code yX2_empty cX2_empty 1 none, Cond.fieldLink RX2 14 "ProofSheets$MarkList" "codes" "LProofSheets$Row;"]
def wsX7_endRound_r3 : List Cond := [Cond.fieldLink RX2 20 "ProofSheets$MarkList" "answers" "LProofSheets$Row;", Cond.fieldLink RX2 23 "ProofSheets$MarkList" "sheetCounts" "LProofSheets$Row;", Cond.fieldLink RX2 26 "ProofSheets$MarkList" "lowestReaders" "LProofSheets$Row;", Cond.methodLink RX2 29 yX5_cutTo, Cond.instanceMethod yX5_cutTo, Cond.selects RX5 yX5_cutTo yX5_cutTo, Cond.code yX5_cutTo cX5_cutTo 2 none]
def wsX7_endRound : List Cond := .code yX7_endRound cX7_endRound 2 none :: ((wsX7_endRound_r1 ++ (wsX7_endRound_r2 ++ wsX7_endRound_r3)) ++ wsX70 ++ wsX60 ++ wsX50 ++ wsX20)
def wsX8_init_r1 : List Cond := [Cond.methodLink RX8 3 objectInit, Cond.instanceMethod objectInit, Cond.code objectInit ⟨#[0xb1]⟩ 1 none, Cond.classLink RX8 9 RX7, Cond.instantiable RX7 9, Cond.initialized RX7, Cond.fieldLink RX8 12 "ProofSheets" "now" "LProofSheets$State;", Cond.classLink RX8 16 RX0, Cond.instantiable RX0 2, Cond.initialized RX0, Cond.fieldLink RX8 19 "ProofSheets" "history" "LProofSheets$History;", Cond.classLink RX8 23 RX3, Cond.instantiable RX3 5, Cond.initialized RX3, Cond.fieldLink RX8 26 "ProofSheets" "markText" "LProofSheets$MarkText;", Cond.classLink RX8 30 RX4, Cond.instantiable RX4 4, Cond.initialized RX4, Cond.fieldLink RX8 33 "ProofSheets" "press" "LProofSheets$Press;", Cond.methodLink RX8 11 yX7_init, Cond.instanceMethod yX7_init, Cond.code yX7_init cX7_init 2 none, Cond.methodLink RX7 3 objectInit, Cond.classLink RX7 9 RX5]
def wsX8_init_r2 : List Cond := [Cond.instantiable RX5 2, Cond.initialized RX5, Cond.fieldLink RX7 14 "ProofSheets$State" "text" "LProofSheets$Row;", Cond.classLink RX7 20 RX6, Cond.fieldLink RX7 22 "ProofSheets$State" "sheets" "[LProofSheets$Sheet;", Cond.classLink RX7 26 RX2, Cond.instantiable RX2 4, Cond.initialized RX2, Cond.fieldLink RX7 29 "ProofSheets$State" "list" "LProofSheets$MarkList;", Cond.fieldLink RX7 33 "ProofSheets$State" "accounts" "LProofSheets$Row;", Cond.fieldLink RX7 36 "ProofSheets$State" "sentTo" "LProofSheets$Row;", Cond.fieldLink RX7 39 "ProofSheets$State" "madeBy" "LProofSheets$Row;", Cond.fieldLink RX7 42 "ProofSheets$State" "mergedOf" "LProofSheets$Row;", Cond.instantiable RX6 3, Cond.initialized RX6, Cond.methodLink RX7 11 yX5_init, Cond.instanceMethod yX5_init, Cond.code yX5_init cX5_init 2 none, Cond.methodLink RX5 1 objectInit, Cond.arrayClass .int, Cond.fieldLink RX5 7 "ProofSheets$Row" "cells" "[I", Cond.instanceMethod yX2_init, Cond.code yX2_init cX2_init 1 none, Cond.methodLink RX2 3 objectInit]
def wsX8_init_r3 : List Cond := [Cond.classLink RX2 9 RX5, Cond.fieldLink RX2 14 "ProofSheets$MarkList" "codes" "LProofSheets$Row;", Cond.fieldLink RX2 20 "ProofSheets$MarkList" "answers" "LProofSheets$Row;", Cond.fieldLink RX2 23 "ProofSheets$MarkList" "sheetCounts" "LProofSheets$Row;", Cond.fieldLink RX2 26 "ProofSheets$MarkList" "lowestReaders" "LProofSheets$Row;", Cond.methodLink RX2 11 yX5_init, Cond.instanceMethod yX6_init, Cond.code yX6_init cX6_init 1 none, Cond.methodLink RX6 3 objectInit, Cond.classLink RX6 9 RX5, Cond.fieldLink RX6 14 "ProofSheets$Sheet" "marks" "LProofSheets$Row;", Cond.methodLink RX6 11 yX5_init, Cond.methodLink RX7 46 yX5_fill, Cond.instanceMethod yX5_fill, Cond.selects RX5 yX5_fill yX5_fill, Cond.code yX5_fill cX5_fill 4 none, Cond.fieldLink RX5 13 "ProofSheets$Row" "used" "I", Cond.methodLink RX5 29 yX5_append, Cond.instanceMethod yX5_append, Cond.selects RX5 yX5_append yX5_append, Cond.code yX5_append cX5_append 2 none, Cond.methodLink RX8 18 yX0_init, Cond.instanceMethod yX0_init, Cond.code yX0_init cX0_init 2 none]
def wsX8_init_r4 : List Cond := [Cond.methodLink RX0 3 objectInit, Cond.classLink RX0 9 RX7, Cond.fieldLink RX0 11 "ProofSheets$History" "states" "[LProofSheets$State;", Cond.methodLink RX0 17 yX7_init, Cond.instanceMethod yX3_init, Cond.code yX3_init cX3_init 1 none, Cond.methodLink RX3 3 objectInit, Cond.classLink RX3 9 RX5, Cond.fieldLink RX3 14 "ProofSheets$MarkText" "signs" "LProofSheets$Row;", Cond.fieldLink RX3 20 "ProofSheets$MarkText" "codes" "LProofSheets$Row;", Cond.methodLink RX3 11 yX5_init, Cond.instanceMethod yX4_init, Cond.code yX4_init cX4_init 1 none, Cond.methodLink RX4 3 objectInit, Cond.classLink RX4 9 RX5, Cond.fieldLink RX4 14 "ProofSheets$Press" "ahead" "LProofSheets$Row;", Cond.fieldLink RX4 20 "ProofSheets$Press" "instead" "LProofSheets$Row;", Cond.fieldLink RX4 23 "ProofSheets$Press" "turns" "LProofSheets$Row;", Cond.fieldLink RX4 26 "ProofSheets$Press" "paper" "LProofSheets$Row;", Cond.methodLink RX4 11 yX5_init]
def wsX8_init : List Cond := .code yX8_init cX8_init 1 none :: ((wsX8_init_r1 ++ (wsX8_init_r2 ++ (wsX8_init_r3 ++ wsX8_init_r4))) ++ wsX70 ++ wsX80 ++ wsX00 ++ wsX30 ++ wsX40 ++ wsX50 ++ wsX20 ++ wsX60)
def wsX8_isNoCharacter : List Cond := .code yX8_isNoCharacter cX8_isNoCharacter 1 (some .boolean) :: ([.methodLink RX8 112 yX8_isOutside, .static yX8_isOutside, .initialized RX8, .code yX8_isOutside cX8_isOutside 3 (some .boolean)])
def wsX8_put_r1 : List Cond := [Cond.fieldLink RX8 12 "ProofSheets" "now" "LProofSheets$State;", Cond.fieldLink RX8 19 "ProofSheets" "history" "LProofSheets$History;", Cond.methodLink RX8 37 yX8_isNoCharacter, Cond.static yX8_isNoCharacter, Cond.initialized RX8, Cond.code yX8_isNoCharacter cX8_isNoCharacter 1 (some .boolean), Cond.methodLink RX8 112 yX8_isOutside, Cond.static yX8_isOutside, Cond.code yX8_isOutside cX8_isOutside 3 (some .boolean), Cond.methodLink RX8 49 yX5_used, Cond.instanceMethod yX5_used, Cond.selects RX5 yX5_used yX5_used, Cond.initialized RX5, Cond.code yX5_used cX5_used 1 (some .int), Cond.fieldLink RX5 13 "ProofSheets$Row" "used" "I", Cond.methodLink RX8 55 yX0_record, Cond.instanceMethod yX0_record, Cond.selects RX0 yX0_record yX0_record, Cond.initialized RX0, Cond.code yX0_record cX0_record 2 none, Cond.fieldLink RX0 18 "ProofSheets$History" "used" "I", Cond.fieldLink RX0 11 "ProofSheets$History" "states" "[LProofSheets$State;", Cond.methodLink RX0 22 yX0_dropOldest, Cond.instanceMethod yX0_dropOldest]
def wsX8_put_r2 : List Cond := [Cond.selects RX0 yX0_dropOldest yX0_dropOldest, Cond.code yX0_dropOldest cX0_dropOldest 3 none, Cond.methodLink RX0 25 yX7_copyFrom, Cond.instanceMethod yX7_copyFrom, Cond.selects RX7 yX7_copyFrom yX7_copyFrom, Cond.initialized RX7, Cond.code yX7_copyFrom cX7_copyFrom 3 none, Cond.fieldLink RX7 14 "ProofSheets$State" "text" "LProofSheets$Row;", Cond.fieldLink RX7 29 "ProofSheets$State" "list" "LProofSheets$MarkList;", Cond.fieldLink RX7 33 "ProofSheets$State" "accounts" "LProofSheets$Row;", Cond.fieldLink RX7 36 "ProofSheets$State" "sentTo" "LProofSheets$Row;", Cond.fieldLink RX7 39 "ProofSheets$State" "madeBy" "LProofSheets$Row;", Cond.fieldLink RX7 42 "ProofSheets$State" "mergedOf" "LProofSheets$Row;", Cond.fieldLink RX7 57 "ProofSheets$State" "round" "I", Cond.fieldLink RX7 61 "ProofSheets$State" "sheetCount" "I", Cond.methodLink RX7 50 yX5_copyFrom, Cond.instanceMethod yX5_copyFrom, Cond.selects RX5 yX5_copyFrom yX5_copyFrom, Cond.code yX5_copyFrom cX5_copyFrom 3 none, Cond.fieldLink RX5 7 "ProofSheets$Row" "cells" "[I", Cond.methodLink RX7 54 yX2_copyFrom, Cond.instanceMethod yX2_copyFrom, Cond.selects RX2 yX2_copyFrom yX2_copyFrom, Cond.initialized RX2]
def wsX8_put_r3 : List Cond := [Cond.code yX2_copyFrom cX2_copyFrom 2 none, Cond.fieldLink RX2 14 "ProofSheets$MarkList" "codes" "LProofSheets$Row;", Cond.fieldLink RX2 20 "ProofSheets$MarkList" "answers" "LProofSheets$Row;", Cond.fieldLink RX2 23 "ProofSheets$MarkList" "sheetCounts" "LProofSheets$Row;", Cond.fieldLink RX2 26 "ProofSheets$MarkList" "lowestReaders" "LProofSheets$Row;", Cond.methodLink RX2 32 yX5_copyFrom, Cond.methodLink RX7 64 yX7_sheetNumbered, Cond.instanceMethod yX7_sheetNumbered, Cond.selects RX7 yX7_sheetNumbered yX7_sheetNumbered, Cond.code yX7_sheetNumbered cX7_sheetNumbered 2 (some (.object "ProofSheets$Sheet")), Cond.fieldLink RX7 22 "ProofSheets$State" "sheets" "[LProofSheets$Sheet;", Cond.methodLink RX7 68 yX7_copySheet, Cond.static yX7_copySheet, Cond.code yX7_copySheet cX7_copySheet 2 none, Cond.methodLink RX7 72 yX6_copyFrom, Cond.instanceMethod yX6_copyFrom, Cond.selects RX6 yX6_copyFrom yX6_copyFrom, Cond.initialized RX6, Cond.code yX6_copyFrom cX6_copyFrom 2 none, Cond.fieldLink RX6 20 "ProofSheets$Sheet" "reader" "I", Cond.fieldLink RX6 24 "ProofSheets$Sheet" "status" "I", Cond.fieldLink RX6 14 "ProofSheets$Sheet" "marks" "LProofSheets$Row;", Cond.methodLink RX6 30 yX5_copyFrom, Cond.methodLink RX8 59 yX5_append]
def wsX8_put_r4 : List Cond := [Cond.instanceMethod yX5_append, Cond.selects RX5 yX5_append yX5_append, Cond.code yX5_append cX5_append 2 none]
def wsX8_put : List Cond := .code yX8_put cX8_put 2 (some .int) :: ((wsX8_put_r1 ++ (wsX8_put_r2 ++ (wsX8_put_r3 ++ wsX8_put_r4))) ++ wsX80 ++ wsX70 ++ wsX50 ++ wsX00 ++ wsX20 ++ wsX60)
def wsX8_begin_r1 : List Cond := [Cond.fieldLink RX8 12 "ProofSheets" "now" "LProofSheets$State;", Cond.fieldLink RX8 19 "ProofSheets" "history" "LProofSheets$History;", Cond.methodLink RX8 49 yX5_used, Cond.instanceMethod yX5_used, Cond.selects RX5 yX5_used yX5_used, Cond.initialized RX5, Cond.code yX5_used cX5_used 1 (some .int), Cond.fieldLink RX5 13 "ProofSheets$Row" "used" "I", Cond.methodLink RX8 55 yX0_record, Cond.instanceMethod yX0_record, Cond.selects RX0 yX0_record yX0_record, Cond.initialized RX0, Cond.code yX0_record cX0_record 2 none, Cond.fieldLink RX0 18 "ProofSheets$History" "used" "I", Cond.fieldLink RX0 11 "ProofSheets$History" "states" "[LProofSheets$State;", Cond.methodLink RX0 22 yX0_dropOldest, Cond.instanceMethod yX0_dropOldest, Cond.selects RX0 yX0_dropOldest yX0_dropOldest, Cond.code yX0_dropOldest cX0_dropOldest 3 none, Cond.methodLink RX0 25 yX7_copyFrom, Cond.instanceMethod yX7_copyFrom, Cond.selects RX7 yX7_copyFrom yX7_copyFrom, Cond.initialized RX7, Cond.code yX7_copyFrom cX7_copyFrom 3 none]
def wsX8_begin_r2 : List Cond := [Cond.fieldLink RX7 14 "ProofSheets$State" "text" "LProofSheets$Row;", Cond.fieldLink RX7 29 "ProofSheets$State" "list" "LProofSheets$MarkList;", Cond.fieldLink RX7 33 "ProofSheets$State" "accounts" "LProofSheets$Row;", Cond.fieldLink RX7 36 "ProofSheets$State" "sentTo" "LProofSheets$Row;", Cond.fieldLink RX7 39 "ProofSheets$State" "madeBy" "LProofSheets$Row;", Cond.fieldLink RX7 42 "ProofSheets$State" "mergedOf" "LProofSheets$Row;", Cond.fieldLink RX7 57 "ProofSheets$State" "round" "I", Cond.fieldLink RX7 61 "ProofSheets$State" "sheetCount" "I", Cond.methodLink RX7 50 yX5_copyFrom, Cond.instanceMethod yX5_copyFrom, Cond.selects RX5 yX5_copyFrom yX5_copyFrom, Cond.code yX5_copyFrom cX5_copyFrom 3 none, Cond.fieldLink RX5 7 "ProofSheets$Row" "cells" "[I", Cond.methodLink RX7 54 yX2_copyFrom, Cond.instanceMethod yX2_copyFrom, Cond.selects RX2 yX2_copyFrom yX2_copyFrom, Cond.initialized RX2, Cond.code yX2_copyFrom cX2_copyFrom 2 none, Cond.fieldLink RX2 14 "ProofSheets$MarkList" "codes" "LProofSheets$Row;", Cond.fieldLink RX2 20 "ProofSheets$MarkList" "answers" "LProofSheets$Row;", Cond.fieldLink RX2 23 "ProofSheets$MarkList" "sheetCounts" "LProofSheets$Row;", Cond.fieldLink RX2 26 "ProofSheets$MarkList" "lowestReaders" "LProofSheets$Row;", Cond.methodLink RX2 32 yX5_copyFrom, Cond.methodLink RX7 64 yX7_sheetNumbered]
def wsX8_begin_r3 : List Cond := [Cond.instanceMethod yX7_sheetNumbered, Cond.selects RX7 yX7_sheetNumbered yX7_sheetNumbered, Cond.code yX7_sheetNumbered cX7_sheetNumbered 2 (some (.object "ProofSheets$Sheet")), Cond.fieldLink RX7 22 "ProofSheets$State" "sheets" "[LProofSheets$Sheet;", Cond.methodLink RX7 68 yX7_copySheet, Cond.static yX7_copySheet, Cond.code yX7_copySheet cX7_copySheet 2 none, Cond.methodLink RX7 72 yX6_copyFrom, Cond.instanceMethod yX6_copyFrom, Cond.selects RX6 yX6_copyFrom yX6_copyFrom, Cond.initialized RX6, Cond.code yX6_copyFrom cX6_copyFrom 2 none, Cond.fieldLink RX6 20 "ProofSheets$Sheet" "reader" "I", Cond.fieldLink RX6 24 "ProofSheets$Sheet" "status" "I", Cond.fieldLink RX6 14 "ProofSheets$Sheet" "marks" "LProofSheets$Row;", Cond.methodLink RX6 30 yX5_copyFrom]
def wsX8_begin : List Cond := .code yX8_begin cX8_begin 1 (some .int) :: ((wsX8_begin_r1 ++ (wsX8_begin_r2 ++ wsX8_begin_r3)) ++ wsX80 ++ wsX70 ++ wsX50 ++ wsX00 ++ wsX20 ++ wsX60)
def wsX8_isNoReader : List Cond := .code yX8_isNoReader cX8_isNoReader 1 (some .boolean) :: ([.methodLink RX8 112 yX8_isOutside, .static yX8_isOutside, .initialized RX8, .code yX8_isOutside cX8_isOutside 3 (some .boolean)])
def wsX8_send_r1 : List Cond := [Cond.fieldLink RX8 12 "ProofSheets" "now" "LProofSheets$State;", Cond.fieldLink RX8 19 "ProofSheets" "history" "LProofSheets$History;", Cond.methodLink RX8 63 yX8_isNoReader, Cond.static yX8_isNoReader, Cond.initialized RX8, Cond.code yX8_isNoReader cX8_isNoReader 1 (some .boolean), Cond.methodLink RX8 112 yX8_isOutside, Cond.static yX8_isOutside, Cond.code yX8_isOutside cX8_isOutside 3 (some .boolean), Cond.methodLink RX8 66 yX7_hasSheetOut, Cond.instanceMethod yX7_hasSheetOut, Cond.selects RX7 yX7_hasSheetOut yX7_hasSheetOut, Cond.initialized RX7, Cond.code yX7_hasSheetOut cX7_hasSheetOut 4 (some .boolean), Cond.fieldLink RX7 61 "ProofSheets$State" "sheetCount" "I", Cond.methodLink RX7 64 yX7_sheetNumbered, Cond.instanceMethod yX7_sheetNumbered, Cond.selects RX7 yX7_sheetNumbered yX7_sheetNumbered, Cond.code yX7_sheetNumbered cX7_sheetNumbered 2 (some (.object "ProofSheets$Sheet")), Cond.fieldLink RX7 22 "ProofSheets$State" "sheets" "[LProofSheets$Sheet;", Cond.methodLink RX8 55 yX0_record, Cond.instanceMethod yX0_record, Cond.selects RX0 yX0_record yX0_record, Cond.initialized RX0]
def wsX8_send_r2 : List Cond := [Cond.code yX0_record cX0_record 2 none, Cond.fieldLink RX0 18 "ProofSheets$History" "used" "I", Cond.fieldLink RX0 11 "ProofSheets$History" "states" "[LProofSheets$State;", Cond.methodLink RX0 22 yX0_dropOldest, Cond.instanceMethod yX0_dropOldest, Cond.selects RX0 yX0_dropOldest yX0_dropOldest, Cond.code yX0_dropOldest cX0_dropOldest 3 none, Cond.methodLink RX0 25 yX7_copyFrom, Cond.instanceMethod yX7_copyFrom, Cond.selects RX7 yX7_copyFrom yX7_copyFrom, Cond.code yX7_copyFrom cX7_copyFrom 3 none, Cond.fieldLink RX7 14 "ProofSheets$State" "text" "LProofSheets$Row;", Cond.fieldLink RX7 29 "ProofSheets$State" "list" "LProofSheets$MarkList;", Cond.fieldLink RX7 33 "ProofSheets$State" "accounts" "LProofSheets$Row;", Cond.fieldLink RX7 36 "ProofSheets$State" "sentTo" "LProofSheets$Row;", Cond.fieldLink RX7 39 "ProofSheets$State" "madeBy" "LProofSheets$Row;", Cond.fieldLink RX7 42 "ProofSheets$State" "mergedOf" "LProofSheets$Row;", Cond.fieldLink RX7 57 "ProofSheets$State" "round" "I", Cond.methodLink RX7 50 yX5_copyFrom, Cond.instanceMethod yX5_copyFrom, Cond.selects RX5 yX5_copyFrom yX5_copyFrom, Cond.initialized RX5, Cond.code yX5_copyFrom cX5_copyFrom 3 none, Cond.fieldLink RX5 13 "ProofSheets$Row" "used" "I"]
def wsX8_send_r3 : List Cond := [Cond.fieldLink RX5 7 "ProofSheets$Row" "cells" "[I", Cond.methodLink RX7 54 yX2_copyFrom, Cond.instanceMethod yX2_copyFrom, Cond.selects RX2 yX2_copyFrom yX2_copyFrom, Cond.initialized RX2, Cond.code yX2_copyFrom cX2_copyFrom 2 none, Cond.fieldLink RX2 14 "ProofSheets$MarkList" "codes" "LProofSheets$Row;", Cond.fieldLink RX2 20 "ProofSheets$MarkList" "answers" "LProofSheets$Row;", Cond.fieldLink RX2 23 "ProofSheets$MarkList" "sheetCounts" "LProofSheets$Row;", Cond.fieldLink RX2 26 "ProofSheets$MarkList" "lowestReaders" "LProofSheets$Row;", Cond.methodLink RX2 32 yX5_copyFrom, Cond.methodLink RX7 68 yX7_copySheet, Cond.static yX7_copySheet, Cond.code yX7_copySheet cX7_copySheet 2 none, Cond.methodLink RX7 72 yX6_copyFrom, Cond.instanceMethod yX6_copyFrom, Cond.selects RX6 yX6_copyFrom yX6_copyFrom, Cond.initialized RX6, Cond.code yX6_copyFrom cX6_copyFrom 2 none, Cond.fieldLink RX6 20 "ProofSheets$Sheet" "reader" "I", Cond.fieldLink RX6 24 "ProofSheets$Sheet" "status" "I", Cond.fieldLink RX6 14 "ProofSheets$Sheet" "marks" "LProofSheets$Row;", Cond.methodLink RX6 30 yX5_copyFrom, Cond.methodLink RX8 72 yX7_addSheet]
def wsX8_send_r4 : List Cond := [Cond.instanceMethod yX7_addSheet, Cond.selects RX7 yX7_addSheet yX7_addSheet, Cond.code yX7_addSheet cX7_addSheet 3 (some .int), Cond.methodLink RX7 75 yX6_startFor, Cond.instanceMethod yX6_startFor, Cond.selects RX6 yX6_startFor yX6_startFor, Cond.code yX6_startFor cX6_startFor 2 none, Cond.methodLink RX6 27 yX5_cutTo, Cond.instanceMethod yX5_cutTo, Cond.selects RX5 yX5_cutTo yX5_cutTo, Cond.code yX5_cutTo cX5_cutTo 2 none, Cond.methodLink RX7 78 yX5_add, Cond.instanceMethod yX5_add, Cond.selects RX5 yX5_add yX5_add, Cond.code yX5_add cX5_add 3 none, Cond.methodLink RX5 21 yX5_get, Cond.instanceMethod yX5_get, Cond.selects RX5 yX5_get yX5_get, Cond.code yX5_get cX5_get 2 (some .int), Cond.methodLink RX5 17 yX5_hasNot, Cond.instanceMethod yX5_hasNot, Cond.selects RX5 yX5_hasNot yX5_hasNot, Cond.code yX5_hasNot cX5_hasNot 2 (some .boolean), Cond.methodLink RX5 25 yX5_set]
def wsX8_send_r5 : List Cond := [Cond.instanceMethod yX5_set, Cond.selects RX5 yX5_set yX5_set, Cond.code yX5_set cX5_set 3 none]
def wsX8_send : List Cond := .code yX8_send cX8_send 2 (some .int) :: ((wsX8_send_r1 ++ (wsX8_send_r2 ++ (wsX8_send_r3 ++ (wsX8_send_r4 ++ wsX8_send_r5)))) ++ wsX80 ++ wsX70 ++ wsX60 ++ wsX00 ++ wsX50 ++ wsX20)
def wsX8_putSheet_r1 : List Cond := [Cond.fieldLink RX8 19 "ProofSheets" "history" "LProofSheets$History;", Cond.fieldLink RX8 12 "ProofSheets" "now" "LProofSheets$State;", Cond.methodLink RX8 55 yX0_record, Cond.instanceMethod yX0_record, Cond.selects RX0 yX0_record yX0_record, Cond.initialized RX0, Cond.code yX0_record cX0_record 2 none, Cond.fieldLink RX0 18 "ProofSheets$History" "used" "I", Cond.fieldLink RX0 11 "ProofSheets$History" "states" "[LProofSheets$State;", Cond.methodLink RX0 22 yX0_dropOldest, Cond.instanceMethod yX0_dropOldest, Cond.selects RX0 yX0_dropOldest yX0_dropOldest, Cond.code yX0_dropOldest cX0_dropOldest 3 none, Cond.methodLink RX0 25 yX7_copyFrom, Cond.instanceMethod yX7_copyFrom, Cond.selects RX7 yX7_copyFrom yX7_copyFrom, Cond.initialized RX7, Cond.code yX7_copyFrom cX7_copyFrom 3 none, Cond.fieldLink RX7 14 "ProofSheets$State" "text" "LProofSheets$Row;", Cond.fieldLink RX7 29 "ProofSheets$State" "list" "LProofSheets$MarkList;", Cond.fieldLink RX7 33 "ProofSheets$State" "accounts" "LProofSheets$Row;", Cond.fieldLink RX7 36 "ProofSheets$State" "sentTo" "LProofSheets$Row;", Cond.fieldLink RX7 39 "ProofSheets$State" "madeBy" "LProofSheets$Row;", Cond.fieldLink RX7 42 "ProofSheets$State" "mergedOf" "LProofSheets$Row;"]
def wsX8_putSheet_r2 : List Cond := [Cond.fieldLink RX7 57 "ProofSheets$State" "round" "I", Cond.fieldLink RX7 61 "ProofSheets$State" "sheetCount" "I", Cond.methodLink RX7 50 yX5_copyFrom, Cond.instanceMethod yX5_copyFrom, Cond.selects RX5 yX5_copyFrom yX5_copyFrom, Cond.initialized RX5, Cond.code yX5_copyFrom cX5_copyFrom 3 none, Cond.fieldLink RX5 13 "ProofSheets$Row" "used" "I", Cond.fieldLink RX5 7 "ProofSheets$Row" "cells" "[I", Cond.methodLink RX7 54 yX2_copyFrom, Cond.instanceMethod yX2_copyFrom, Cond.selects RX2 yX2_copyFrom yX2_copyFrom, Cond.initialized RX2, Cond.code yX2_copyFrom cX2_copyFrom 2 none, Cond.fieldLink RX2 14 "ProofSheets$MarkList" "codes" "LProofSheets$Row;", Cond.fieldLink RX2 20 "ProofSheets$MarkList" "answers" "LProofSheets$Row;", Cond.fieldLink RX2 23 "ProofSheets$MarkList" "sheetCounts" "LProofSheets$Row;", Cond.fieldLink RX2 26 "ProofSheets$MarkList" "lowestReaders" "LProofSheets$Row;", Cond.methodLink RX2 32 yX5_copyFrom, Cond.methodLink RX7 64 yX7_sheetNumbered, Cond.instanceMethod yX7_sheetNumbered, Cond.selects RX7 yX7_sheetNumbered yX7_sheetNumbered, Cond.code yX7_sheetNumbered cX7_sheetNumbered 2 (some (.object "ProofSheets$Sheet")), Cond.fieldLink RX7 22 "ProofSheets$State" "sheets" "[LProofSheets$Sheet;"]
def wsX8_putSheet_r3 : List Cond := [Cond.methodLink RX7 68 yX7_copySheet, Cond.static yX7_copySheet, Cond.code yX7_copySheet cX7_copySheet 2 none, Cond.methodLink RX7 72 yX6_copyFrom, Cond.instanceMethod yX6_copyFrom, Cond.selects RX6 yX6_copyFrom yX6_copyFrom, Cond.initialized RX6, Cond.code yX6_copyFrom cX6_copyFrom 2 none, Cond.fieldLink RX6 20 "ProofSheets$Sheet" "reader" "I", Cond.fieldLink RX6 24 "ProofSheets$Sheet" "status" "I", Cond.fieldLink RX6 14 "ProofSheets$Sheet" "marks" "LProofSheets$Row;", Cond.methodLink RX6 30 yX5_copyFrom, Cond.methodLink RX8 49 yX5_used, Cond.instanceMethod yX5_used, Cond.selects RX5 yX5_used yX5_used, Cond.code yX5_used cX5_used 1 (some .int)]
def wsX8_putSheet : List Cond := .code yX8_putSheet cX8_putSheet 3 (some .int) :: ((wsX8_putSheet_r1 ++ (wsX8_putSheet_r2 ++ wsX8_putSheet_r3)) ++ wsX80 ++ wsX60 ++ wsX00 ++ wsX70 ++ wsX50 ++ wsX20)
def wsX8_bring_r1 : List Cond := [Cond.fieldLink RX8 12 "ProofSheets" "now" "LProofSheets$State;", Cond.methodLink RX8 76 yX7_sheetNumbered, Cond.instanceMethod yX7_sheetNumbered, Cond.selects RX7 yX7_sheetNumbered yX7_sheetNumbered, Cond.initialized RX7, Cond.code yX7_sheetNumbered cX7_sheetNumbered 2 (some (.object "ProofSheets$Sheet")), Cond.fieldLink RX7 61 "ProofSheets$State" "sheetCount" "I", Cond.fieldLink RX7 22 "ProofSheets$State" "sheets" "[LProofSheets$Sheet;", Cond.methodLink RX8 85 yX8_putSheet, Cond.instanceMethod yX8_putSheet, Cond.selects RX8 yX8_putSheet yX8_putSheet, Cond.initialized RX8, Cond.code yX8_putSheet cX8_putSheet 3 (some .int), Cond.fieldLink RX8 19 "ProofSheets" "history" "LProofSheets$History;", Cond.methodLink RX8 55 yX0_record, Cond.instanceMethod yX0_record, Cond.selects RX0 yX0_record yX0_record, Cond.initialized RX0, Cond.code yX0_record cX0_record 2 none, Cond.fieldLink RX0 18 "ProofSheets$History" "used" "I", Cond.fieldLink RX0 11 "ProofSheets$History" "states" "[LProofSheets$State;", Cond.methodLink RX0 22 yX0_dropOldest, Cond.instanceMethod yX0_dropOldest, Cond.selects RX0 yX0_dropOldest yX0_dropOldest]
def wsX8_bring_r2 : List Cond := [Cond.code yX0_dropOldest cX0_dropOldest 3 none, Cond.methodLink RX0 25 yX7_copyFrom, Cond.instanceMethod yX7_copyFrom, Cond.selects RX7 yX7_copyFrom yX7_copyFrom, Cond.code yX7_copyFrom cX7_copyFrom 3 none, Cond.fieldLink RX7 14 "ProofSheets$State" "text" "LProofSheets$Row;", Cond.fieldLink RX7 29 "ProofSheets$State" "list" "LProofSheets$MarkList;", Cond.fieldLink RX7 33 "ProofSheets$State" "accounts" "LProofSheets$Row;", Cond.fieldLink RX7 36 "ProofSheets$State" "sentTo" "LProofSheets$Row;", Cond.fieldLink RX7 39 "ProofSheets$State" "madeBy" "LProofSheets$Row;", Cond.fieldLink RX7 42 "ProofSheets$State" "mergedOf" "LProofSheets$Row;", Cond.fieldLink RX7 57 "ProofSheets$State" "round" "I", Cond.methodLink RX7 50 yX5_copyFrom, Cond.instanceMethod yX5_copyFrom, Cond.selects RX5 yX5_copyFrom yX5_copyFrom, Cond.initialized RX5, Cond.code yX5_copyFrom cX5_copyFrom 3 none, Cond.fieldLink RX5 13 "ProofSheets$Row" "used" "I", Cond.fieldLink RX5 7 "ProofSheets$Row" "cells" "[I", Cond.methodLink RX7 54 yX2_copyFrom, Cond.instanceMethod yX2_copyFrom, Cond.selects RX2 yX2_copyFrom yX2_copyFrom, Cond.initialized RX2, Cond.code yX2_copyFrom cX2_copyFrom 2 none]
def wsX8_bring_r3 : List Cond := [Cond.fieldLink RX2 14 "ProofSheets$MarkList" "codes" "LProofSheets$Row;", Cond.fieldLink RX2 20 "ProofSheets$MarkList" "answers" "LProofSheets$Row;", Cond.fieldLink RX2 23 "ProofSheets$MarkList" "sheetCounts" "LProofSheets$Row;", Cond.fieldLink RX2 26 "ProofSheets$MarkList" "lowestReaders" "LProofSheets$Row;", Cond.methodLink RX2 32 yX5_copyFrom, Cond.methodLink RX7 64 yX7_sheetNumbered, Cond.methodLink RX7 68 yX7_copySheet, Cond.static yX7_copySheet, Cond.code yX7_copySheet cX7_copySheet 2 none, Cond.methodLink RX7 72 yX6_copyFrom, Cond.instanceMethod yX6_copyFrom, Cond.selects RX6 yX6_copyFrom yX6_copyFrom, Cond.initialized RX6, Cond.code yX6_copyFrom cX6_copyFrom 2 none, Cond.fieldLink RX6 20 "ProofSheets$Sheet" "reader" "I", Cond.fieldLink RX6 24 "ProofSheets$Sheet" "status" "I", Cond.fieldLink RX6 14 "ProofSheets$Sheet" "marks" "LProofSheets$Row;", Cond.methodLink RX6 30 yX5_copyFrom, Cond.methodLink RX8 49 yX5_used, Cond.instanceMethod yX5_used, Cond.selects RX5 yX5_used yX5_used, Cond.code yX5_used cX5_used 1 (some .int)]
def wsX8_bring : List Cond := .code yX8_bring cX8_bring 3 (some .int) :: ((wsX8_bring_r1 ++ (wsX8_bring_r2 ++ wsX8_bring_r3)) ++ wsX80 ++ wsX60 ++ wsX70 ++ wsX00 ++ wsX50 ++ wsX20)
def wsX8_lose_r1 : List Cond := [Cond.fieldLink RX8 12 "ProofSheets" "now" "LProofSheets$State;", Cond.methodLink RX8 76 yX7_sheetNumbered, Cond.instanceMethod yX7_sheetNumbered, Cond.selects RX7 yX7_sheetNumbered yX7_sheetNumbered, Cond.initialized RX7, Cond.code yX7_sheetNumbered cX7_sheetNumbered 2 (some (.object "ProofSheets$Sheet")), Cond.fieldLink RX7 61 "ProofSheets$State" "sheetCount" "I", Cond.fieldLink RX7 22 "ProofSheets$State" "sheets" "[LProofSheets$Sheet;", Cond.methodLink RX8 85 yX8_putSheet, Cond.instanceMethod yX8_putSheet, Cond.selects RX8 yX8_putSheet yX8_putSheet, Cond.initialized RX8, Cond.code yX8_putSheet cX8_putSheet 3 (some .int), Cond.fieldLink RX8 19 "ProofSheets" "history" "LProofSheets$History;", Cond.methodLink RX8 55 yX0_record, Cond.instanceMethod yX0_record, Cond.selects RX0 yX0_record yX0_record, Cond.initialized RX0, Cond.code yX0_record cX0_record 2 none, Cond.fieldLink RX0 18 "ProofSheets$History" "used" "I", Cond.fieldLink RX0 11 "ProofSheets$History" "states" "[LProofSheets$State;", Cond.methodLink RX0 22 yX0_dropOldest, Cond.instanceMethod yX0_dropOldest, Cond.selects RX0 yX0_dropOldest yX0_dropOldest]
def wsX8_lose_r2 : List Cond := [Cond.code yX0_dropOldest cX0_dropOldest 3 none, Cond.methodLink RX0 25 yX7_copyFrom, Cond.instanceMethod yX7_copyFrom, Cond.selects RX7 yX7_copyFrom yX7_copyFrom, Cond.code yX7_copyFrom cX7_copyFrom 3 none, Cond.fieldLink RX7 14 "ProofSheets$State" "text" "LProofSheets$Row;", Cond.fieldLink RX7 29 "ProofSheets$State" "list" "LProofSheets$MarkList;", Cond.fieldLink RX7 33 "ProofSheets$State" "accounts" "LProofSheets$Row;", Cond.fieldLink RX7 36 "ProofSheets$State" "sentTo" "LProofSheets$Row;", Cond.fieldLink RX7 39 "ProofSheets$State" "madeBy" "LProofSheets$Row;", Cond.fieldLink RX7 42 "ProofSheets$State" "mergedOf" "LProofSheets$Row;", Cond.fieldLink RX7 57 "ProofSheets$State" "round" "I", Cond.methodLink RX7 50 yX5_copyFrom, Cond.instanceMethod yX5_copyFrom, Cond.selects RX5 yX5_copyFrom yX5_copyFrom, Cond.initialized RX5, Cond.code yX5_copyFrom cX5_copyFrom 3 none, Cond.fieldLink RX5 13 "ProofSheets$Row" "used" "I", Cond.fieldLink RX5 7 "ProofSheets$Row" "cells" "[I", Cond.methodLink RX7 54 yX2_copyFrom, Cond.instanceMethod yX2_copyFrom, Cond.selects RX2 yX2_copyFrom yX2_copyFrom, Cond.initialized RX2, Cond.code yX2_copyFrom cX2_copyFrom 2 none]
def wsX8_lose_r3 : List Cond := [Cond.fieldLink RX2 14 "ProofSheets$MarkList" "codes" "LProofSheets$Row;", Cond.fieldLink RX2 20 "ProofSheets$MarkList" "answers" "LProofSheets$Row;", Cond.fieldLink RX2 23 "ProofSheets$MarkList" "sheetCounts" "LProofSheets$Row;", Cond.fieldLink RX2 26 "ProofSheets$MarkList" "lowestReaders" "LProofSheets$Row;", Cond.methodLink RX2 32 yX5_copyFrom, Cond.methodLink RX7 64 yX7_sheetNumbered, Cond.methodLink RX7 68 yX7_copySheet, Cond.static yX7_copySheet, Cond.code yX7_copySheet cX7_copySheet 2 none, Cond.methodLink RX7 72 yX6_copyFrom, Cond.instanceMethod yX6_copyFrom, Cond.selects RX6 yX6_copyFrom yX6_copyFrom, Cond.initialized RX6, Cond.code yX6_copyFrom cX6_copyFrom 2 none, Cond.fieldLink RX6 20 "ProofSheets$Sheet" "reader" "I", Cond.fieldLink RX6 24 "ProofSheets$Sheet" "status" "I", Cond.fieldLink RX6 14 "ProofSheets$Sheet" "marks" "LProofSheets$Row;", Cond.methodLink RX6 30 yX5_copyFrom, Cond.methodLink RX8 49 yX5_used, Cond.instanceMethod yX5_used, Cond.selects RX5 yX5_used yX5_used, Cond.code yX5_used cX5_used 1 (some .int)]
def wsX8_lose : List Cond := .code yX8_lose cX8_lose 3 (some .int) :: ((wsX8_lose_r1 ++ (wsX8_lose_r2 ++ wsX8_lose_r3)) ++ wsX80 ++ wsX60 ++ wsX70 ++ wsX00 ++ wsX50 ++ wsX20)
def wsX8_find_r1 : List Cond := [Cond.fieldLink RX8 12 "ProofSheets" "now" "LProofSheets$State;", Cond.methodLink RX8 76 yX7_sheetNumbered, Cond.instanceMethod yX7_sheetNumbered, Cond.selects RX7 yX7_sheetNumbered yX7_sheetNumbered, Cond.initialized RX7, Cond.code yX7_sheetNumbered cX7_sheetNumbered 2 (some (.object "ProofSheets$Sheet")), Cond.fieldLink RX7 61 "ProofSheets$State" "sheetCount" "I", Cond.fieldLink RX7 22 "ProofSheets$State" "sheets" "[LProofSheets$Sheet;", Cond.methodLink RX8 85 yX8_putSheet, Cond.instanceMethod yX8_putSheet, Cond.selects RX8 yX8_putSheet yX8_putSheet, Cond.initialized RX8, Cond.code yX8_putSheet cX8_putSheet 3 (some .int), Cond.fieldLink RX8 19 "ProofSheets" "history" "LProofSheets$History;", Cond.methodLink RX8 55 yX0_record, Cond.instanceMethod yX0_record, Cond.selects RX0 yX0_record yX0_record, Cond.initialized RX0, Cond.code yX0_record cX0_record 2 none, Cond.fieldLink RX0 18 "ProofSheets$History" "used" "I", Cond.fieldLink RX0 11 "ProofSheets$History" "states" "[LProofSheets$State;", Cond.methodLink RX0 22 yX0_dropOldest, Cond.instanceMethod yX0_dropOldest, Cond.selects RX0 yX0_dropOldest yX0_dropOldest]
def wsX8_find_r2 : List Cond := [Cond.code yX0_dropOldest cX0_dropOldest 3 none, Cond.methodLink RX0 25 yX7_copyFrom, Cond.instanceMethod yX7_copyFrom, Cond.selects RX7 yX7_copyFrom yX7_copyFrom, Cond.code yX7_copyFrom cX7_copyFrom 3 none, Cond.fieldLink RX7 14 "ProofSheets$State" "text" "LProofSheets$Row;", Cond.fieldLink RX7 29 "ProofSheets$State" "list" "LProofSheets$MarkList;", Cond.fieldLink RX7 33 "ProofSheets$State" "accounts" "LProofSheets$Row;", Cond.fieldLink RX7 36 "ProofSheets$State" "sentTo" "LProofSheets$Row;", Cond.fieldLink RX7 39 "ProofSheets$State" "madeBy" "LProofSheets$Row;", Cond.fieldLink RX7 42 "ProofSheets$State" "mergedOf" "LProofSheets$Row;", Cond.fieldLink RX7 57 "ProofSheets$State" "round" "I", Cond.methodLink RX7 50 yX5_copyFrom, Cond.instanceMethod yX5_copyFrom, Cond.selects RX5 yX5_copyFrom yX5_copyFrom, Cond.initialized RX5, Cond.code yX5_copyFrom cX5_copyFrom 3 none, Cond.fieldLink RX5 13 "ProofSheets$Row" "used" "I", Cond.fieldLink RX5 7 "ProofSheets$Row" "cells" "[I", Cond.methodLink RX7 54 yX2_copyFrom, Cond.instanceMethod yX2_copyFrom, Cond.selects RX2 yX2_copyFrom yX2_copyFrom, Cond.initialized RX2, Cond.code yX2_copyFrom cX2_copyFrom 2 none]
def wsX8_find_r3 : List Cond := [Cond.fieldLink RX2 14 "ProofSheets$MarkList" "codes" "LProofSheets$Row;", Cond.fieldLink RX2 20 "ProofSheets$MarkList" "answers" "LProofSheets$Row;", Cond.fieldLink RX2 23 "ProofSheets$MarkList" "sheetCounts" "LProofSheets$Row;", Cond.fieldLink RX2 26 "ProofSheets$MarkList" "lowestReaders" "LProofSheets$Row;", Cond.methodLink RX2 32 yX5_copyFrom, Cond.methodLink RX7 64 yX7_sheetNumbered, Cond.methodLink RX7 68 yX7_copySheet, Cond.static yX7_copySheet, Cond.code yX7_copySheet cX7_copySheet 2 none, Cond.methodLink RX7 72 yX6_copyFrom, Cond.instanceMethod yX6_copyFrom, Cond.selects RX6 yX6_copyFrom yX6_copyFrom, Cond.initialized RX6, Cond.code yX6_copyFrom cX6_copyFrom 2 none, Cond.fieldLink RX6 20 "ProofSheets$Sheet" "reader" "I", Cond.fieldLink RX6 24 "ProofSheets$Sheet" "status" "I", Cond.fieldLink RX6 14 "ProofSheets$Sheet" "marks" "LProofSheets$Row;", Cond.methodLink RX6 30 yX5_copyFrom, Cond.methodLink RX8 49 yX5_used, Cond.instanceMethod yX5_used, Cond.selects RX5 yX5_used yX5_used, Cond.code yX5_used cX5_used 1 (some .int)]
def wsX8_find : List Cond := .code yX8_find cX8_find 3 (some .int) :: ((wsX8_find_r1 ++ (wsX8_find_r2 ++ wsX8_find_r3)) ++ wsX80 ++ wsX60 ++ wsX70 ++ wsX00 ++ wsX50 ++ wsX20)
def wsX8_merge_r1 : List Cond := [Cond.fieldLink RX8 12 "ProofSheets" "now" "LProofSheets$State;", Cond.fieldLink RX8 19 "ProofSheets" "history" "LProofSheets$History;", Cond.methodLink RX8 76 yX7_sheetNumbered, Cond.instanceMethod yX7_sheetNumbered, Cond.selects RX7 yX7_sheetNumbered yX7_sheetNumbered, Cond.initialized RX7, Cond.code yX7_sheetNumbered cX7_sheetNumbered 2 (some (.object "ProofSheets$Sheet")), Cond.fieldLink RX7 61 "ProofSheets$State" "sheetCount" "I", Cond.fieldLink RX7 22 "ProofSheets$State" "sheets" "[LProofSheets$Sheet;", Cond.methodLink RX8 55 yX0_record, Cond.instanceMethod yX0_record, Cond.selects RX0 yX0_record yX0_record, Cond.initialized RX0, Cond.code yX0_record cX0_record 2 none, Cond.fieldLink RX0 18 "ProofSheets$History" "used" "I", Cond.fieldLink RX0 11 "ProofSheets$History" "states" "[LProofSheets$State;", Cond.methodLink RX0 22 yX0_dropOldest, Cond.instanceMethod yX0_dropOldest, Cond.selects RX0 yX0_dropOldest yX0_dropOldest, Cond.code yX0_dropOldest cX0_dropOldest 3 none, Cond.methodLink RX0 25 yX7_copyFrom, Cond.instanceMethod yX7_copyFrom, Cond.selects RX7 yX7_copyFrom yX7_copyFrom, Cond.code yX7_copyFrom cX7_copyFrom 3 none]
def wsX8_merge_r2 : List Cond := [Cond.fieldLink RX7 14 "ProofSheets$State" "text" "LProofSheets$Row;", Cond.fieldLink RX7 29 "ProofSheets$State" "list" "LProofSheets$MarkList;", Cond.fieldLink RX7 33 "ProofSheets$State" "accounts" "LProofSheets$Row;", Cond.fieldLink RX7 36 "ProofSheets$State" "sentTo" "LProofSheets$Row;", Cond.fieldLink RX7 39 "ProofSheets$State" "madeBy" "LProofSheets$Row;", Cond.fieldLink RX7 42 "ProofSheets$State" "mergedOf" "LProofSheets$Row;", Cond.fieldLink RX7 57 "ProofSheets$State" "round" "I", Cond.methodLink RX7 50 yX5_copyFrom, Cond.instanceMethod yX5_copyFrom, Cond.selects RX5 yX5_copyFrom yX5_copyFrom, Cond.initialized RX5, Cond.code yX5_copyFrom cX5_copyFrom 3 none, Cond.fieldLink RX5 13 "ProofSheets$Row" "used" "I", Cond.fieldLink RX5 7 "ProofSheets$Row" "cells" "[I", Cond.methodLink RX7 54 yX2_copyFrom, Cond.instanceMethod yX2_copyFrom, Cond.selects RX2 yX2_copyFrom yX2_copyFrom, Cond.initialized RX2, Cond.code yX2_copyFrom cX2_copyFrom 2 none, Cond.fieldLink RX2 14 "ProofSheets$MarkList" "codes" "LProofSheets$Row;", Cond.fieldLink RX2 20 "ProofSheets$MarkList" "answers" "LProofSheets$Row;", Cond.fieldLink RX2 23 "ProofSheets$MarkList" "sheetCounts" "LProofSheets$Row;", Cond.fieldLink RX2 26 "ProofSheets$MarkList" "lowestReaders" "LProofSheets$Row;", Cond.methodLink RX2 32 yX5_copyFrom]
def wsX8_merge_r3 : List Cond := [Cond.methodLink RX7 64 yX7_sheetNumbered, Cond.methodLink RX7 68 yX7_copySheet, Cond.static yX7_copySheet, Cond.code yX7_copySheet cX7_copySheet 2 none, Cond.methodLink RX7 72 yX6_copyFrom, Cond.instanceMethod yX6_copyFrom, Cond.selects RX6 yX6_copyFrom yX6_copyFrom, Cond.initialized RX6, Cond.code yX6_copyFrom cX6_copyFrom 2 none, Cond.fieldLink RX6 20 "ProofSheets$Sheet" "reader" "I", Cond.fieldLink RX6 24 "ProofSheets$Sheet" "status" "I", Cond.fieldLink RX6 14 "ProofSheets$Sheet" "marks" "LProofSheets$Row;", Cond.methodLink RX6 30 yX5_copyFrom, Cond.methodLink RX8 89 yX7_mergeMarksOf, Cond.instanceMethod yX7_mergeMarksOf, Cond.selects RX7 yX7_mergeMarksOf yX7_mergeMarksOf, Cond.code yX7_mergeMarksOf cX7_mergeMarksOf 4 (some .int), Cond.methodLink RX7 90 yX5_used, Cond.instanceMethod yX5_used, Cond.selects RX5 yX5_used yX5_used, Cond.code yX5_used cX5_used 1 (some .int), Cond.methodLink RX7 101 yX5_get, Cond.instanceMethod yX5_get, Cond.selects RX5 yX5_get yX5_get]
def wsX8_merge_r4 : List Cond := [Cond.code yX5_get cX5_get 2 (some .int), Cond.methodLink RX5 17 yX5_hasNot, Cond.instanceMethod yX5_hasNot, Cond.selects RX5 yX5_hasNot yX5_hasNot, Cond.code yX5_hasNot cX5_hasNot 2 (some .boolean), Cond.methodLink RX7 107 yX2_take, Cond.instanceMethod yX2_take, Cond.selects RX2 yX2_take yX2_take, Cond.code yX2_take cX2_take 4 (some .boolean), Cond.methodLink RX2 55 Lib.Math.min.name, Cond.static Lib.Math.min.name, Cond.initialized "java/lang/Math", Cond.code Lib.Math.min.name Lib.Math.min.code 2 (some .int), Cond.methodLink RX2 44 yX5_placeOf, Cond.instanceMethod yX5_placeOf, Cond.selects RX5 yX5_placeOf yX5_placeOf, Cond.code yX5_placeOf cX5_placeOf 3 (some .int), Cond.methodLink RX5 21 yX5_get, Cond.methodLink RX2 48 yX5_add, Cond.instanceMethod yX5_add, Cond.selects RX5 yX5_add yX5_add, Cond.code yX5_add cX5_add 3 none, Cond.methodLink RX5 25 yX5_set, Cond.instanceMethod yX5_set]
def wsX8_merge_r5 : List Cond := [Cond.selects RX5 yX5_set yX5_set, Cond.code yX5_set cX5_set 3 none, Cond.methodLink RX2 52 yX5_get, Cond.methodLink RX2 61 yX5_set, Cond.methodLink RX2 64 yX5_append, Cond.instanceMethod yX5_append, Cond.selects RX5 yX5_append yX5_append, Cond.code yX5_append cX5_append 2 none, Cond.methodLink RX7 78 yX5_add]
def wsX8_merge : List Cond := .code yX8_merge cX8_merge 3 (some .int) :: ((wsX8_merge_r1 ++ (wsX8_merge_r2 ++ (wsX8_merge_r3 ++ (wsX8_merge_r4 ++ wsX8_merge_r5)))) ++ wsX80 ++ wsX60 ++ wsX70 ++ wsX00 ++ wsX50 ++ wsX20)
def wsX8_sheet_r1 : List Cond := [Cond.fieldLink RX8 12 "ProofSheets" "now" "LProofSheets$State;", Cond.methodLink RX8 76 yX7_sheetNumbered, Cond.instanceMethod yX7_sheetNumbered, Cond.selects RX7 yX7_sheetNumbered yX7_sheetNumbered, Cond.initialized RX7, Cond.code yX7_sheetNumbered cX7_sheetNumbered 2 (some (.object "ProofSheets$Sheet")), Cond.fieldLink RX7 61 "ProofSheets$State" "sheetCount" "I", Cond.fieldLink RX7 22 "ProofSheets$State" "sheets" "[LProofSheets$Sheet;", Cond.methodLink RX8 49 yX5_used, Cond.instanceMethod yX5_used, Cond.selects RX5 yX5_used yX5_used, Cond.initialized RX5, Cond.code yX5_used cX5_used 1 (some .int), Cond.fieldLink RX5 13 "ProofSheets$Row" "used" "I", Cond.methodLink RX8 103 yX2_howManyAreListed, Cond.instanceMethod yX2_howManyAreListed, Cond.selects RX2 yX2_howManyAreListed yX2_howManyAreListed, Cond.initialized RX2, Cond.code yX2_howManyAreListed cX2_howManyAreListed 4 (some .int), Cond.fieldLink RX2 14 "ProofSheets$MarkList" "codes" "LProofSheets$Row;", Cond.methodLink RX2 36 yX5_used, Cond.methodLink RX2 52 yX5_get, Cond.instanceMethod yX5_get, Cond.selects RX5 yX5_get yX5_get]
def wsX8_sheet_r2 : List Cond := [Cond.code yX5_get cX5_get 2 (some .int), Cond.fieldLink RX5 7 "ProofSheets$Row" "cells" "[I", Cond.methodLink RX5 17 yX5_hasNot, Cond.instanceMethod yX5_hasNot, Cond.selects RX5 yX5_hasNot yX5_hasNot, Cond.code yX5_hasNot cX5_hasNot 2 (some .boolean), Cond.methodLink RX2 44 yX5_placeOf, Cond.instanceMethod yX5_placeOf, Cond.selects RX5 yX5_placeOf yX5_placeOf, Cond.code yX5_placeOf cX5_placeOf 3 (some .int), Cond.methodLink RX5 21 yX5_get, Cond.methodLink RX8 109 yX2_howManyMeetAnAccepted, Cond.instanceMethod yX2_howManyMeetAnAccepted, Cond.selects RX2 yX2_howManyMeetAnAccepted yX2_howManyMeetAnAccepted, Cond.code yX2_howManyMeetAnAccepted cX2_howManyMeetAnAccepted 4 (some .int), Cond.methodLink RX2 76 yX2_meetsAnAccepted, Cond.instanceMethod yX2_meetsAnAccepted, Cond.selects RX2 yX2_meetsAnAccepted yX2_meetsAnAccepted, Cond.code yX2_meetsAnAccepted cX2_meetsAnAccepted 3 (some .boolean), Cond.fieldLink RX2 20 "ProofSheets$MarkList" "answers" "LProofSheets$Row;", Cond.methodLink RX2 67 yX1_areOpposed, Cond.static yX1_areOpposed, Cond.initialized RX1, Cond.code yX1_areOpposed cX1_areOpposed 4 (some .boolean)]
def wsX8_sheet_r3 : List Cond := [Cond.methodLink RX1 9 yX1_kindOf, Cond.static yX1_kindOf, Cond.code yX1_kindOf cX1_kindOf 1 (some .int), Cond.methodLink RX1 15 yX1_firstOf, Cond.static yX1_firstOf, Cond.code yX1_firstOf cX1_firstOf 1 (some .int), Cond.methodLink RX1 28 yX1_endOf, Cond.static yX1_endOf, Cond.code yX1_endOf cX1_endOf 1 (some .int), Cond.methodLink RX1 18 yX1_secondOf, Cond.static yX1_secondOf, Cond.code yX1_secondOf cX1_secondOf 1 (some .int)]
def wsX8_sheet : List Cond := .code yX8_sheet cX8_sheet 4 (some .int) :: ((wsX8_sheet_r1 ++ (wsX8_sheet_r2 ++ wsX8_sheet_r3)) ++ wsX80 ++ wsX60 ++ wsX70 ++ wsX50 ++ wsX20)
def wsX8_written_r1 : List Cond := [Cond.fieldLink RX8 12 "ProofSheets" "now" "LProofSheets$State;", Cond.methodLink RX8 76 yX7_sheetNumbered, Cond.instanceMethod yX7_sheetNumbered, Cond.selects RX7 yX7_sheetNumbered yX7_sheetNumbered, Cond.initialized RX7, Cond.code yX7_sheetNumbered cX7_sheetNumbered 2 (some (.object "ProofSheets$Sheet")), Cond.fieldLink RX7 61 "ProofSheets$State" "sheetCount" "I", Cond.fieldLink RX7 22 "ProofSheets$State" "sheets" "[LProofSheets$Sheet;", Cond.methodLink RX8 112 yX8_isOutside, Cond.static yX8_isOutside, Cond.initialized RX8, Cond.code yX8_isOutside cX8_isOutside 3 (some .boolean), Cond.methodLink RX8 49 yX5_used, Cond.instanceMethod yX5_used, Cond.selects RX5 yX5_used yX5_used, Cond.initialized RX5, Cond.code yX5_used cX5_used 1 (some .int), Cond.fieldLink RX5 13 "ProofSheets$Row" "used" "I", Cond.methodLink RX8 116 yX5_get, Cond.instanceMethod yX5_get, Cond.selects RX5 yX5_get yX5_get, Cond.code yX5_get cX5_get 2 (some .int), Cond.fieldLink RX5 7 "ProofSheets$Row" "cells" "[I", Cond.methodLink RX5 17 yX5_hasNot]
def wsX8_written_r2 : List Cond := [Cond.instanceMethod yX5_hasNot, Cond.selects RX5 yX5_hasNot yX5_hasNot, Cond.code yX5_hasNot cX5_hasNot 2 (some .boolean), Cond.methodLink RX8 119 yX1_partOf, Cond.static yX1_partOf, Cond.initialized RX1, Cond.code yX1_partOf cX1_partOf 2 (some .int), Cond.methodLink RX1 9 yX1_kindOf, Cond.static yX1_kindOf, Cond.code yX1_kindOf cX1_kindOf 1 (some .int), Cond.methodLink RX1 15 yX1_firstOf, Cond.static yX1_firstOf, Cond.code yX1_firstOf cX1_firstOf 1 (some .int), Cond.methodLink RX1 18 yX1_secondOf, Cond.static yX1_secondOf, Cond.code yX1_secondOf cX1_secondOf 1 (some .int), Cond.methodLink RX1 21 yX1_takesCharacter, Cond.static yX1_takesCharacter, Cond.code yX1_takesCharacter cX1_takesCharacter 1 (some .boolean), Cond.methodLink RX1 25 yX1_characterOf, Cond.static yX1_characterOf, Cond.code yX1_characterOf cX1_characterOf 1 (some .int), Cond.methodLink RX8 128 yX5_placeOf, Cond.instanceMethod yX5_placeOf]
def wsX8_written_r3 : List Cond := [Cond.selects RX5 yX5_placeOf yX5_placeOf, Cond.code yX5_placeOf cX5_placeOf 3 (some .int), Cond.methodLink RX5 21 yX5_get]
def wsX8_written : List Cond := .code yX8_written cX8_written 7 (some .int) :: ((wsX8_written_r1 ++ (wsX8_written_r2 ++ wsX8_written_r3)) ++ wsX80 ++ wsX60 ++ wsX70 ++ wsX20 ++ wsX50)
def wsX8_undo_r1 : List Cond := [Cond.fieldLink RX8 19 "ProofSheets" "history" "LProofSheets$History;", Cond.fieldLink RX8 12 "ProofSheets" "now" "LProofSheets$State;", Cond.methodLink RX8 133 yX0_restore, Cond.instanceMethod yX0_restore, Cond.selects RX0 yX0_restore yX0_restore, Cond.initialized RX0, Cond.code yX0_restore cX0_restore 3 none, Cond.fieldLink RX0 18 "ProofSheets$History" "used" "I", Cond.fieldLink RX0 11 "ProofSheets$History" "states" "[LProofSheets$State;", Cond.methodLink RX0 25 yX7_copyFrom, Cond.instanceMethod yX7_copyFrom, Cond.selects RX7 yX7_copyFrom yX7_copyFrom, Cond.initialized RX7, Cond.code yX7_copyFrom cX7_copyFrom 3 none, Cond.fieldLink RX7 14 "ProofSheets$State" "text" "LProofSheets$Row;", Cond.fieldLink RX7 29 "ProofSheets$State" "list" "LProofSheets$MarkList;", Cond.fieldLink RX7 33 "ProofSheets$State" "accounts" "LProofSheets$Row;", Cond.fieldLink RX7 36 "ProofSheets$State" "sentTo" "LProofSheets$Row;", Cond.fieldLink RX7 39 "ProofSheets$State" "madeBy" "LProofSheets$Row;", Cond.fieldLink RX7 42 "ProofSheets$State" "mergedOf" "LProofSheets$Row;", Cond.fieldLink RX7 57 "ProofSheets$State" "round" "I", Cond.fieldLink RX7 61 "ProofSheets$State" "sheetCount" "I", Cond.methodLink RX7 50 yX5_copyFrom, Cond.instanceMethod yX5_copyFrom]
def wsX8_undo_r2 : List Cond := [Cond.selects RX5 yX5_copyFrom yX5_copyFrom, Cond.initialized RX5, Cond.code yX5_copyFrom cX5_copyFrom 3 none, Cond.fieldLink RX5 13 "ProofSheets$Row" "used" "I", Cond.fieldLink RX5 7 "ProofSheets$Row" "cells" "[I", Cond.methodLink RX7 54 yX2_copyFrom, Cond.instanceMethod yX2_copyFrom, Cond.selects RX2 yX2_copyFrom yX2_copyFrom, Cond.initialized RX2, Cond.code yX2_copyFrom cX2_copyFrom 2 none, Cond.fieldLink RX2 14 "ProofSheets$MarkList" "codes" "LProofSheets$Row;", Cond.fieldLink RX2 20 "ProofSheets$MarkList" "answers" "LProofSheets$Row;", Cond.fieldLink RX2 23 "ProofSheets$MarkList" "sheetCounts" "LProofSheets$Row;", Cond.fieldLink RX2 26 "ProofSheets$MarkList" "lowestReaders" "LProofSheets$Row;", Cond.methodLink RX2 32 yX5_copyFrom, Cond.methodLink RX7 64 yX7_sheetNumbered, Cond.instanceMethod yX7_sheetNumbered, Cond.selects RX7 yX7_sheetNumbered yX7_sheetNumbered, Cond.code yX7_sheetNumbered cX7_sheetNumbered 2 (some (.object "ProofSheets$Sheet")), Cond.fieldLink RX7 22 "ProofSheets$State" "sheets" "[LProofSheets$Sheet;", Cond.methodLink RX7 68 yX7_copySheet, Cond.static yX7_copySheet, Cond.code yX7_copySheet cX7_copySheet 2 none, Cond.methodLink RX7 72 yX6_copyFrom]
def wsX8_undo_r3 : List Cond := [Cond.instanceMethod yX6_copyFrom, Cond.selects RX6 yX6_copyFrom yX6_copyFrom, Cond.initialized RX6, Cond.code yX6_copyFrom cX6_copyFrom 2 none, Cond.fieldLink RX6 20 "ProofSheets$Sheet" "reader" "I", Cond.fieldLink RX6 24 "ProofSheets$Sheet" "status" "I", Cond.fieldLink RX6 14 "ProofSheets$Sheet" "marks" "LProofSheets$Row;", Cond.methodLink RX6 30 yX5_copyFrom]
def wsX8_undo : List Cond := .code yX8_undo cX8_undo 1 (some .int) :: ((wsX8_undo_r1 ++ (wsX8_undo_r2 ++ wsX8_undo_r3)) ++ wsX80 ++ wsX00 ++ wsX70 ++ wsX50 ++ wsX20 ++ wsX60)
def wsX8_count_r1 : List Cond := [Cond.fieldLink RX8 12 "ProofSheets" "now" "LProofSheets$State;", Cond.fieldLink RX8 19 "ProofSheets" "history" "LProofSheets$History;", Cond.fieldLink RX8 26 "ProofSheets" "markText" "LProofSheets$MarkText;", Cond.methodLink RX8 112 yX8_isOutside, Cond.static yX8_isOutside, Cond.initialized RX8, Cond.code yX8_isOutside cX8_isOutside 3 (some .boolean), Cond.methodLink RX8 136 yX7_account, Cond.instanceMethod yX7_account, Cond.selects RX7 yX7_account yX7_account, Cond.initialized RX7, Cond.code yX7_account cX7_account 2 (some .int), Cond.fieldLink RX7 29 "ProofSheets$State" "list" "LProofSheets$MarkList;", Cond.fieldLink RX7 33 "ProofSheets$State" "accounts" "LProofSheets$Row;", Cond.methodLink RX7 94 yX7_marksOnSheetsThatAre, Cond.instanceMethod yX7_marksOnSheetsThatAre, Cond.selects RX7 yX7_marksOnSheetsThatAre yX7_marksOnSheetsThatAre, Cond.code yX7_marksOnSheetsThatAre cX7_marksOnSheetsThatAre 5 (some .int), Cond.fieldLink RX7 61 "ProofSheets$State" "sheetCount" "I", Cond.methodLink RX7 64 yX7_sheetNumbered, Cond.instanceMethod yX7_sheetNumbered, Cond.selects RX7 yX7_sheetNumbered yX7_sheetNumbered, Cond.code yX7_sheetNumbered cX7_sheetNumbered 2 (some (.object "ProofSheets$Sheet")), Cond.fieldLink RX7 22 "ProofSheets$State" "sheets" "[LProofSheets$Sheet;"]
def wsX8_count_r2 : List Cond := [Cond.methodLink RX7 90 yX5_used, Cond.instanceMethod yX5_used, Cond.selects RX5 yX5_used yX5_used, Cond.initialized RX5, Cond.code yX5_used cX5_used 1 (some .int), Cond.fieldLink RX5 13 "ProofSheets$Row" "used" "I", Cond.methodLink RX7 98 yX2_howManyAreOpen, Cond.instanceMethod yX2_howManyAreOpen, Cond.selects RX2 yX2_howManyAreOpen yX2_howManyAreOpen, Cond.initialized RX2, Cond.code yX2_howManyAreOpen cX2_howManyAreOpen 3 (some .int), Cond.fieldLink RX2 20 "ProofSheets$MarkList" "answers" "LProofSheets$Row;", Cond.methodLink RX2 36 yX5_used, Cond.methodLink RX2 52 yX5_get, Cond.instanceMethod yX5_get, Cond.selects RX5 yX5_get yX5_get, Cond.code yX5_get cX5_get 2 (some .int), Cond.fieldLink RX5 7 "ProofSheets$Row" "cells" "[I", Cond.methodLink RX5 17 yX5_hasNot, Cond.instanceMethod yX5_hasNot, Cond.selects RX5 yX5_hasNot yX5_hasNot, Cond.code yX5_hasNot cX5_hasNot 2 (some .boolean), Cond.methodLink RX7 101 yX5_get, Cond.methodLink RX8 49 yX5_used]
def wsX8_count_r3 : List Cond := [Cond.methodLink RX8 139 yX7_howManySheetsAre, Cond.instanceMethod yX7_howManySheetsAre, Cond.selects RX7 yX7_howManySheetsAre yX7_howManySheetsAre, Cond.code yX7_howManySheetsAre cX7_howManySheetsAre 5 (some .int), Cond.methodLink RX8 142 yX2_howManyAreOpen, Cond.methodLink RX8 148 yX2_opposedPairs, Cond.instanceMethod yX2_opposedPairs, Cond.selects RX2 yX2_opposedPairs yX2_opposedPairs, Cond.code yX2_opposedPairs cX2_opposedPairs 3 (some .int), Cond.fieldLink RX2 14 "ProofSheets$MarkList" "codes" "LProofSheets$Row;", Cond.methodLink RX2 73 yX2_howManyOppose, Cond.instanceMethod yX2_howManyOppose, Cond.selects RX2 yX2_howManyOppose yX2_howManyOppose, Cond.code yX2_howManyOppose cX2_howManyOppose 4 (some .int), Cond.methodLink RX2 67 yX1_areOpposed, Cond.static yX1_areOpposed, Cond.initialized RX1, Cond.code yX1_areOpposed cX1_areOpposed 4 (some .boolean), Cond.methodLink RX1 9 yX1_kindOf, Cond.static yX1_kindOf, Cond.code yX1_kindOf cX1_kindOf 1 (some .int), Cond.methodLink RX1 15 yX1_firstOf, Cond.static yX1_firstOf, Cond.code yX1_firstOf cX1_firstOf 1 (some .int)]
def wsX8_count_r4 : List Cond := [Cond.methodLink RX1 28 yX1_endOf, Cond.static yX1_endOf, Cond.code yX1_endOf cX1_endOf 1 (some .int), Cond.methodLink RX1 18 yX1_secondOf, Cond.static yX1_secondOf, Cond.code yX1_secondOf cX1_secondOf 1 (some .int)]
def wsX8_count : List Cond := .code yX8_count cX8_count 2 (some .int) :: ((wsX8_count_r1 ++ (wsX8_count_r2 ++ (wsX8_count_r3 ++ wsX8_count_r4))) ++ wsX80 ++ wsX70 ++ wsX20 ++ wsX00 ++ wsX30 ++ wsX60 ++ wsX50)
def wsX8_characterIn : List Cond := .code yX8_characterIn cX8_characterIn 2 (some .int) :: ([.methodLink RX8 49 yX5_used, .instanceMethod yX5_used, .selects RX5 yX5_used yX5_used, .initialized RX5, .code yX5_used cX5_used 1 (some .int), .fieldLink RX5 13 "ProofSheets$Row" "used" "I", .methodLink RX8 116 yX5_get, .instanceMethod yX5_get, .selects RX5 yX5_get yX5_get, .code yX5_get cX5_get 2 (some .int), .fieldLink RX5 7 "ProofSheets$Row" "cells" "[I", .methodLink RX5 17 yX5_hasNot, .instanceMethod yX5_hasNot, .selects RX5 yX5_hasNot yX5_hasNot, .code yX5_hasNot cX5_hasNot 2 (some .boolean)] ++ wsX50)
def wsX8_at : List Cond := .code yX8_at cX8_at 2 (some .int) :: ([.fieldLink RX8 12 "ProofSheets" "now" "LProofSheets$State;", .methodLink RX8 151 yX8_characterIn, .static yX8_characterIn, .initialized RX8, .code yX8_characterIn cX8_characterIn 2 (some .int), .methodLink RX8 49 yX5_used, .instanceMethod yX5_used, .selects RX5 yX5_used yX5_used, .initialized RX5, .code yX5_used cX5_used 1 (some .int), .fieldLink RX5 13 "ProofSheets$Row" "used" "I", .methodLink RX8 116 yX5_get, .instanceMethod yX5_get, .selects RX5 yX5_get yX5_get, .code yX5_get cX5_get 2 (some .int), .fieldLink RX5 7 "ProofSheets$Row" "cells" "[I", .methodLink RX5 17 yX5_hasNot, .instanceMethod yX5_hasNot, .selects RX5 yX5_hasNot yX5_hasNot, .code yX5_hasNot cX5_hasNot 2 (some .boolean)] ++ wsX80 ++ wsX70 ++ wsX50)
def wsX8_mark_r1 : List Cond := [Cond.fieldLink RX8 12 "ProofSheets" "now" "LProofSheets$State;", Cond.methodLink RX8 155 yX2_hasNot, Cond.instanceMethod yX2_hasNot, Cond.selects RX2 yX2_hasNot yX2_hasNot, Cond.initialized RX2, Cond.code yX2_hasNot cX2_hasNot 2 (some .boolean), Cond.fieldLink RX2 14 "ProofSheets$MarkList" "codes" "LProofSheets$Row;", Cond.methodLink RX2 36 yX5_used, Cond.instanceMethod yX5_used, Cond.selects RX5 yX5_used yX5_used, Cond.initialized RX5, Cond.code yX5_used cX5_used 1 (some .int), Cond.fieldLink RX5 13 "ProofSheets$Row" "used" "I", Cond.static yX8_isOutside, Cond.initialized RX8, Cond.code yX8_isOutside cX8_isOutside 3 (some .boolean), Cond.methodLink RX8 112 yX8_isOutside, Cond.methodLink RX8 116 yX5_get, Cond.instanceMethod yX5_get, Cond.selects RX5 yX5_get yX5_get, Cond.code yX5_get cX5_get 2 (some .int), Cond.fieldLink RX5 7 "ProofSheets$Row" "cells" "[I", Cond.methodLink RX5 17 yX5_hasNot, Cond.instanceMethod yX5_hasNot]
def wsX8_mark_r2 : List Cond := [Cond.selects RX5 yX5_hasNot yX5_hasNot, Cond.code yX5_hasNot cX5_hasNot 2 (some .boolean), Cond.methodLink RX8 167 yX2_howManyOppose, Cond.instanceMethod yX2_howManyOppose, Cond.selects RX2 yX2_howManyOppose yX2_howManyOppose, Cond.code yX2_howManyOppose cX2_howManyOppose 4 (some .int), Cond.methodLink RX2 52 yX5_get, Cond.methodLink RX2 67 yX1_areOpposed, Cond.static yX1_areOpposed, Cond.initialized RX1, Cond.code yX1_areOpposed cX1_areOpposed 4 (some .boolean), Cond.methodLink RX1 9 yX1_kindOf, Cond.static yX1_kindOf, Cond.code yX1_kindOf cX1_kindOf 1 (some .int), Cond.methodLink RX1 15 yX1_firstOf, Cond.static yX1_firstOf, Cond.code yX1_firstOf cX1_firstOf 1 (some .int), Cond.methodLink RX1 28 yX1_endOf, Cond.static yX1_endOf, Cond.code yX1_endOf cX1_endOf 1 (some .int), Cond.methodLink RX1 18 yX1_secondOf, Cond.static yX1_secondOf, Cond.code yX1_secondOf cX1_secondOf 1 (some .int), Cond.methodLink RX8 170 yX2_canBeAccepted]
def wsX8_mark_r3 : List Cond := [Cond.instanceMethod yX2_canBeAccepted, Cond.selects RX2 yX2_canBeAccepted yX2_canBeAccepted, Cond.code yX2_canBeAccepted cX2_canBeAccepted 2 (some .boolean), Cond.fieldLink RX2 20 "ProofSheets$MarkList" "answers" "LProofSheets$Row;", Cond.methodLink RX2 76 yX2_meetsAnAccepted, Cond.instanceMethod yX2_meetsAnAccepted, Cond.selects RX2 yX2_meetsAnAccepted yX2_meetsAnAccepted, Cond.code yX2_meetsAnAccepted cX2_meetsAnAccepted 3 (some .boolean), Cond.methodLink RX8 119 yX1_partOf, Cond.static yX1_partOf, Cond.code yX1_partOf cX1_partOf 2 (some .int), Cond.methodLink RX1 21 yX1_takesCharacter, Cond.static yX1_takesCharacter, Cond.code yX1_takesCharacter cX1_takesCharacter 1 (some .boolean), Cond.methodLink RX1 25 yX1_characterOf, Cond.static yX1_characterOf, Cond.code yX1_characterOf cX1_characterOf 1 (some .int)]
def wsX8_mark : List Cond := .code yX8_mark cX8_mark 4 (some .int) :: ((wsX8_mark_r1 ++ (wsX8_mark_r2 ++ wsX8_mark_r3)) ++ wsX80 ++ wsX70 ++ wsX20 ++ wsX50)
def wsX8_answer_r1 : List Cond := [Cond.fieldLink RX8 12 "ProofSheets" "now" "LProofSheets$State;", Cond.fieldLink RX8 19 "ProofSheets" "history" "LProofSheets$History;", Cond.methodLink RX8 155 yX2_hasNot, Cond.instanceMethod yX2_hasNot, Cond.selects RX2 yX2_hasNot yX2_hasNot, Cond.initialized RX2, Cond.code yX2_hasNot cX2_hasNot 2 (some .boolean), Cond.fieldLink RX2 14 "ProofSheets$MarkList" "codes" "LProofSheets$Row;", Cond.methodLink RX2 36 yX5_used, Cond.instanceMethod yX5_used, Cond.selects RX5 yX5_used yX5_used, Cond.initialized RX5, Cond.code yX5_used cX5_used 1 (some .int), Cond.fieldLink RX5 13 "ProofSheets$Row" "used" "I", Cond.static yX8_isOutside, Cond.initialized RX8, Cond.code yX8_isOutside cX8_isOutside 3 (some .boolean), Cond.methodLink RX8 112 yX8_isOutside, Cond.methodLink RX8 116 yX5_get, Cond.instanceMethod yX5_get, Cond.selects RX5 yX5_get yX5_get, Cond.code yX5_get cX5_get 2 (some .int), Cond.fieldLink RX5 7 "ProofSheets$Row" "cells" "[I", Cond.methodLink RX5 17 yX5_hasNot]
def wsX8_answer_r2 : List Cond := [Cond.instanceMethod yX5_hasNot, Cond.selects RX5 yX5_hasNot yX5_hasNot, Cond.code yX5_hasNot cX5_hasNot 2 (some .boolean), Cond.methodLink RX8 170 yX2_canBeAccepted, Cond.instanceMethod yX2_canBeAccepted, Cond.selects RX2 yX2_canBeAccepted yX2_canBeAccepted, Cond.code yX2_canBeAccepted cX2_canBeAccepted 2 (some .boolean), Cond.fieldLink RX2 20 "ProofSheets$MarkList" "answers" "LProofSheets$Row;", Cond.methodLink RX2 52 yX5_get, Cond.methodLink RX2 76 yX2_meetsAnAccepted, Cond.instanceMethod yX2_meetsAnAccepted, Cond.selects RX2 yX2_meetsAnAccepted yX2_meetsAnAccepted, Cond.code yX2_meetsAnAccepted cX2_meetsAnAccepted 3 (some .boolean), Cond.methodLink RX2 67 yX1_areOpposed, Cond.static yX1_areOpposed, Cond.initialized RX1, Cond.code yX1_areOpposed cX1_areOpposed 4 (some .boolean), Cond.methodLink RX1 9 yX1_kindOf, Cond.static yX1_kindOf, Cond.code yX1_kindOf cX1_kindOf 1 (some .int), Cond.methodLink RX1 15 yX1_firstOf, Cond.static yX1_firstOf, Cond.code yX1_firstOf cX1_firstOf 1 (some .int), Cond.methodLink RX1 28 yX1_endOf]
def wsX8_answer_r3 : List Cond := [Cond.static yX1_endOf, Cond.code yX1_endOf cX1_endOf 1 (some .int), Cond.methodLink RX1 18 yX1_secondOf, Cond.static yX1_secondOf, Cond.code yX1_secondOf cX1_secondOf 1 (some .int), Cond.methodLink RX8 55 yX0_record, Cond.instanceMethod yX0_record, Cond.selects RX0 yX0_record yX0_record, Cond.initialized RX0, Cond.code yX0_record cX0_record 2 none, Cond.fieldLink RX0 18 "ProofSheets$History" "used" "I", Cond.fieldLink RX0 11 "ProofSheets$History" "states" "[LProofSheets$State;", Cond.methodLink RX0 22 yX0_dropOldest, Cond.instanceMethod yX0_dropOldest, Cond.selects RX0 yX0_dropOldest yX0_dropOldest, Cond.code yX0_dropOldest cX0_dropOldest 3 none, Cond.methodLink RX0 25 yX7_copyFrom, Cond.instanceMethod yX7_copyFrom, Cond.selects RX7 yX7_copyFrom yX7_copyFrom, Cond.initialized RX7, Cond.code yX7_copyFrom cX7_copyFrom 3 none, Cond.fieldLink RX7 14 "ProofSheets$State" "text" "LProofSheets$Row;", Cond.fieldLink RX7 29 "ProofSheets$State" "list" "LProofSheets$MarkList;", Cond.fieldLink RX7 33 "ProofSheets$State" "accounts" "LProofSheets$Row;"]
def wsX8_answer_r4 : List Cond := [Cond.fieldLink RX7 36 "ProofSheets$State" "sentTo" "LProofSheets$Row;", Cond.fieldLink RX7 39 "ProofSheets$State" "madeBy" "LProofSheets$Row;", Cond.fieldLink RX7 42 "ProofSheets$State" "mergedOf" "LProofSheets$Row;", Cond.fieldLink RX7 57 "ProofSheets$State" "round" "I", Cond.fieldLink RX7 61 "ProofSheets$State" "sheetCount" "I", Cond.methodLink RX7 50 yX5_copyFrom, Cond.instanceMethod yX5_copyFrom, Cond.selects RX5 yX5_copyFrom yX5_copyFrom, Cond.code yX5_copyFrom cX5_copyFrom 3 none, Cond.methodLink RX7 54 yX2_copyFrom, Cond.instanceMethod yX2_copyFrom, Cond.selects RX2 yX2_copyFrom yX2_copyFrom, Cond.code yX2_copyFrom cX2_copyFrom 2 none, Cond.fieldLink RX2 23 "ProofSheets$MarkList" "sheetCounts" "LProofSheets$Row;", Cond.fieldLink RX2 26 "ProofSheets$MarkList" "lowestReaders" "LProofSheets$Row;", Cond.methodLink RX2 32 yX5_copyFrom, Cond.methodLink RX7 64 yX7_sheetNumbered, Cond.instanceMethod yX7_sheetNumbered, Cond.selects RX7 yX7_sheetNumbered yX7_sheetNumbered, Cond.code yX7_sheetNumbered cX7_sheetNumbered 2 (some (.object "ProofSheets$Sheet")), Cond.fieldLink RX7 22 "ProofSheets$State" "sheets" "[LProofSheets$Sheet;", Cond.methodLink RX7 68 yX7_copySheet, Cond.static yX7_copySheet, Cond.code yX7_copySheet cX7_copySheet 2 none]
def wsX8_answer_r5 : List Cond := [Cond.methodLink RX7 72 yX6_copyFrom, Cond.instanceMethod yX6_copyFrom, Cond.selects RX6 yX6_copyFrom yX6_copyFrom, Cond.initialized RX6, Cond.code yX6_copyFrom cX6_copyFrom 2 none, Cond.fieldLink RX6 20 "ProofSheets$Sheet" "reader" "I", Cond.fieldLink RX6 24 "ProofSheets$Sheet" "status" "I", Cond.fieldLink RX6 14 "ProofSheets$Sheet" "marks" "LProofSheets$Row;", Cond.methodLink RX6 30 yX5_copyFrom, Cond.methodLink RX8 173 yX7_keepAnswer, Cond.instanceMethod yX7_keepAnswer, Cond.selects RX7 yX7_keepAnswer yX7_keepAnswer, Cond.code yX7_keepAnswer cX7_keepAnswer 3 none, Cond.methodLink RX7 114 yX5_set, Cond.instanceMethod yX5_set, Cond.selects RX5 yX5_set yX5_set, Cond.code yX5_set cX5_set 3 none, Cond.methodLink RX7 78 yX5_add, Cond.instanceMethod yX5_add, Cond.selects RX5 yX5_add yX5_add, Cond.code yX5_add cX5_add 3 none, Cond.methodLink RX5 21 yX5_get, Cond.methodLink RX5 25 yX5_set, Cond.methodLink RX8 142 yX2_howManyAreOpen]
def wsX8_answer_r6 : List Cond := [Cond.instanceMethod yX2_howManyAreOpen, Cond.selects RX2 yX2_howManyAreOpen yX2_howManyAreOpen, Cond.code yX2_howManyAreOpen cX2_howManyAreOpen 3 (some .int)]
def wsX8_answer : List Cond := .code yX8_answer cX8_answer 3 (some .int) :: ((wsX8_answer_r1 ++ (wsX8_answer_r2 ++ (wsX8_answer_r3 ++ (wsX8_answer_r4 ++ (wsX8_answer_r5 ++ wsX8_answer_r6))))) ++ wsX80 ++ wsX70 ++ wsX20 ++ wsX50 ++ wsX00 ++ wsX60)
def wsX8_against_r1 : List Cond := [Cond.fieldLink RX8 12 "ProofSheets" "now" "LProofSheets$State;", Cond.methodLink RX8 155 yX2_hasNot, Cond.instanceMethod yX2_hasNot, Cond.selects RX2 yX2_hasNot yX2_hasNot, Cond.initialized RX2, Cond.code yX2_hasNot cX2_hasNot 2 (some .boolean), Cond.fieldLink RX2 14 "ProofSheets$MarkList" "codes" "LProofSheets$Row;", Cond.methodLink RX2 36 yX5_used, Cond.instanceMethod yX5_used, Cond.selects RX5 yX5_used yX5_used, Cond.initialized RX5, Cond.code yX5_used cX5_used 1 (some .int), Cond.fieldLink RX5 13 "ProofSheets$Row" "used" "I", Cond.static yX8_isOutside, Cond.initialized RX8, Cond.code yX8_isOutside cX8_isOutside 3 (some .boolean), Cond.methodLink RX8 116 yX5_get, Cond.instanceMethod yX5_get, Cond.selects RX5 yX5_get yX5_get, Cond.code yX5_get cX5_get 2 (some .int), Cond.fieldLink RX5 7 "ProofSheets$Row" "cells" "[I", Cond.methodLink RX5 17 yX5_hasNot, Cond.instanceMethod yX5_hasNot, Cond.selects RX5 yX5_hasNot yX5_hasNot]
def wsX8_against_r2 : List Cond := [Cond.code yX5_hasNot cX5_hasNot 2 (some .boolean), Cond.methodLink RX8 177 yX1_areOpposed, Cond.static yX1_areOpposed, Cond.initialized RX1, Cond.code yX1_areOpposed cX1_areOpposed 4 (some .boolean), Cond.methodLink RX1 9 yX1_kindOf, Cond.static yX1_kindOf, Cond.code yX1_kindOf cX1_kindOf 1 (some .int), Cond.methodLink RX1 15 yX1_firstOf, Cond.static yX1_firstOf, Cond.code yX1_firstOf cX1_firstOf 1 (some .int), Cond.methodLink RX1 28 yX1_endOf, Cond.static yX1_endOf, Cond.code yX1_endOf cX1_endOf 1 (some .int), Cond.methodLink RX1 18 yX1_secondOf, Cond.static yX1_secondOf, Cond.code yX1_secondOf cX1_secondOf 1 (some .int)]
def wsX8_against : List Cond := .code yX8_against cX8_against 3 (some .int) :: ((wsX8_against_r1 ++ wsX8_against_r2) ++ wsX80 ++ wsX70 ++ wsX20 ++ wsX50)
def wsX8_next_r1 : List Cond := [Cond.fieldLink RX8 12 "ProofSheets" "now" "LProofSheets$State;", Cond.methodLink RX8 181 yX2_mostWanted, Cond.instanceMethod yX2_mostWanted, Cond.selects RX2 yX2_mostWanted yX2_mostWanted, Cond.initialized RX2, Cond.code yX2_mostWanted cX2_mostWanted 3 (some .int), Cond.fieldLink RX2 14 "ProofSheets$MarkList" "codes" "LProofSheets$Row;", Cond.fieldLink RX2 20 "ProofSheets$MarkList" "answers" "LProofSheets$Row;", Cond.methodLink RX2 36 yX5_used, Cond.instanceMethod yX5_used, Cond.selects RX5 yX5_used yX5_used, Cond.initialized RX5, Cond.code yX5_used cX5_used 1 (some .int), Cond.fieldLink RX5 13 "ProofSheets$Row" "used" "I", Cond.methodLink RX2 52 yX5_get, Cond.instanceMethod yX5_get, Cond.selects RX5 yX5_get yX5_get, Cond.code yX5_get cX5_get 2 (some .int), Cond.fieldLink RX5 7 "ProofSheets$Row" "cells" "[I", Cond.methodLink RX5 17 yX5_hasNot, Cond.instanceMethod yX5_hasNot, Cond.selects RX5 yX5_hasNot yX5_hasNot, Cond.code yX5_hasNot cX5_hasNot 2 (some .boolean), Cond.methodLink RX2 80 yX2_isMoreWanted]
def wsX8_next_r2 : List Cond := [Cond.instanceMethod yX2_isMoreWanted, Cond.selects RX2 yX2_isMoreWanted yX2_isMoreWanted, Cond.code yX2_isMoreWanted cX2_isMoreWanted 3 (some .boolean), Cond.fieldLink RX2 23 "ProofSheets$MarkList" "sheetCounts" "LProofSheets$Row;", Cond.methodLink RX2 83 yX1_firstOf, Cond.static yX1_firstOf, Cond.initialized RX1, Cond.code yX1_firstOf cX1_firstOf 1 (some .int)]
def wsX8_next : List Cond := .code yX8_next cX8_next 2 (some .int) :: ((wsX8_next_r1 ++ wsX8_next_r2) ++ wsX80 ++ wsX70 ++ wsX20 ++ wsX50)
def wsX8_finish_r1 : List Cond := [Cond.fieldLink RX8 12 "ProofSheets" "now" "LProofSheets$State;", Cond.fieldLink RX8 19 "ProofSheets" "history" "LProofSheets$History;", Cond.fieldLink RX8 33 "ProofSheets" "press" "LProofSheets$Press;", Cond.methodLink RX8 184 yX7_canBeFinished, Cond.instanceMethod yX7_canBeFinished, Cond.selects RX7 yX7_canBeFinished yX7_canBeFinished, Cond.initialized RX7, Cond.code yX7_canBeFinished cX7_canBeFinished 1 (some .boolean), Cond.fieldLink RX7 57 "ProofSheets$State" "round" "I", Cond.fieldLink RX7 29 "ProofSheets$State" "list" "LProofSheets$MarkList;", Cond.methodLink RX7 117 yX7_howManySheetsAre, Cond.instanceMethod yX7_howManySheetsAre, Cond.selects RX7 yX7_howManySheetsAre yX7_howManySheetsAre, Cond.code yX7_howManySheetsAre cX7_howManySheetsAre 5 (some .int), Cond.fieldLink RX7 61 "ProofSheets$State" "sheetCount" "I", Cond.methodLink RX7 64 yX7_sheetNumbered, Cond.instanceMethod yX7_sheetNumbered, Cond.selects RX7 yX7_sheetNumbered yX7_sheetNumbered, Cond.code yX7_sheetNumbered cX7_sheetNumbered 2 (some (.object "ProofSheets$Sheet")), Cond.fieldLink RX7 22 "ProofSheets$State" "sheets" "[LProofSheets$Sheet;", Cond.methodLink RX7 98 yX2_howManyAreOpen, Cond.instanceMethod yX2_howManyAreOpen, Cond.selects RX2 yX2_howManyAreOpen yX2_howManyAreOpen, Cond.initialized RX2]
def wsX8_finish_r2 : List Cond := [Cond.code yX2_howManyAreOpen cX2_howManyAreOpen 3 (some .int), Cond.fieldLink RX2 20 "ProofSheets$MarkList" "answers" "LProofSheets$Row;", Cond.methodLink RX2 36 yX5_used, Cond.instanceMethod yX5_used, Cond.selects RX5 yX5_used yX5_used, Cond.initialized RX5, Cond.code yX5_used cX5_used 1 (some .int), Cond.fieldLink RX5 13 "ProofSheets$Row" "used" "I", Cond.methodLink RX2 52 yX5_get, Cond.instanceMethod yX5_get, Cond.selects RX5 yX5_get yX5_get, Cond.code yX5_get cX5_get 2 (some .int), Cond.fieldLink RX5 7 "ProofSheets$Row" "cells" "[I", Cond.methodLink RX5 17 yX5_hasNot, Cond.instanceMethod yX5_hasNot, Cond.selects RX5 yX5_hasNot yX5_hasNot, Cond.code yX5_hasNot cX5_hasNot 2 (some .boolean), Cond.methodLink RX8 55 yX0_record, Cond.instanceMethod yX0_record, Cond.selects RX0 yX0_record yX0_record, Cond.initialized RX0, Cond.code yX0_record cX0_record 2 none, Cond.fieldLink RX0 18 "ProofSheets$History" "used" "I", Cond.fieldLink RX0 11 "ProofSheets$History" "states" "[LProofSheets$State;"]
def wsX8_finish_r3 : List Cond := [Cond.methodLink RX0 22 yX0_dropOldest, Cond.instanceMethod yX0_dropOldest, Cond.selects RX0 yX0_dropOldest yX0_dropOldest, Cond.code yX0_dropOldest cX0_dropOldest 3 none, Cond.methodLink RX0 25 yX7_copyFrom, Cond.instanceMethod yX7_copyFrom, Cond.selects RX7 yX7_copyFrom yX7_copyFrom, Cond.code yX7_copyFrom cX7_copyFrom 3 none, Cond.fieldLink RX7 14 "ProofSheets$State" "text" "LProofSheets$Row;", Cond.fieldLink RX7 33 "ProofSheets$State" "accounts" "LProofSheets$Row;", Cond.fieldLink RX7 36 "ProofSheets$State" "sentTo" "LProofSheets$Row;", Cond.fieldLink RX7 39 "ProofSheets$State" "madeBy" "LProofSheets$Row;", Cond.fieldLink RX7 42 "ProofSheets$State" "mergedOf" "LProofSheets$Row;", Cond.methodLink RX7 50 yX5_copyFrom, Cond.instanceMethod yX5_copyFrom, Cond.selects RX5 yX5_copyFrom yX5_copyFrom, Cond.code yX5_copyFrom cX5_copyFrom 3 none, Cond.methodLink RX7 54 yX2_copyFrom, Cond.instanceMethod yX2_copyFrom, Cond.selects RX2 yX2_copyFrom yX2_copyFrom, Cond.code yX2_copyFrom cX2_copyFrom 2 none, Cond.fieldLink RX2 14 "ProofSheets$MarkList" "codes" "LProofSheets$Row;", Cond.fieldLink RX2 23 "ProofSheets$MarkList" "sheetCounts" "LProofSheets$Row;", Cond.fieldLink RX2 26 "ProofSheets$MarkList" "lowestReaders" "LProofSheets$Row;"]
def wsX8_finish_r4 : List Cond := [Cond.methodLink RX2 32 yX5_copyFrom, Cond.methodLink RX7 68 yX7_copySheet, Cond.static yX7_copySheet, Cond.code yX7_copySheet cX7_copySheet 2 none, Cond.methodLink RX7 72 yX6_copyFrom, Cond.instanceMethod yX6_copyFrom, Cond.selects RX6 yX6_copyFrom yX6_copyFrom, Cond.initialized RX6, Cond.code yX6_copyFrom cX6_copyFrom 2 none, Cond.fieldLink RX6 20 "ProofSheets$Sheet" "reader" "I", Cond.fieldLink RX6 24 "ProofSheets$Sheet" "status" "I", Cond.fieldLink RX6 14 "ProofSheets$Sheet" "marks" "LProofSheets$Row;", Cond.methodLink RX6 30 yX5_copyFrom, Cond.methodLink RX8 188 yX4_printAtOnce, Cond.instanceMethod yX4_printAtOnce, Cond.selects RX4 yX4_printAtOnce yX4_printAtOnce, Cond.initialized RX4, Cond.code yX4_printAtOnce cX4_printAtOnce 4 (some (.object "ProofSheets$Row")), Cond.fieldLink RX4 14 "ProofSheets$Press" "ahead" "LProofSheets$Row;", Cond.fieldLink RX4 20 "ProofSheets$Press" "instead" "LProofSheets$Row;", Cond.fieldLink RX4 26 "ProofSheets$Press" "paper" "LProofSheets$Row;", Cond.methodLink RX4 29 yX5_used, Cond.methodLink RX4 33 yX5_fill, Cond.instanceMethod yX5_fill]
def wsX8_finish_r5 : List Cond := [Cond.selects RX5 yX5_fill yX5_fill, Cond.code yX5_fill cX5_fill 4 none, Cond.methodLink RX5 29 yX5_append, Cond.instanceMethod yX5_append, Cond.selects RX5 yX5_append yX5_append, Cond.code yX5_append cX5_append 2 none, Cond.methodLink RX4 37 yX5_copyFrom, Cond.methodLink RX4 49 yX5_get, Cond.methodLink RX4 53 yX4_arrange, Cond.instanceMethod yX4_arrange, Cond.selects RX4 yX4_arrange yX4_arrange, Cond.code yX4_arrange cX4_arrange 5 none, Cond.methodLink RX4 63 yX1_firstOf, Cond.static yX1_firstOf, Cond.initialized RX1, Cond.code yX1_firstOf cX1_firstOf 1 (some .int), Cond.methodLink RX4 68 yX1_kindOf, Cond.static yX1_kindOf, Cond.code yX1_kindOf cX1_kindOf 1 (some .int), Cond.methodLink RX4 71 yX1_secondOf, Cond.static yX1_secondOf, Cond.code yX1_secondOf cX1_secondOf 1 (some .int), Cond.methodLink RX4 74 yX5_set, Cond.instanceMethod yX5_set]
def wsX8_finish_r6 : List Cond := [Cond.selects RX5 yX5_set yX5_set, Cond.code yX5_set cX5_set 3 none, Cond.methodLink RX4 77 yX1_characterOf, Cond.static yX1_characterOf, Cond.code yX1_characterOf cX1_characterOf 1 (some .int), Cond.methodLink RX4 80 yX4_otherCase, Cond.static yX4_otherCase, Cond.code yX4_otherCase cX4_otherCase 1 (some .int), Cond.static yX8_isOutside, Cond.initialized RX8, Cond.code yX8_isOutside cX8_isOutside 3 (some .boolean), Cond.methodLink RX4 57 yX5_cutTo, Cond.instanceMethod yX5_cutTo, Cond.selects RX5 yX5_cutTo yX5_cutTo, Cond.code yX5_cutTo cX5_cutTo 2 none, Cond.methodLink RX4 60 yX4_printIfAny, Cond.instanceMethod yX4_printIfAny, Cond.selects RX4 yX4_printIfAny yX4_printIfAny, Cond.code yX4_printIfAny cX4_printIfAny 2 none, Cond.methodLink RX4 83 yX5_append, Cond.methodLink RX8 192 yX7_endRound, Cond.instanceMethod yX7_endRound, Cond.selects RX7 yX7_endRound yX7_endRound, Cond.code yX7_endRound cX7_endRound 2 none]
def wsX8_finish_r7 : List Cond := [Cond.methodLink RX7 94 yX7_marksOnSheetsThatAre, Cond.instanceMethod yX7_marksOnSheetsThatAre, Cond.selects RX7 yX7_marksOnSheetsThatAre yX7_marksOnSheetsThatAre, Cond.code yX7_marksOnSheetsThatAre cX7_marksOnSheetsThatAre 5 (some .int), Cond.methodLink RX7 90 yX5_used, Cond.methodLink RX7 78 yX5_add, Cond.instanceMethod yX5_add, Cond.selects RX5 yX5_add yX5_add, Cond.code yX5_add cX5_add 3 none, Cond.methodLink RX5 21 yX5_get, Cond.methodLink RX5 25 yX5_set, Cond.methodLink RX7 120 yX2_empty, Cond.instanceMethod yX2_empty, Cond.selects RX2 yX2_empty yX2_empty, Cond.code yX2_empty cX2_empty 1 none, Cond.methodLink RX2 29 yX5_cutTo, Cond.methodLink RX8 49 yX5_used]
def wsX8_finish : List Cond := .code yX8_finish cX8_finish 1 (some .int) :: ((wsX8_finish_r1 ++ (wsX8_finish_r2 ++ (wsX8_finish_r3 ++ (wsX8_finish_r4 ++ (wsX8_finish_r5 ++ (wsX8_finish_r6 ++ wsX8_finish_r7)))))) ++ wsX80 ++ wsX70 ++ wsX60 ++ wsX20 ++ wsX50 ++ wsX00 ++ wsX40)
def wsX8_would_r1 : List Cond := [Cond.fieldLink RX8 33 "ProofSheets" "press" "LProofSheets$Press;", Cond.fieldLink RX8 12 "ProofSheets" "now" "LProofSheets$State;", Cond.methodLink RX8 188 yX4_printAtOnce, Cond.instanceMethod yX4_printAtOnce, Cond.selects RX4 yX4_printAtOnce yX4_printAtOnce, Cond.initialized RX4, Cond.code yX4_printAtOnce cX4_printAtOnce 4 (some (.object "ProofSheets$Row")), Cond.fieldLink RX4 14 "ProofSheets$Press" "ahead" "LProofSheets$Row;", Cond.fieldLink RX4 20 "ProofSheets$Press" "instead" "LProofSheets$Row;", Cond.fieldLink RX4 26 "ProofSheets$Press" "paper" "LProofSheets$Row;", Cond.methodLink RX4 29 yX5_used, Cond.instanceMethod yX5_used, Cond.selects RX5 yX5_used yX5_used, Cond.initialized RX5, Cond.code yX5_used cX5_used 1 (some .int), Cond.fieldLink RX5 13 "ProofSheets$Row" "used" "I", Cond.methodLink RX4 33 yX5_fill, Cond.instanceMethod yX5_fill, Cond.selects RX5 yX5_fill yX5_fill, Cond.code yX5_fill cX5_fill 4 none, Cond.methodLink RX5 29 yX5_append, Cond.instanceMethod yX5_append, Cond.selects RX5 yX5_append yX5_append, Cond.code yX5_append cX5_append 2 none]
def wsX8_would_r2 : List Cond := [Cond.fieldLink RX5 7 "ProofSheets$Row" "cells" "[I", Cond.methodLink RX4 37 yX5_copyFrom, Cond.instanceMethod yX5_copyFrom, Cond.selects RX5 yX5_copyFrom yX5_copyFrom, Cond.code yX5_copyFrom cX5_copyFrom 3 none, Cond.methodLink RX4 49 yX5_get, Cond.instanceMethod yX5_get, Cond.selects RX5 yX5_get yX5_get, Cond.code yX5_get cX5_get 2 (some .int), Cond.methodLink RX5 17 yX5_hasNot, Cond.instanceMethod yX5_hasNot, Cond.selects RX5 yX5_hasNot yX5_hasNot, Cond.code yX5_hasNot cX5_hasNot 2 (some .boolean), Cond.methodLink RX4 53 yX4_arrange, Cond.instanceMethod yX4_arrange, Cond.selects RX4 yX4_arrange yX4_arrange, Cond.code yX4_arrange cX4_arrange 5 none, Cond.methodLink RX4 63 yX1_firstOf, Cond.static yX1_firstOf, Cond.initialized RX1, Cond.code yX1_firstOf cX1_firstOf 1 (some .int), Cond.methodLink RX4 68 yX1_kindOf, Cond.static yX1_kindOf, Cond.code yX1_kindOf cX1_kindOf 1 (some .int)]
def wsX8_would_r3 : List Cond := [Cond.methodLink RX4 71 yX1_secondOf, Cond.static yX1_secondOf, Cond.code yX1_secondOf cX1_secondOf 1 (some .int), Cond.methodLink RX4 74 yX5_set, Cond.instanceMethod yX5_set, Cond.selects RX5 yX5_set yX5_set, Cond.code yX5_set cX5_set 3 none, Cond.methodLink RX4 77 yX1_characterOf, Cond.static yX1_characterOf, Cond.code yX1_characterOf cX1_characterOf 1 (some .int), Cond.methodLink RX4 80 yX4_otherCase, Cond.static yX4_otherCase, Cond.code yX4_otherCase cX4_otherCase 1 (some .int), Cond.static yX8_isOutside, Cond.initialized RX8, Cond.code yX8_isOutside cX8_isOutside 3 (some .boolean), Cond.methodLink RX4 57 yX5_cutTo, Cond.instanceMethod yX5_cutTo, Cond.selects RX5 yX5_cutTo yX5_cutTo, Cond.code yX5_cutTo cX5_cutTo 2 none, Cond.methodLink RX4 60 yX4_printIfAny, Cond.instanceMethod yX4_printIfAny, Cond.selects RX4 yX4_printIfAny yX4_printIfAny, Cond.code yX4_printIfAny cX4_printIfAny 2 none]
def wsX8_would_r4 : List Cond := [Cond.methodLink RX4 83 yX5_append, Cond.methodLink RX8 151 yX8_characterIn, Cond.static yX8_characterIn, Cond.code yX8_characterIn cX8_characterIn 2 (some .int), Cond.methodLink RX8 49 yX5_used, Cond.methodLink RX8 116 yX5_get]
def wsX8_would : List Cond := .code yX8_would cX8_would 2 (some .int) :: ((wsX8_would_r1 ++ (wsX8_would_r2 ++ (wsX8_would_r3 ++ wsX8_would_r4))) ++ wsX80 ++ wsX70 ++ wsX40 ++ wsX20 ++ wsX50)
def wsX8_again_r1 : List Cond := [Cond.fieldLink RX8 33 "ProofSheets" "press" "LProofSheets$Press;", Cond.fieldLink RX8 12 "ProofSheets" "now" "LProofSheets$State;", Cond.methodLink RX8 196 yX4_printInTurn, Cond.instanceMethod yX4_printInTurn, Cond.selects RX4 yX4_printInTurn yX4_printInTurn, Cond.initialized RX4, Cond.code yX4_printInTurn cX4_printInTurn 4 (some (.object "ProofSheets$Row")), Cond.fieldLink RX4 23 "ProofSheets$Press" "turns" "LProofSheets$Row;", Cond.fieldLink RX4 26 "ProofSheets$Press" "paper" "LProofSheets$Row;", Cond.methodLink RX4 57 yX5_cutTo, Cond.instanceMethod yX5_cutTo, Cond.selects RX5 yX5_cutTo yX5_cutTo, Cond.initialized RX5, Cond.code yX5_cutTo cX5_cutTo 2 none, Cond.fieldLink RX5 13 "ProofSheets$Row" "used" "I", Cond.methodLink RX4 29 yX5_used, Cond.instanceMethod yX5_used, Cond.selects RX5 yX5_used yX5_used, Cond.code yX5_used cX5_used 1 (some .int), Cond.methodLink RX4 49 yX5_get, Cond.instanceMethod yX5_get, Cond.selects RX5 yX5_get yX5_get, Cond.code yX5_get cX5_get 2 (some .int), Cond.fieldLink RX5 7 "ProofSheets$Row" "cells" "[I"]
def wsX8_again_r2 : List Cond := [Cond.methodLink RX5 17 yX5_hasNot, Cond.instanceMethod yX5_hasNot, Cond.selects RX5 yX5_hasNot yX5_hasNot, Cond.code yX5_hasNot cX5_hasNot 2 (some .boolean), Cond.methodLink RX4 86 yX4_turnOf, Cond.instanceMethod yX4_turnOf, Cond.selects RX4 yX4_turnOf yX4_turnOf, Cond.code yX4_turnOf cX4_turnOf 3 (some .int), Cond.methodLink RX4 95 yX4_goesBefore, Cond.static yX4_goesBefore, Cond.code yX4_goesBefore cX4_goesBefore 2 (some .boolean), Cond.methodLink RX4 63 yX1_firstOf, Cond.static yX1_firstOf, Cond.initialized RX1, Cond.code yX1_firstOf cX1_firstOf 1 (some .int), Cond.methodLink RX4 68 yX1_kindOf, Cond.static yX1_kindOf, Cond.code yX1_kindOf cX1_kindOf 1 (some .int), Cond.methodLink RX4 89 yX5_insert, Cond.instanceMethod yX5_insert, Cond.selects RX5 yX5_insert yX5_insert, Cond.code yX5_insert cX5_insert 4 none, Cond.methodLink RX5 29 yX5_append, Cond.instanceMethod yX5_append]
def wsX8_again_r3 : List Cond := [Cond.selects RX5 yX5_append yX5_append, Cond.code yX5_append cX5_append 2 none, Cond.methodLink RX5 21 yX5_get, Cond.methodLink RX5 25 yX5_set, Cond.instanceMethod yX5_set, Cond.selects RX5 yX5_set yX5_set, Cond.code yX5_set cX5_set 3 none, Cond.methodLink RX4 37 yX5_copyFrom, Cond.instanceMethod yX5_copyFrom, Cond.selects RX5 yX5_copyFrom yX5_copyFrom, Cond.code yX5_copyFrom cX5_copyFrom 3 none, Cond.methodLink RX4 92 yX4_carryOut, Cond.instanceMethod yX4_carryOut, Cond.selects RX4 yX4_carryOut yX4_carryOut, Cond.code yX4_carryOut cX4_carryOut 4 none, Cond.methodLink RX4 71 yX1_secondOf, Cond.static yX1_secondOf, Cond.code yX1_secondOf cX1_secondOf 1 (some .int), Cond.methodLink RX4 99 yX5_remove, Cond.instanceMethod yX5_remove, Cond.selects RX5 yX5_remove yX5_remove, Cond.code yX5_remove cX5_remove 3 none, Cond.methodLink RX4 77 yX1_characterOf, Cond.static yX1_characterOf]
def wsX8_again_r4 : List Cond := [Cond.code yX1_characterOf cX1_characterOf 1 (some .int), Cond.methodLink RX4 74 yX5_set, Cond.methodLink RX4 80 yX4_otherCase, Cond.static yX4_otherCase, Cond.code yX4_otherCase cX4_otherCase 1 (some .int), Cond.static yX8_isOutside, Cond.initialized RX8, Cond.code yX8_isOutside cX8_isOutside 3 (some .boolean), Cond.methodLink RX8 151 yX8_characterIn, Cond.static yX8_characterIn, Cond.code yX8_characterIn cX8_characterIn 2 (some .int), Cond.methodLink RX8 49 yX5_used, Cond.methodLink RX8 116 yX5_get]
def wsX8_again : List Cond := .code yX8_again cX8_again 2 (some .int) :: ((wsX8_again_r1 ++ (wsX8_again_r2 ++ (wsX8_again_r3 ++ wsX8_again_r4))) ++ wsX80 ++ wsX70 ++ wsX40 ++ wsX20 ++ wsX50)
def wsX8_reader_r1 : List Cond := [Cond.fieldLink RX8 12 "ProofSheets" "now" "LProofSheets$State;", Cond.methodLink RX8 63 yX8_isNoReader, Cond.static yX8_isNoReader, Cond.initialized RX8, Cond.code yX8_isNoReader cX8_isNoReader 1 (some .boolean), Cond.methodLink RX8 112 yX8_isOutside, Cond.static yX8_isOutside, Cond.code yX8_isOutside cX8_isOutside 3 (some .boolean), Cond.methodLink RX8 116 yX5_get, Cond.instanceMethod yX5_get, Cond.selects RX5 yX5_get yX5_get, Cond.initialized RX5, Cond.code yX5_get cX5_get 2 (some .int), Cond.fieldLink RX5 7 "ProofSheets$Row" "cells" "[I", Cond.methodLink RX5 17 yX5_hasNot, Cond.instanceMethod yX5_hasNot, Cond.selects RX5 yX5_hasNot yX5_hasNot, Cond.code yX5_hasNot cX5_hasNot 2 (some .boolean), Cond.fieldLink RX5 13 "ProofSheets$Row" "used" "I", Cond.methodLink RX8 66 yX7_hasSheetOut, Cond.instanceMethod yX7_hasSheetOut, Cond.selects RX7 yX7_hasSheetOut yX7_hasSheetOut, Cond.initialized RX7, Cond.code yX7_hasSheetOut cX7_hasSheetOut 4 (some .boolean)]
def wsX8_reader_r2 : List Cond := [Cond.fieldLink RX7 61 "ProofSheets$State" "sheetCount" "I", Cond.methodLink RX7 64 yX7_sheetNumbered, Cond.instanceMethod yX7_sheetNumbered, Cond.selects RX7 yX7_sheetNumbered yX7_sheetNumbered, Cond.code yX7_sheetNumbered cX7_sheetNumbered 2 (some (.object "ProofSheets$Sheet")), Cond.fieldLink RX7 22 "ProofSheets$State" "sheets" "[LProofSheets$Sheet;"]
def wsX8_reader : List Cond := .code yX8_reader cX8_reader 3 (some .int) :: ((wsX8_reader_r1 ++ wsX8_reader_r2) ++ wsX80 ++ wsX70 ++ wsX50 ++ wsX60)
def wsX8_type : List Cond := .code yX8_type cX8_type 2 (some .int) :: ([.fieldLink RX8 26 "ProofSheets" "markText" "LProofSheets$MarkText;", .methodLink RX8 37 yX8_isNoCharacter, .static yX8_isNoCharacter, .initialized RX8, .code yX8_isNoCharacter cX8_isNoCharacter 1 (some .boolean), .methodLink RX8 112 yX8_isOutside, .static yX8_isOutside, .code yX8_isOutside cX8_isOutside 3 (some .boolean), .methodLink RX8 49 yX5_used, .instanceMethod yX5_used, .selects RX5 yX5_used yX5_used, .initialized RX5, .code yX5_used cX5_used 1 (some .int), .fieldLink RX5 13 "ProofSheets$Row" "used" "I", .methodLink RX8 59 yX5_append, .instanceMethod yX5_append, .selects RX5 yX5_append yX5_append, .code yX5_append cX5_append 2 none, .fieldLink RX5 7 "ProofSheets$Row" "cells" "[I"] ++ wsX80 ++ wsX30 ++ wsX50)
def wsX8_clearText : List Cond := .code yX8_clearText cX8_clearText 2 (some .int) :: ([.fieldLink RX8 26 "ProofSheets" "markText" "LProofSheets$MarkText;", .methodLink RX8 49 yX5_used, .instanceMethod yX5_used, .selects RX5 yX5_used yX5_used, .initialized RX5, .code yX5_used cX5_used 1 (some .int), .fieldLink RX5 13 "ProofSheets$Row" "used" "I", .methodLink RX8 208 yX5_cutTo, .instanceMethod yX5_cutTo, .selects RX5 yX5_cutTo yX5_cutTo, .code yX5_cutTo cX5_cutTo 2 none] ++ wsX80 ++ wsX30 ++ wsX50)
def wsX8_fault_r1 : List Cond := [Cond.fieldLink RX8 12 "ProofSheets" "now" "LProofSheets$State;", Cond.fieldLink RX8 26 "ProofSheets" "markText" "LProofSheets$MarkText;", Cond.methodLink RX8 76 yX7_sheetNumbered, Cond.instanceMethod yX7_sheetNumbered, Cond.selects RX7 yX7_sheetNumbered yX7_sheetNumbered, Cond.initialized RX7, Cond.code yX7_sheetNumbered cX7_sheetNumbered 2 (some (.object "ProofSheets$Sheet")), Cond.fieldLink RX7 61 "ProofSheets$State" "sheetCount" "I", Cond.fieldLink RX7 22 "ProofSheets$State" "sheets" "[LProofSheets$Sheet;", Cond.methodLink RX8 112 yX8_isOutside, Cond.static yX8_isOutside, Cond.initialized RX8, Cond.code yX8_isOutside cX8_isOutside 3 (some .boolean), Cond.methodLink RX8 49 yX5_used, Cond.instanceMethod yX5_used, Cond.selects RX5 yX5_used yX5_used, Cond.initialized RX5, Cond.code yX5_used cX5_used 1 (some .int), Cond.fieldLink RX5 13 "ProofSheets$Row" "used" "I", Cond.methodLink RX8 211 yX3_readFor, Cond.instanceMethod yX3_readFor, Cond.selects RX3 yX3_readFor yX3_readFor, Cond.initialized RX3, Cond.code yX3_readFor cX3_readFor 4 none]
def wsX8_fault_r2 : List Cond := [Cond.fieldLink RX3 20 "ProofSheets$MarkText" "codes" "LProofSheets$Row;", Cond.fieldLink RX3 26 "ProofSheets$MarkText" "cursor" "I", Cond.fieldLink RX3 30 "ProofSheets$MarkText" "reason" "I", Cond.fieldLink RX3 14 "ProofSheets$MarkText" "signs" "LProofSheets$Row;", Cond.fieldLink RX3 37 "ProofSheets$MarkText" "start" "I", Cond.methodLink RX3 23 yX5_cutTo, Cond.instanceMethod yX5_cutTo, Cond.selects RX5 yX5_cutTo yX5_cutTo, Cond.code yX5_cutTo cX5_cutTo 2 none, Cond.methodLink RX3 33 yX5_used, Cond.methodLink RX3 40 yX3_readMark, Cond.instanceMethod yX3_readMark, Cond.selects RX3 yX3_readMark yX3_readMark, Cond.code yX3_readMark cX3_readMark 7 none, Cond.methodLink RX3 44 yX3_readWord, Cond.instanceMethod yX3_readWord, Cond.selects RX3 yX3_readWord yX3_readWord, Cond.code yX3_readWord cX3_readWord 4 (some .int), Cond.methodLink RX3 81 yX5_get, Cond.instanceMethod yX5_get, Cond.selects RX5 yX5_get yX5_get, Cond.code yX5_get cX5_get 2 (some .int), Cond.fieldLink RX5 7 "ProofSheets$Row" "cells" "[I", Cond.methodLink RX5 17 yX5_hasNot]
def wsX8_fault_r3 : List Cond := [Cond.instanceMethod yX5_hasNot, Cond.selects RX5 yX5_hasNot yX5_hasNot, Cond.code yX5_hasNot cX5_hasNot 2 (some .boolean), Cond.methodLink RX3 84 yX3_wordOf, Cond.static yX3_wordOf, Cond.code yX3_wordOf cX3_wordOf 1 (some (.object "java/lang/String")), Cond.methodLink RX3 88 yX3_spells, Cond.instanceMethod yX3_spells, Cond.selects RX3 yX3_spells yX3_spells, Cond.code yX3_spells cX3_spells 4 (some .boolean), Cond.methodLink RX3 104 yJ0_length_8abf5, Cond.instanceMethod yJ0_length_8abf5, Cond.selects RJ0 yJ0_length_8abf5 yJ0_length_8abf5, Cond.initialized RJ0, Cond.code yJ0_length_8abf5 cJ0_length_8abf5 1 (some .int), Cond.fieldLink RJ0 9 "java/lang/String" "value" "[B", Cond.methodLink RJ0 335 yJ0_coder_7d493, Cond.instanceMethod yJ0_coder_7d493, Cond.selects RJ0 yJ0_coder_7d493 yJ0_coder_7d493, Cond.code yJ0_coder_7d493 cJ0_coder_7d493 1 (some .byte), Cond.fieldLink RJ0 38 "java/lang/String" "COMPACT_STRINGS" "Z", Cond.fieldLink RJ0 15 "java/lang/String" "coder" "B", Cond.methodLink RX3 109 yJ0_charAt_5068e, Cond.instanceMethod yJ0_charAt_5068e]
def wsX8_fault_r4 : List Cond := [Cond.selects RJ0 yJ0_charAt_5068e yJ0_charAt_5068e, Cond.code yJ0_charAt_5068e cJ0_charAt_5068e 2 (some .char), Cond.methodLink RJ0 492 yJ0_isLatin1_aae02, Cond.instanceMethod yJ0_isLatin1_aae02, Cond.selects RJ0 yJ0_isLatin1_aae02 yJ0_isLatin1_aae02, Cond.code yJ0_isLatin1_aae02 cJ0_isLatin1_aae02 1 (some .boolean), Cond.methodLink RJ0 495 yJ1_charAt_3b067, Cond.static yJ1_charAt_3b067, Cond.initialized RJ1, Cond.code yJ1_charAt_3b067 cJ1_charAt_3b067 2 (some .char), Cond.methodLink RJ1 9 yJ0_checkIndex_df160, Cond.static yJ0_checkIndex_df160, Cond.code yJ0_checkIndex_df160 cJ0_checkIndex_df160 2 none, Cond.fieldLink RJ0 1053 "jdk/internal/util/Preconditions" "SIOOBE_FORMATTER" "Ljava/util/function/BiFunction;", Cond.methodLink RJ0 1059 yJ3_checkIndex_8e157, Cond.static yJ3_checkIndex_8e157, Cond.initialized RJ3, Cond.code yJ3_checkIndex_8e157 cJ3_checkIndex_8e157 3 (some .int), Cond.methodLink RJ0 498 yJ2_charAt_3b067, Cond.static yJ2_charAt_3b067, Cond.initialized RJ2, Cond.code yJ2_charAt_3b067 cJ2_charAt_3b067 2 (some .char), Cond.methodLink RJ2 67 yJ2_checkIndex_2214a, Cond.static yJ2_checkIndex_2214a]
def wsX8_fault_r5 : List Cond := [Cond.code yJ2_checkIndex_2214a cJ2_checkIndex_2214a 2 none, Cond.methodLink RJ2 48 yJ2_length_9d52b, Cond.static yJ2_length_9d52b, Cond.code yJ2_length_9d52b cJ2_length_9d52b 1 (some .int), Cond.methodLink RJ2 414 yJ0_checkIndex_df160, Cond.methodLink RJ2 71 yJ2_getChar_3b067, Cond.static yJ2_getChar_3b067, Cond.code yJ2_getChar_3b067 cJ2_getChar_3b067 2 (some .char), Cond.fieldLink RJ2 44 "java/lang/StringUTF16" "$assertionsDisabled" "Z", Cond.fieldLink RJ2 59 "java/lang/StringUTF16" "HI_BYTE_SHIFT" "I", Cond.fieldLink RJ2 63 "java/lang/StringUTF16" "LO_BYTE_SHIFT" "I", Cond.methodLink RX3 47 yX3_readPosition, Cond.instanceMethod yX3_readPosition, Cond.selects RX3 yX3_readPosition yX3_readPosition, Cond.code yX3_readPosition cX3_readPosition 3 (some .int), Cond.methodLink RX3 59 yX3_passes, Cond.instanceMethod yX3_passes, Cond.selects RX3 yX3_passes yX3_passes, Cond.code yX3_passes cX3_passes 2 (some .boolean), Cond.methodLink RX3 50 yX1_takesCharacter, Cond.static yX1_takesCharacter, Cond.initialized RX1, Cond.code yX1_takesCharacter cX1_takesCharacter 1 (some .boolean), Cond.methodLink RX3 56 yX3_readCharacter]
def wsX8_fault_r6 : List Cond := [Cond.instanceMethod yX3_readCharacter, Cond.selects RX3 yX3_readCharacter yX3_readCharacter, Cond.code yX3_readCharacter cX3_readCharacter 1 (some .int), Cond.methodLink RX3 62 yX1_isPossible, Cond.static yX1_isPossible, Cond.code yX1_isPossible cX1_isPossible 4 (some .boolean), Cond.methodLink RX3 66 yX1_codeOf, Cond.static yX1_codeOf, Cond.code yX1_codeOf cX1_codeOf 4 (some .int), Cond.methodLink RX3 70 yX3_keep, Cond.instanceMethod yX3_keep, Cond.selects RX3 yX3_keep yX3_keep, Cond.code yX3_keep cX3_keep 3 none, Cond.methodLink RX3 74 yX5_placeOf, Cond.instanceMethod yX5_placeOf, Cond.selects RX5 yX5_placeOf yX5_placeOf, Cond.code yX5_placeOf cX5_placeOf 3 (some .int), Cond.methodLink RX5 21 yX5_get, Cond.methodLink RX3 78 yX5_append, Cond.instanceMethod yX5_append, Cond.selects RX5 yX5_append yX5_append, Cond.code yX5_append cX5_append 2 none]
def wsX8_fault : List Cond := .code yX8_fault cX8_fault 4 (some .int) :: ((wsX8_fault_r1 ++ (wsX8_fault_r2 ++ (wsX8_fault_r3 ++ (wsX8_fault_r4 ++ (wsX8_fault_r5 ++ wsX8_fault_r6))))) ++ wsX80 ++ wsX60 ++ wsX70 ++ wsX30 ++ wsX50)
def wsX8_write_r1 : List Cond := [Cond.fieldLink RX8 12 "ProofSheets" "now" "LProofSheets$State;", Cond.fieldLink RX8 26 "ProofSheets" "markText" "LProofSheets$MarkText;", Cond.fieldLink RX8 19 "ProofSheets" "history" "LProofSheets$History;", Cond.methodLink RX8 76 yX7_sheetNumbered, Cond.instanceMethod yX7_sheetNumbered, Cond.selects RX7 yX7_sheetNumbered yX7_sheetNumbered, Cond.initialized RX7, Cond.code yX7_sheetNumbered cX7_sheetNumbered 2 (some (.object "ProofSheets$Sheet")), Cond.fieldLink RX7 61 "ProofSheets$State" "sheetCount" "I", Cond.fieldLink RX7 22 "ProofSheets$State" "sheets" "[LProofSheets$Sheet;", Cond.methodLink RX8 49 yX5_used, Cond.instanceMethod yX5_used, Cond.selects RX5 yX5_used yX5_used, Cond.initialized RX5, Cond.code yX5_used cX5_used 1 (some .int), Cond.fieldLink RX5 13 "ProofSheets$Row" "used" "I", Cond.methodLink RX8 211 yX3_readFor, Cond.instanceMethod yX3_readFor, Cond.selects RX3 yX3_readFor yX3_readFor, Cond.initialized RX3, Cond.code yX3_readFor cX3_readFor 4 none, Cond.fieldLink RX3 20 "ProofSheets$MarkText" "codes" "LProofSheets$Row;", Cond.fieldLink RX3 26 "ProofSheets$MarkText" "cursor" "I", Cond.fieldLink RX3 30 "ProofSheets$MarkText" "reason" "I"]
def wsX8_write_r2 : List Cond := [Cond.fieldLink RX3 14 "ProofSheets$MarkText" "signs" "LProofSheets$Row;", Cond.fieldLink RX3 37 "ProofSheets$MarkText" "start" "I", Cond.methodLink RX3 23 yX5_cutTo, Cond.instanceMethod yX5_cutTo, Cond.selects RX5 yX5_cutTo yX5_cutTo, Cond.code yX5_cutTo cX5_cutTo 2 none, Cond.methodLink RX3 33 yX5_used, Cond.methodLink RX3 40 yX3_readMark, Cond.instanceMethod yX3_readMark, Cond.selects RX3 yX3_readMark yX3_readMark, Cond.code yX3_readMark cX3_readMark 7 none, Cond.methodLink RX3 44 yX3_readWord, Cond.instanceMethod yX3_readWord, Cond.selects RX3 yX3_readWord yX3_readWord, Cond.code yX3_readWord cX3_readWord 4 (some .int), Cond.methodLink RX3 81 yX5_get, Cond.instanceMethod yX5_get, Cond.selects RX5 yX5_get yX5_get, Cond.code yX5_get cX5_get 2 (some .int), Cond.fieldLink RX5 7 "ProofSheets$Row" "cells" "[I", Cond.methodLink RX5 17 yX5_hasNot, Cond.instanceMethod yX5_hasNot, Cond.selects RX5 yX5_hasNot yX5_hasNot, Cond.code yX5_hasNot cX5_hasNot 2 (some .boolean)]
def wsX8_write_r3 : List Cond := [Cond.methodLink RX3 84 yX3_wordOf, Cond.static yX3_wordOf, Cond.code yX3_wordOf cX3_wordOf 1 (some (.object "java/lang/String")), Cond.methodLink RX3 88 yX3_spells, Cond.instanceMethod yX3_spells, Cond.selects RX3 yX3_spells yX3_spells, Cond.code yX3_spells cX3_spells 4 (some .boolean), Cond.methodLink RX3 104 yJ0_length_8abf5, Cond.instanceMethod yJ0_length_8abf5, Cond.selects RJ0 yJ0_length_8abf5 yJ0_length_8abf5, Cond.initialized RJ0, Cond.code yJ0_length_8abf5 cJ0_length_8abf5 1 (some .int), Cond.fieldLink RJ0 9 "java/lang/String" "value" "[B", Cond.methodLink RJ0 335 yJ0_coder_7d493, Cond.instanceMethod yJ0_coder_7d493, Cond.selects RJ0 yJ0_coder_7d493 yJ0_coder_7d493, Cond.code yJ0_coder_7d493 cJ0_coder_7d493 1 (some .byte), Cond.fieldLink RJ0 38 "java/lang/String" "COMPACT_STRINGS" "Z", Cond.fieldLink RJ0 15 "java/lang/String" "coder" "B", Cond.methodLink RX3 109 yJ0_charAt_5068e, Cond.instanceMethod yJ0_charAt_5068e, Cond.selects RJ0 yJ0_charAt_5068e yJ0_charAt_5068e, Cond.code yJ0_charAt_5068e cJ0_charAt_5068e 2 (some .char), Cond.methodLink RJ0 492 yJ0_isLatin1_aae02]
def wsX8_write_r4 : List Cond := [Cond.instanceMethod yJ0_isLatin1_aae02, Cond.selects RJ0 yJ0_isLatin1_aae02 yJ0_isLatin1_aae02, Cond.code yJ0_isLatin1_aae02 cJ0_isLatin1_aae02 1 (some .boolean), Cond.methodLink RJ0 495 yJ1_charAt_3b067, Cond.static yJ1_charAt_3b067, Cond.initialized RJ1, Cond.code yJ1_charAt_3b067 cJ1_charAt_3b067 2 (some .char), Cond.methodLink RJ1 9 yJ0_checkIndex_df160, Cond.static yJ0_checkIndex_df160, Cond.code yJ0_checkIndex_df160 cJ0_checkIndex_df160 2 none, Cond.fieldLink RJ0 1053 "jdk/internal/util/Preconditions" "SIOOBE_FORMATTER" "Ljava/util/function/BiFunction;", Cond.methodLink RJ0 1059 yJ3_checkIndex_8e157, Cond.static yJ3_checkIndex_8e157, Cond.initialized RJ3, Cond.code yJ3_checkIndex_8e157 cJ3_checkIndex_8e157 3 (some .int), Cond.methodLink RJ0 498 yJ2_charAt_3b067, Cond.static yJ2_charAt_3b067, Cond.initialized RJ2, Cond.code yJ2_charAt_3b067 cJ2_charAt_3b067 2 (some .char), Cond.methodLink RJ2 67 yJ2_checkIndex_2214a, Cond.static yJ2_checkIndex_2214a, Cond.code yJ2_checkIndex_2214a cJ2_checkIndex_2214a 2 none, Cond.methodLink RJ2 48 yJ2_length_9d52b, Cond.static yJ2_length_9d52b]
def wsX8_write_r5 : List Cond := [Cond.code yJ2_length_9d52b cJ2_length_9d52b 1 (some .int), Cond.methodLink RJ2 414 yJ0_checkIndex_df160, Cond.methodLink RJ2 71 yJ2_getChar_3b067, Cond.static yJ2_getChar_3b067, Cond.code yJ2_getChar_3b067 cJ2_getChar_3b067 2 (some .char), Cond.fieldLink RJ2 44 "java/lang/StringUTF16" "$assertionsDisabled" "Z", Cond.fieldLink RJ2 59 "java/lang/StringUTF16" "HI_BYTE_SHIFT" "I", Cond.fieldLink RJ2 63 "java/lang/StringUTF16" "LO_BYTE_SHIFT" "I", Cond.methodLink RX3 47 yX3_readPosition, Cond.instanceMethod yX3_readPosition, Cond.selects RX3 yX3_readPosition yX3_readPosition, Cond.code yX3_readPosition cX3_readPosition 3 (some .int), Cond.methodLink RX3 59 yX3_passes, Cond.instanceMethod yX3_passes, Cond.selects RX3 yX3_passes yX3_passes, Cond.code yX3_passes cX3_passes 2 (some .boolean), Cond.methodLink RX3 50 yX1_takesCharacter, Cond.static yX1_takesCharacter, Cond.initialized RX1, Cond.code yX1_takesCharacter cX1_takesCharacter 1 (some .boolean), Cond.methodLink RX3 56 yX3_readCharacter, Cond.instanceMethod yX3_readCharacter, Cond.selects RX3 yX3_readCharacter yX3_readCharacter, Cond.code yX3_readCharacter cX3_readCharacter 1 (some .int)]
def wsX8_write_r6 : List Cond := [Cond.methodLink RX3 62 yX1_isPossible, Cond.static yX1_isPossible, Cond.code yX1_isPossible cX1_isPossible 4 (some .boolean), Cond.methodLink RX3 66 yX1_codeOf, Cond.static yX1_codeOf, Cond.code yX1_codeOf cX1_codeOf 4 (some .int), Cond.methodLink RX3 70 yX3_keep, Cond.instanceMethod yX3_keep, Cond.selects RX3 yX3_keep yX3_keep, Cond.code yX3_keep cX3_keep 3 none, Cond.methodLink RX3 74 yX5_placeOf, Cond.instanceMethod yX5_placeOf, Cond.selects RX5 yX5_placeOf yX5_placeOf, Cond.code yX5_placeOf cX5_placeOf 3 (some .int), Cond.methodLink RX5 21 yX5_get, Cond.methodLink RX3 78 yX5_append, Cond.instanceMethod yX5_append, Cond.selects RX5 yX5_append yX5_append, Cond.code yX5_append cX5_append 2 none, Cond.methodLink RX8 55 yX0_record, Cond.instanceMethod yX0_record, Cond.selects RX0 yX0_record yX0_record, Cond.initialized RX0, Cond.code yX0_record cX0_record 2 none]
def wsX8_write_r7 : List Cond := [Cond.fieldLink RX0 18 "ProofSheets$History" "used" "I", Cond.fieldLink RX0 11 "ProofSheets$History" "states" "[LProofSheets$State;", Cond.methodLink RX0 22 yX0_dropOldest, Cond.instanceMethod yX0_dropOldest, Cond.selects RX0 yX0_dropOldest yX0_dropOldest, Cond.code yX0_dropOldest cX0_dropOldest 3 none, Cond.methodLink RX0 25 yX7_copyFrom, Cond.instanceMethod yX7_copyFrom, Cond.selects RX7 yX7_copyFrom yX7_copyFrom, Cond.code yX7_copyFrom cX7_copyFrom 3 none, Cond.fieldLink RX7 14 "ProofSheets$State" "text" "LProofSheets$Row;", Cond.fieldLink RX7 29 "ProofSheets$State" "list" "LProofSheets$MarkList;", Cond.fieldLink RX7 33 "ProofSheets$State" "accounts" "LProofSheets$Row;", Cond.fieldLink RX7 36 "ProofSheets$State" "sentTo" "LProofSheets$Row;", Cond.fieldLink RX7 39 "ProofSheets$State" "madeBy" "LProofSheets$Row;", Cond.fieldLink RX7 42 "ProofSheets$State" "mergedOf" "LProofSheets$Row;", Cond.fieldLink RX7 57 "ProofSheets$State" "round" "I", Cond.methodLink RX7 50 yX5_copyFrom, Cond.instanceMethod yX5_copyFrom, Cond.selects RX5 yX5_copyFrom yX5_copyFrom, Cond.code yX5_copyFrom cX5_copyFrom 3 none, Cond.methodLink RX7 54 yX2_copyFrom, Cond.instanceMethod yX2_copyFrom, Cond.selects RX2 yX2_copyFrom yX2_copyFrom]
def wsX8_write_r8 : List Cond := [Cond.initialized RX2, Cond.code yX2_copyFrom cX2_copyFrom 2 none, Cond.fieldLink RX2 14 "ProofSheets$MarkList" "codes" "LProofSheets$Row;", Cond.fieldLink RX2 20 "ProofSheets$MarkList" "answers" "LProofSheets$Row;", Cond.fieldLink RX2 23 "ProofSheets$MarkList" "sheetCounts" "LProofSheets$Row;", Cond.fieldLink RX2 26 "ProofSheets$MarkList" "lowestReaders" "LProofSheets$Row;", Cond.methodLink RX2 32 yX5_copyFrom, Cond.methodLink RX7 64 yX7_sheetNumbered, Cond.methodLink RX7 68 yX7_copySheet, Cond.static yX7_copySheet, Cond.code yX7_copySheet cX7_copySheet 2 none, Cond.methodLink RX7 72 yX6_copyFrom, Cond.instanceMethod yX6_copyFrom, Cond.selects RX6 yX6_copyFrom yX6_copyFrom, Cond.initialized RX6, Cond.code yX6_copyFrom cX6_copyFrom 2 none, Cond.fieldLink RX6 20 "ProofSheets$Sheet" "reader" "I", Cond.fieldLink RX6 24 "ProofSheets$Sheet" "status" "I", Cond.fieldLink RX6 14 "ProofSheets$Sheet" "marks" "LProofSheets$Row;", Cond.methodLink RX6 30 yX5_copyFrom, Cond.methodLink RX8 222 yX7_writeOn, Cond.instanceMethod yX7_writeOn, Cond.selects RX7 yX7_writeOn yX7_writeOn, Cond.code yX7_writeOn cX7_writeOn 4 none]
def wsX8_write_r9 : List Cond := [Cond.methodLink RX7 90 yX5_used, Cond.methodLink RX7 101 yX5_get, Cond.methodLink RX7 104 yX5_append, Cond.methodLink RX7 78 yX5_add, Cond.instanceMethod yX5_add, Cond.selects RX5 yX5_add yX5_add, Cond.code yX5_add cX5_add 3 none, Cond.methodLink RX5 25 yX5_set, Cond.instanceMethod yX5_set, Cond.selects RX5 yX5_set yX5_set, Cond.code yX5_set cX5_set 3 none]
def wsX8_write : List Cond := .code yX8_write cX8_write 3 (some .int) :: ((wsX8_write_r1 ++ (wsX8_write_r2 ++ (wsX8_write_r3 ++ (wsX8_write_r4 ++ (wsX8_write_r5 ++ (wsX8_write_r6 ++ (wsX8_write_r7 ++ (wsX8_write_r8 ++ wsX8_write_r9)))))))) ++ wsX80 ++ wsX60 ++ wsX70 ++ wsX30 ++ wsX50 ++ wsX00 ++ wsX20)
def wsX9_init : List Cond := .code yX9_init cX9_init 1 none :: ([.methodLink RX9 1 objectInit, .instanceMethod objectInit, .code objectInit ⟨#[0xb1]⟩ 1 none, .arrayClass .int, .fieldLink RX9 7 "ProofSheetsModel" "st" "[I", .fieldLink RX9 13 "ProofSheetsModel" "past" "[I", .fieldLink RX9 16 "ProofSheetsModel" "typed" "[I", .fieldLink RX9 19 "ProofSheetsModel" "made" "[I", .fieldLink RX9 22 "ProofSheetsModel" "read" "[I"] ++ wsX90)
def wsX9_in : List Cond := .code yX9_in cX9_in 3 (some .boolean) :: ([])
def wsX9_records : List Cond := .code yX9_records cX9_records 2 none :: ([.fieldLink RX9 25 "ProofSheetsModel" "pasts" "I", .fieldLink RX9 13 "ProofSheetsModel" "past" "[I", .fieldLink RX9 7 "ProofSheetsModel" "st" "[I"] ++ wsX90)
def wsX9_undo : List Cond := .code yX9_undo cX9_undo 2 (some .int) :: ([.fieldLink RX9 25 "ProofSheetsModel" "pasts" "I", .fieldLink RX9 7 "ProofSheetsModel" "st" "[I", .fieldLink RX9 13 "ProofSheetsModel" "past" "[I"] ++ wsX90)
def wsX9_put : List Cond := .code yX9_put cX9_put 2 (some .int) :: ([.fieldLink RX9 7 "ProofSheetsModel" "st" "[I", .methodLink RX9 29 yX9_in, .static yX9_in, .initialized RX9, .code yX9_in cX9_in 3 (some .boolean), .methodLink RX9 33 yX9_records, .instanceMethod yX9_records, .selects RX9 yX9_records yX9_records, .code yX9_records cX9_records 2 none, .fieldLink RX9 25 "ProofSheetsModel" "pasts" "I", .fieldLink RX9 13 "ProofSheetsModel" "past" "[I"] ++ wsX90)
def wsX9_begin : List Cond := .code yX9_begin cX9_begin 1 (some .int) :: ([.fieldLink RX9 7 "ProofSheetsModel" "st" "[I", .methodLink RX9 33 yX9_records, .instanceMethod yX9_records, .selects RX9 yX9_records yX9_records, .initialized RX9, .code yX9_records cX9_records 2 none, .fieldLink RX9 25 "ProofSheetsModel" "pasts" "I", .fieldLink RX9 13 "ProofSheetsModel" "past" "[I"] ++ wsX90)
def wsX9_sheetAt : List Cond := .code yX9_sheetAt cX9_sheetAt 1 (some .int) :: ([])
def wsX9_of : List Cond := .code yX9_of cX9_of 3 (some .int) :: ([.fieldLink RX9 7 "ProofSheetsModel" "st" "[I"] ++ wsX90)
def wsX9_isSheet : List Cond := .code yX9_isSheet cX9_isSheet 2 (some .boolean) :: ([.fieldLink RX9 7 "ProofSheetsModel" "st" "[I", .methodLink RX9 29 yX9_in, .static yX9_in, .initialized RX9, .code yX9_in cX9_in 3 (some .boolean)] ++ wsX90)
def wsX9_markOf : List Cond := .code yX9_markOf cX9_markOf 2 (some .int) :: ([])
def wsX9_listed : List Cond := .code yX9_listed cX9_listed 1 (some .int) :: ([])
def wsX9_isMark : List Cond := .code yX9_isMark cX9_isMark 2 (some .boolean) :: ([.fieldLink RX9 7 "ProofSheetsModel" "st" "[I", .methodLink RX9 29 yX9_in, .static yX9_in, .initialized RX9, .code yX9_in cX9_in 3 (some .boolean)] ++ wsX90)
def wsX9_isReader : List Cond := .code yX9_isReader cX9_isReader 1 (some .boolean) :: ([.methodLink RX9 29 yX9_in, .static yX9_in, .initialized RX9, .code yX9_in cX9_in 3 (some .boolean)])
def wsX9_inState : List Cond := .code yX9_inState cX9_inState 4 (some .int) :: ([.fieldLink RX9 7 "ProofSheetsModel" "st" "[I", .methodLink RX9 36 yX9_of, .instanceMethod yX9_of, .selects RX9 yX9_of yX9_of, .initialized RX9, .code yX9_of cX9_of 3 (some .int)] ++ wsX90)
def wsX9_isBusy : List Cond := .code yX9_isBusy cX9_isBusy 4 (some .boolean) :: ([.fieldLink RX9 7 "ProofSheetsModel" "st" "[I", .methodLink RX9 36 yX9_of, .instanceMethod yX9_of, .selects RX9 yX9_of yX9_of, .initialized RX9, .code yX9_of cX9_of 3 (some .int)] ++ wsX90)
def wsX9_send_r1 : List Cond := [Cond.fieldLink RX9 7 "ProofSheetsModel" "st" "[I", Cond.methodLink RX9 40 yX9_isReader, Cond.static yX9_isReader, Cond.initialized RX9, Cond.code yX9_isReader cX9_isReader 1 (some .boolean), Cond.methodLink RX9 29 yX9_in, Cond.static yX9_in, Cond.code yX9_in cX9_in 3 (some .boolean), Cond.methodLink RX9 44 yX9_isBusy, Cond.instanceMethod yX9_isBusy, Cond.selects RX9 yX9_isBusy yX9_isBusy, Cond.code yX9_isBusy cX9_isBusy 4 (some .boolean), Cond.methodLink RX9 36 yX9_of, Cond.instanceMethod yX9_of, Cond.selects RX9 yX9_of yX9_of, Cond.code yX9_of cX9_of 3 (some .int), Cond.methodLink RX9 33 yX9_records, Cond.instanceMethod yX9_records, Cond.selects RX9 yX9_records yX9_records, Cond.code yX9_records cX9_records 2 none, Cond.fieldLink RX9 25 "ProofSheetsModel" "pasts" "I", Cond.fieldLink RX9 13 "ProofSheetsModel" "past" "[I", Cond.methodLink RX9 47 yX9_sheetAt, Cond.static yX9_sheetAt]
def wsX9_send_r2 : List Cond := [Cond.code yX9_sheetAt cX9_sheetAt 1 (some .int)]
def wsX9_send : List Cond := .code yX9_send cX9_send 4 (some .int) :: ((wsX9_send_r1 ++ wsX9_send_r2) ++ wsX90)
def wsX9_becomes : List Cond := .code yX9_becomes cX9_becomes 3 (some .int) :: ([.fieldLink RX9 7 "ProofSheetsModel" "st" "[I", .methodLink RX9 33 yX9_records, .instanceMethod yX9_records, .selects RX9 yX9_records yX9_records, .initialized RX9, .code yX9_records cX9_records 2 none, .fieldLink RX9 25 "ProofSheetsModel" "pasts" "I", .fieldLink RX9 13 "ProofSheetsModel" "past" "[I", .methodLink RX9 47 yX9_sheetAt, .static yX9_sheetAt, .code yX9_sheetAt cX9_sheetAt 1 (some .int), .methodLink RX9 36 yX9_of, .instanceMethod yX9_of, .selects RX9 yX9_of yX9_of, .code yX9_of cX9_of 3 (some .int)] ++ wsX90)
def wsX9_bring_r1 : List Cond := [Cond.methodLink RX9 51 yX9_isSheet, Cond.instanceMethod yX9_isSheet, Cond.selects RX9 yX9_isSheet yX9_isSheet, Cond.initialized RX9, Cond.code yX9_isSheet cX9_isSheet 2 (some .boolean), Cond.fieldLink RX9 7 "ProofSheetsModel" "st" "[I", Cond.methodLink RX9 29 yX9_in, Cond.static yX9_in, Cond.code yX9_in cX9_in 3 (some .boolean), Cond.methodLink RX9 36 yX9_of, Cond.instanceMethod yX9_of, Cond.selects RX9 yX9_of yX9_of, Cond.code yX9_of cX9_of 3 (some .int), Cond.methodLink RX9 54 yX9_becomes, Cond.instanceMethod yX9_becomes, Cond.selects RX9 yX9_becomes yX9_becomes, Cond.code yX9_becomes cX9_becomes 3 (some .int), Cond.methodLink RX9 33 yX9_records, Cond.instanceMethod yX9_records, Cond.selects RX9 yX9_records yX9_records, Cond.code yX9_records cX9_records 2 none, Cond.fieldLink RX9 25 "ProofSheetsModel" "pasts" "I", Cond.fieldLink RX9 13 "ProofSheetsModel" "past" "[I", Cond.methodLink RX9 47 yX9_sheetAt]
def wsX9_bring_r2 : List Cond := [Cond.static yX9_sheetAt, Cond.code yX9_sheetAt cX9_sheetAt 1 (some .int)]
def wsX9_bring : List Cond := .code yX9_bring cX9_bring 2 (some .int) :: ((wsX9_bring_r1 ++ wsX9_bring_r2) ++ wsX90)
def wsX9_lose_r1 : List Cond := [Cond.methodLink RX9 51 yX9_isSheet, Cond.instanceMethod yX9_isSheet, Cond.selects RX9 yX9_isSheet yX9_isSheet, Cond.initialized RX9, Cond.code yX9_isSheet cX9_isSheet 2 (some .boolean), Cond.fieldLink RX9 7 "ProofSheetsModel" "st" "[I", Cond.methodLink RX9 29 yX9_in, Cond.static yX9_in, Cond.code yX9_in cX9_in 3 (some .boolean), Cond.methodLink RX9 36 yX9_of, Cond.instanceMethod yX9_of, Cond.selects RX9 yX9_of yX9_of, Cond.code yX9_of cX9_of 3 (some .int), Cond.methodLink RX9 54 yX9_becomes, Cond.instanceMethod yX9_becomes, Cond.selects RX9 yX9_becomes yX9_becomes, Cond.code yX9_becomes cX9_becomes 3 (some .int), Cond.methodLink RX9 33 yX9_records, Cond.instanceMethod yX9_records, Cond.selects RX9 yX9_records yX9_records, Cond.code yX9_records cX9_records 2 none, Cond.fieldLink RX9 25 "ProofSheetsModel" "pasts" "I", Cond.fieldLink RX9 13 "ProofSheetsModel" "past" "[I", Cond.methodLink RX9 47 yX9_sheetAt]
def wsX9_lose_r2 : List Cond := [Cond.static yX9_sheetAt, Cond.code yX9_sheetAt cX9_sheetAt 1 (some .int)]
def wsX9_lose : List Cond := .code yX9_lose cX9_lose 2 (some .int) :: ((wsX9_lose_r1 ++ wsX9_lose_r2) ++ wsX90)
def wsX9_find_r1 : List Cond := [Cond.methodLink RX9 51 yX9_isSheet, Cond.instanceMethod yX9_isSheet, Cond.selects RX9 yX9_isSheet yX9_isSheet, Cond.initialized RX9, Cond.code yX9_isSheet cX9_isSheet 2 (some .boolean), Cond.fieldLink RX9 7 "ProofSheetsModel" "st" "[I", Cond.methodLink RX9 29 yX9_in, Cond.static yX9_in, Cond.code yX9_in cX9_in 3 (some .boolean), Cond.methodLink RX9 36 yX9_of, Cond.instanceMethod yX9_of, Cond.selects RX9 yX9_of yX9_of, Cond.code yX9_of cX9_of 3 (some .int), Cond.methodLink RX9 54 yX9_becomes, Cond.instanceMethod yX9_becomes, Cond.selects RX9 yX9_becomes yX9_becomes, Cond.code yX9_becomes cX9_becomes 3 (some .int), Cond.methodLink RX9 33 yX9_records, Cond.instanceMethod yX9_records, Cond.selects RX9 yX9_records yX9_records, Cond.code yX9_records cX9_records 2 none, Cond.fieldLink RX9 25 "ProofSheetsModel" "pasts" "I", Cond.fieldLink RX9 13 "ProofSheetsModel" "past" "[I", Cond.methodLink RX9 47 yX9_sheetAt]
def wsX9_find_r2 : List Cond := [Cond.static yX9_sheetAt, Cond.code yX9_sheetAt cX9_sheetAt 1 (some .int)]
def wsX9_find : List Cond := .code yX9_find cX9_find 2 (some .int) :: ((wsX9_find_r1 ++ wsX9_find_r2) ++ wsX90)
def wsX9_areLike : List Cond := .code yX9_areLike cX9_areLike 5 (some .boolean) :: ([.fieldLink RX9 7 "ProofSheetsModel" "st" "[I"] ++ wsX90)
def wsX9_behind : List Cond := .code yX9_behind cX9_behind 3 (some .int) :: ([.fieldLink RX9 7 "ProofSheetsModel" "st" "[I"] ++ wsX90)
def wsX9_isWithin : List Cond := .code yX9_isWithin cX9_isWithin 3 (some .boolean) :: ([.fieldLink RX9 7 "ProofSheetsModel" "st" "[I", .methodLink RX9 57 yX9_behind, .instanceMethod yX9_behind, .selects RX9 yX9_behind yX9_behind, .initialized RX9, .code yX9_behind cX9_behind 3 (some .int)] ++ wsX90)
def wsX9_areAgainst : List Cond := .code yX9_areAgainst cX9_areAgainst 5 (some .boolean) :: ([.fieldLink RX9 7 "ProofSheetsModel" "st" "[I", .methodLink RX9 60 yX9_areLike, .instanceMethod yX9_areLike, .selects RX9 yX9_areLike yX9_areLike, .initialized RX9, .code yX9_areLike cX9_areLike 5 (some .boolean), .methodLink RX9 57 yX9_behind, .instanceMethod yX9_behind, .selects RX9 yX9_behind yX9_behind, .code yX9_behind cX9_behind 3 (some .int), .methodLink RX9 64 yX9_isWithin, .instanceMethod yX9_isWithin, .selects RX9 yX9_isWithin yX9_isWithin, .code yX9_isWithin cX9_isWithin 3 (some .boolean)] ++ wsX90)
def wsX9_likeOf : List Cond := .code yX9_likeOf cX9_likeOf 3 (some .int) :: ([.fieldLink RX9 7 "ProofSheetsModel" "st" "[I", .methodLink RX9 67 yX9_listed, .static yX9_listed, .initialized RX9, .code yX9_listed cX9_listed 1 (some .int), .methodLink RX9 60 yX9_areLike, .instanceMethod yX9_areLike, .selects RX9 yX9_areLike yX9_areLike, .code yX9_areLike cX9_areLike 5 (some .boolean)] ++ wsX90)
def wsX9_isBarred : List Cond := .code yX9_isBarred cX9_isBarred 4 (some .boolean) :: ([.fieldLink RX9 7 "ProofSheetsModel" "st" "[I", .methodLink RX9 67 yX9_listed, .static yX9_listed, .initialized RX9, .code yX9_listed cX9_listed 1 (some .int), .methodLink RX9 70 yX9_areAgainst, .instanceMethod yX9_areAgainst, .selects RX9 yX9_areAgainst yX9_areAgainst, .code yX9_areAgainst cX9_areAgainst 5 (some .boolean), .methodLink RX9 60 yX9_areLike, .instanceMethod yX9_areLike, .selects RX9 yX9_areLike yX9_areLike, .code yX9_areLike cX9_areLike 5 (some .boolean), .methodLink RX9 57 yX9_behind, .instanceMethod yX9_behind, .selects RX9 yX9_behind yX9_behind, .code yX9_behind cX9_behind 3 (some .int), .methodLink RX9 64 yX9_isWithin, .instanceMethod yX9_isWithin, .selects RX9 yX9_isWithin yX9_isWithin, .code yX9_isWithin cX9_isWithin 3 (some .boolean)] ++ wsX90)
def wsX9_comes : List Cond := .code yX9_comes cX9_comes 6 (some .boolean) :: ([.fieldLink RX9 7 "ProofSheetsModel" "st" "[I", .methodLink RX9 73 yX9_likeOf, .instanceMethod yX9_likeOf, .selects RX9 yX9_likeOf yX9_likeOf, .initialized RX9, .code yX9_likeOf cX9_likeOf 3 (some .int), .methodLink RX9 67 yX9_listed, .static yX9_listed, .code yX9_listed cX9_listed 1 (some .int), .methodLink RX9 60 yX9_areLike, .instanceMethod yX9_areLike, .selects RX9 yX9_areLike yX9_areLike, .code yX9_areLike cX9_areLike 5 (some .boolean)] ++ wsX90)
def wsX9_merge_r1 : List Cond := [Cond.fieldLink RX9 7 "ProofSheetsModel" "st" "[I", Cond.methodLink RX9 51 yX9_isSheet, Cond.instanceMethod yX9_isSheet, Cond.selects RX9 yX9_isSheet yX9_isSheet, Cond.initialized RX9, Cond.code yX9_isSheet cX9_isSheet 2 (some .boolean), Cond.methodLink RX9 29 yX9_in, Cond.static yX9_in, Cond.code yX9_in cX9_in 3 (some .boolean), Cond.methodLink RX9 36 yX9_of, Cond.instanceMethod yX9_of, Cond.selects RX9 yX9_of yX9_of, Cond.code yX9_of cX9_of 3 (some .int), Cond.methodLink RX9 33 yX9_records, Cond.instanceMethod yX9_records, Cond.selects RX9 yX9_records yX9_records, Cond.code yX9_records cX9_records 2 none, Cond.fieldLink RX9 25 "ProofSheetsModel" "pasts" "I", Cond.fieldLink RX9 13 "ProofSheetsModel" "past" "[I", Cond.methodLink RX9 76 yX9_markOf, Cond.static yX9_markOf, Cond.code yX9_markOf cX9_markOf 2 (some .int), Cond.methodLink RX9 79 yX9_comes, Cond.instanceMethod yX9_comes]
def wsX9_merge_r2 : List Cond := [Cond.selects RX9 yX9_comes yX9_comes, Cond.code yX9_comes cX9_comes 6 (some .boolean), Cond.methodLink RX9 73 yX9_likeOf, Cond.instanceMethod yX9_likeOf, Cond.selects RX9 yX9_likeOf yX9_likeOf, Cond.code yX9_likeOf cX9_likeOf 3 (some .int), Cond.methodLink RX9 67 yX9_listed, Cond.static yX9_listed, Cond.code yX9_listed cX9_listed 1 (some .int), Cond.methodLink RX9 60 yX9_areLike, Cond.instanceMethod yX9_areLike, Cond.selects RX9 yX9_areLike yX9_areLike, Cond.code yX9_areLike cX9_areLike 5 (some .boolean), Cond.methodLink RX9 47 yX9_sheetAt, Cond.static yX9_sheetAt, Cond.code yX9_sheetAt cX9_sheetAt 1 (some .int)]
def wsX9_merge : List Cond := .code yX9_merge cX9_merge 5 (some .int) :: ((wsX9_merge_r1 ++ wsX9_merge_r2) ++ wsX90)
def wsX9_sheetTold_r1 : List Cond := [Cond.methodLink RX9 36 yX9_of, Cond.instanceMethod yX9_of, Cond.selects RX9 yX9_of yX9_of, Cond.initialized RX9, Cond.code yX9_of cX9_of 3 (some .int), Cond.fieldLink RX9 7 "ProofSheetsModel" "st" "[I", Cond.methodLink RX9 76 yX9_markOf, Cond.static yX9_markOf, Cond.code yX9_markOf cX9_markOf 2 (some .int), Cond.methodLink RX9 73 yX9_likeOf, Cond.instanceMethod yX9_likeOf, Cond.selects RX9 yX9_likeOf yX9_likeOf, Cond.code yX9_likeOf cX9_likeOf 3 (some .int), Cond.methodLink RX9 67 yX9_listed, Cond.static yX9_listed, Cond.code yX9_listed cX9_listed 1 (some .int), Cond.methodLink RX9 60 yX9_areLike, Cond.instanceMethod yX9_areLike, Cond.selects RX9 yX9_areLike yX9_areLike, Cond.code yX9_areLike cX9_areLike 5 (some .boolean), Cond.methodLink RX9 82 yX9_isBarred, Cond.instanceMethod yX9_isBarred, Cond.selects RX9 yX9_isBarred yX9_isBarred, Cond.code yX9_isBarred cX9_isBarred 4 (some .boolean)]
def wsX9_sheetTold_r2 : List Cond := [Cond.methodLink RX9 70 yX9_areAgainst, Cond.instanceMethod yX9_areAgainst, Cond.selects RX9 yX9_areAgainst yX9_areAgainst, Cond.code yX9_areAgainst cX9_areAgainst 5 (some .boolean), Cond.methodLink RX9 57 yX9_behind, Cond.instanceMethod yX9_behind, Cond.selects RX9 yX9_behind yX9_behind, Cond.code yX9_behind cX9_behind 3 (some .int), Cond.methodLink RX9 64 yX9_isWithin, Cond.instanceMethod yX9_isWithin, Cond.selects RX9 yX9_isWithin yX9_isWithin, Cond.code yX9_isWithin cX9_isWithin 3 (some .boolean)]
def wsX9_sheetTold : List Cond := .code yX9_sheetTold cX9_sheetTold 6 (some .int) :: ((wsX9_sheetTold_r1 ++ wsX9_sheetTold_r2) ++ wsX90)
def wsX9_sheet_r1 : List Cond := [Cond.methodLink RX9 51 yX9_isSheet, Cond.instanceMethod yX9_isSheet, Cond.selects RX9 yX9_isSheet yX9_isSheet, Cond.initialized RX9, Cond.code yX9_isSheet cX9_isSheet 2 (some .boolean), Cond.fieldLink RX9 7 "ProofSheetsModel" "st" "[I", Cond.methodLink RX9 29 yX9_in, Cond.static yX9_in, Cond.code yX9_in cX9_in 3 (some .boolean), Cond.methodLink RX9 85 yX9_sheetTold, Cond.instanceMethod yX9_sheetTold, Cond.selects RX9 yX9_sheetTold yX9_sheetTold, Cond.code yX9_sheetTold cX9_sheetTold 6 (some .int), Cond.methodLink RX9 36 yX9_of, Cond.instanceMethod yX9_of, Cond.selects RX9 yX9_of yX9_of, Cond.code yX9_of cX9_of 3 (some .int), Cond.methodLink RX9 76 yX9_markOf, Cond.static yX9_markOf, Cond.code yX9_markOf cX9_markOf 2 (some .int), Cond.methodLink RX9 73 yX9_likeOf, Cond.instanceMethod yX9_likeOf, Cond.selects RX9 yX9_likeOf yX9_likeOf, Cond.code yX9_likeOf cX9_likeOf 3 (some .int)]
def wsX9_sheet_r2 : List Cond := [Cond.methodLink RX9 67 yX9_listed, Cond.static yX9_listed, Cond.code yX9_listed cX9_listed 1 (some .int), Cond.methodLink RX9 60 yX9_areLike, Cond.instanceMethod yX9_areLike, Cond.selects RX9 yX9_areLike yX9_areLike, Cond.code yX9_areLike cX9_areLike 5 (some .boolean), Cond.methodLink RX9 82 yX9_isBarred, Cond.instanceMethod yX9_isBarred, Cond.selects RX9 yX9_isBarred yX9_isBarred, Cond.code yX9_isBarred cX9_isBarred 4 (some .boolean), Cond.methodLink RX9 70 yX9_areAgainst, Cond.instanceMethod yX9_areAgainst, Cond.selects RX9 yX9_areAgainst yX9_areAgainst, Cond.code yX9_areAgainst cX9_areAgainst 5 (some .boolean), Cond.methodLink RX9 57 yX9_behind, Cond.instanceMethod yX9_behind, Cond.selects RX9 yX9_behind yX9_behind, Cond.code yX9_behind cX9_behind 3 (some .int), Cond.methodLink RX9 64 yX9_isWithin, Cond.instanceMethod yX9_isWithin, Cond.selects RX9 yX9_isWithin yX9_isWithin, Cond.code yX9_isWithin cX9_isWithin 3 (some .boolean)]
def wsX9_sheet : List Cond := .code yX9_sheet cX9_sheet 3 (some .int) :: ((wsX9_sheet_r1 ++ wsX9_sheet_r2) ++ wsX90)
def wsX9_numberOf : List Cond := .code yX9_numberOf cX9_numberOf 5 (some .int) :: ([.fieldLink RX9 7 "ProofSheetsModel" "st" "[I"] ++ wsX90)
def wsX9_written_r1 : List Cond := [Cond.methodLink RX9 51 yX9_isSheet, Cond.instanceMethod yX9_isSheet, Cond.selects RX9 yX9_isSheet yX9_isSheet, Cond.initialized RX9, Cond.code yX9_isSheet cX9_isSheet 2 (some .boolean), Cond.fieldLink RX9 7 "ProofSheetsModel" "st" "[I", Cond.methodLink RX9 29 yX9_in, Cond.static yX9_in, Cond.code yX9_in cX9_in 3 (some .boolean), Cond.methodLink RX9 36 yX9_of, Cond.instanceMethod yX9_of, Cond.selects RX9 yX9_of yX9_of, Cond.code yX9_of cX9_of 3 (some .int), Cond.methodLink RX9 76 yX9_markOf, Cond.static yX9_markOf, Cond.code yX9_markOf cX9_markOf 2 (some .int), Cond.methodLink RX9 73 yX9_likeOf, Cond.instanceMethod yX9_likeOf, Cond.selects RX9 yX9_likeOf yX9_likeOf, Cond.code yX9_likeOf cX9_likeOf 3 (some .int), Cond.methodLink RX9 67 yX9_listed, Cond.static yX9_listed, Cond.code yX9_listed cX9_listed 1 (some .int), Cond.methodLink RX9 60 yX9_areLike]
def wsX9_written_r2 : List Cond := [Cond.instanceMethod yX9_areLike, Cond.selects RX9 yX9_areLike yX9_areLike, Cond.code yX9_areLike cX9_areLike 5 (some .boolean), Cond.methodLink RX9 88 yX9_numberOf, Cond.instanceMethod yX9_numberOf, Cond.selects RX9 yX9_numberOf yX9_numberOf, Cond.code yX9_numberOf cX9_numberOf 5 (some .int)]
def wsX9_written : List Cond := .code yX9_written cX9_written 5 (some .int) :: ((wsX9_written_r1 ++ wsX9_written_r2) ++ wsX90)
def wsX9_unanswered : List Cond := .code yX9_unanswered cX9_unanswered 3 (some .int) :: ([.fieldLink RX9 7 "ProofSheetsModel" "st" "[I", .methodLink RX9 67 yX9_listed, .static yX9_listed, .initialized RX9, .code yX9_listed cX9_listed 1 (some .int)] ++ wsX90)
def wsX9_againstMany : List Cond := .code yX9_againstMany cX9_againstMany 4 (some .int) :: ([.fieldLink RX9 7 "ProofSheetsModel" "st" "[I", .methodLink RX9 67 yX9_listed, .static yX9_listed, .initialized RX9, .code yX9_listed cX9_listed 1 (some .int), .methodLink RX9 70 yX9_areAgainst, .instanceMethod yX9_areAgainst, .selects RX9 yX9_areAgainst yX9_areAgainst, .code yX9_areAgainst cX9_areAgainst 5 (some .boolean), .methodLink RX9 60 yX9_areLike, .instanceMethod yX9_areLike, .selects RX9 yX9_areLike yX9_areLike, .code yX9_areLike cX9_areLike 5 (some .boolean), .methodLink RX9 57 yX9_behind, .instanceMethod yX9_behind, .selects RX9 yX9_behind yX9_behind, .code yX9_behind cX9_behind 3 (some .int), .methodLink RX9 64 yX9_isWithin, .instanceMethod yX9_isWithin, .selects RX9 yX9_isWithin yX9_isWithin, .code yX9_isWithin cX9_isWithin 3 (some .boolean)] ++ wsX90)
def wsX9_pairs_r1 : List Cond := [Cond.fieldLink RX9 7 "ProofSheetsModel" "st" "[I", Cond.methodLink RX9 67 yX9_listed, Cond.static yX9_listed, Cond.initialized RX9, Cond.code yX9_listed cX9_listed 1 (some .int), Cond.methodLink RX9 91 yX9_againstMany, Cond.instanceMethod yX9_againstMany, Cond.selects RX9 yX9_againstMany yX9_againstMany, Cond.code yX9_againstMany cX9_againstMany 4 (some .int), Cond.methodLink RX9 70 yX9_areAgainst, Cond.instanceMethod yX9_areAgainst, Cond.selects RX9 yX9_areAgainst yX9_areAgainst, Cond.code yX9_areAgainst cX9_areAgainst 5 (some .boolean), Cond.methodLink RX9 60 yX9_areLike, Cond.instanceMethod yX9_areLike, Cond.selects RX9 yX9_areLike yX9_areLike, Cond.code yX9_areLike cX9_areLike 5 (some .boolean), Cond.methodLink RX9 57 yX9_behind, Cond.instanceMethod yX9_behind, Cond.selects RX9 yX9_behind yX9_behind, Cond.code yX9_behind cX9_behind 3 (some .int), Cond.methodLink RX9 64 yX9_isWithin, Cond.instanceMethod yX9_isWithin, Cond.selects RX9 yX9_isWithin yX9_isWithin]
def wsX9_pairs_r2 : List Cond := [Cond.code yX9_isWithin cX9_isWithin 3 (some .boolean)]
def wsX9_pairs : List Cond := .code yX9_pairs cX9_pairs 3 (some .int) :: ((wsX9_pairs_r1 ++ wsX9_pairs_r2) ++ wsX90)
def wsX9_unmerged : List Cond := .code yX9_unmerged cX9_unmerged 3 (some .int) :: ([.fieldLink RX9 7 "ProofSheetsModel" "st" "[I", .methodLink RX9 36 yX9_of, .instanceMethod yX9_of, .selects RX9 yX9_of yX9_of, .initialized RX9, .code yX9_of cX9_of 3 (some .int)] ++ wsX90)
def wsX9_count_r1 : List Cond := [Cond.fieldLink RX9 7 "ProofSheetsModel" "st" "[I", Cond.fieldLink RX9 25 "ProofSheetsModel" "pasts" "I", Cond.fieldLink RX9 101 "ProofSheetsModel" "typedMany" "I", Cond.methodLink RX9 94 yX9_inState, Cond.instanceMethod yX9_inState, Cond.selects RX9 yX9_inState yX9_inState, Cond.initialized RX9, Cond.code yX9_inState cX9_inState 4 (some .int), Cond.methodLink RX9 36 yX9_of, Cond.instanceMethod yX9_of, Cond.selects RX9 yX9_of yX9_of, Cond.code yX9_of cX9_of 3 (some .int), Cond.methodLink RX9 97 yX9_unanswered, Cond.instanceMethod yX9_unanswered, Cond.selects RX9 yX9_unanswered yX9_unanswered, Cond.code yX9_unanswered cX9_unanswered 3 (some .int), Cond.methodLink RX9 67 yX9_listed, Cond.static yX9_listed, Cond.code yX9_listed cX9_listed 1 (some .int), Cond.methodLink RX9 104 yX9_pairs, Cond.instanceMethod yX9_pairs, Cond.selects RX9 yX9_pairs yX9_pairs, Cond.code yX9_pairs cX9_pairs 3 (some .int), Cond.methodLink RX9 91 yX9_againstMany]
def wsX9_count_r2 : List Cond := [Cond.instanceMethod yX9_againstMany, Cond.selects RX9 yX9_againstMany yX9_againstMany, Cond.code yX9_againstMany cX9_againstMany 4 (some .int), Cond.methodLink RX9 70 yX9_areAgainst, Cond.instanceMethod yX9_areAgainst, Cond.selects RX9 yX9_areAgainst yX9_areAgainst, Cond.code yX9_areAgainst cX9_areAgainst 5 (some .boolean), Cond.methodLink RX9 60 yX9_areLike, Cond.instanceMethod yX9_areLike, Cond.selects RX9 yX9_areLike yX9_areLike, Cond.code yX9_areLike cX9_areLike 5 (some .boolean), Cond.methodLink RX9 57 yX9_behind, Cond.instanceMethod yX9_behind, Cond.selects RX9 yX9_behind yX9_behind, Cond.code yX9_behind cX9_behind 3 (some .int), Cond.methodLink RX9 64 yX9_isWithin, Cond.instanceMethod yX9_isWithin, Cond.selects RX9 yX9_isWithin yX9_isWithin, Cond.code yX9_isWithin cX9_isWithin 3 (some .boolean), Cond.methodLink RX9 107 yX9_unmerged, Cond.instanceMethod yX9_unmerged, Cond.selects RX9 yX9_unmerged yX9_unmerged, Cond.code yX9_unmerged cX9_unmerged 3 (some .int), Cond.methodLink RX9 29 yX9_in]
def wsX9_count_r3 : List Cond := [Cond.static yX9_in, Cond.code yX9_in cX9_in 3 (some .boolean)]
def wsX9_count : List Cond := .code yX9_count cX9_count 2 (some .int) :: ((wsX9_count_r1 ++ (wsX9_count_r2 ++ wsX9_count_r3)) ++ wsX90)
def wsX9_at : List Cond := .code yX9_at cX9_at 2 (some .int) :: ([.fieldLink RX9 7 "ProofSheetsModel" "st" "[I"] ++ wsX90)
def wsX9_lowest : List Cond := .code yX9_lowest cX9_lowest 3 (some .int) :: ([])
def wsX9_markTold_r1 : List Cond := [Cond.fieldLink RX9 7 "ProofSheetsModel" "st" "[I", Cond.methodLink RX9 67 yX9_listed, Cond.static yX9_listed, Cond.initialized RX9, Cond.code yX9_listed cX9_listed 1 (some .int), Cond.methodLink RX9 110 yX9_lowest, Cond.instanceMethod yX9_lowest, Cond.selects RX9 yX9_lowest yX9_lowest, Cond.code yX9_lowest cX9_lowest 3 (some .int), Cond.methodLink RX9 91 yX9_againstMany, Cond.instanceMethod yX9_againstMany, Cond.selects RX9 yX9_againstMany yX9_againstMany, Cond.code yX9_againstMany cX9_againstMany 4 (some .int), Cond.methodLink RX9 70 yX9_areAgainst, Cond.instanceMethod yX9_areAgainst, Cond.selects RX9 yX9_areAgainst yX9_areAgainst, Cond.code yX9_areAgainst cX9_areAgainst 5 (some .boolean), Cond.methodLink RX9 60 yX9_areLike, Cond.instanceMethod yX9_areLike, Cond.selects RX9 yX9_areLike yX9_areLike, Cond.code yX9_areLike cX9_areLike 5 (some .boolean), Cond.methodLink RX9 57 yX9_behind, Cond.instanceMethod yX9_behind, Cond.selects RX9 yX9_behind yX9_behind]
def wsX9_markTold_r2 : List Cond := [Cond.code yX9_behind cX9_behind 3 (some .int), Cond.methodLink RX9 64 yX9_isWithin, Cond.instanceMethod yX9_isWithin, Cond.selects RX9 yX9_isWithin yX9_isWithin, Cond.code yX9_isWithin cX9_isWithin 3 (some .boolean), Cond.methodLink RX9 82 yX9_isBarred, Cond.instanceMethod yX9_isBarred, Cond.selects RX9 yX9_isBarred yX9_isBarred, Cond.code yX9_isBarred cX9_isBarred 4 (some .boolean), Cond.methodLink RX9 88 yX9_numberOf, Cond.instanceMethod yX9_numberOf, Cond.selects RX9 yX9_numberOf yX9_numberOf, Cond.code yX9_numberOf cX9_numberOf 5 (some .int)]
def wsX9_markTold : List Cond := .code yX9_markTold cX9_markTold 4 (some .int) :: ((wsX9_markTold_r1 ++ wsX9_markTold_r2) ++ wsX90)
def wsX9_mark_r1 : List Cond := [Cond.methodLink RX9 113 yX9_isMark, Cond.instanceMethod yX9_isMark, Cond.selects RX9 yX9_isMark yX9_isMark, Cond.initialized RX9, Cond.code yX9_isMark cX9_isMark 2 (some .boolean), Cond.fieldLink RX9 7 "ProofSheetsModel" "st" "[I", Cond.methodLink RX9 29 yX9_in, Cond.static yX9_in, Cond.code yX9_in cX9_in 3 (some .boolean), Cond.methodLink RX9 116 yX9_markTold, Cond.instanceMethod yX9_markTold, Cond.selects RX9 yX9_markTold yX9_markTold, Cond.code yX9_markTold cX9_markTold 4 (some .int), Cond.methodLink RX9 67 yX9_listed, Cond.static yX9_listed, Cond.code yX9_listed cX9_listed 1 (some .int), Cond.methodLink RX9 110 yX9_lowest, Cond.instanceMethod yX9_lowest, Cond.selects RX9 yX9_lowest yX9_lowest, Cond.code yX9_lowest cX9_lowest 3 (some .int), Cond.methodLink RX9 91 yX9_againstMany, Cond.instanceMethod yX9_againstMany, Cond.selects RX9 yX9_againstMany yX9_againstMany, Cond.code yX9_againstMany cX9_againstMany 4 (some .int)]
def wsX9_mark_r2 : List Cond := [Cond.methodLink RX9 70 yX9_areAgainst, Cond.instanceMethod yX9_areAgainst, Cond.selects RX9 yX9_areAgainst yX9_areAgainst, Cond.code yX9_areAgainst cX9_areAgainst 5 (some .boolean), Cond.methodLink RX9 60 yX9_areLike, Cond.instanceMethod yX9_areLike, Cond.selects RX9 yX9_areLike yX9_areLike, Cond.code yX9_areLike cX9_areLike 5 (some .boolean), Cond.methodLink RX9 57 yX9_behind, Cond.instanceMethod yX9_behind, Cond.selects RX9 yX9_behind yX9_behind, Cond.code yX9_behind cX9_behind 3 (some .int), Cond.methodLink RX9 64 yX9_isWithin, Cond.instanceMethod yX9_isWithin, Cond.selects RX9 yX9_isWithin yX9_isWithin, Cond.code yX9_isWithin cX9_isWithin 3 (some .boolean), Cond.methodLink RX9 82 yX9_isBarred, Cond.instanceMethod yX9_isBarred, Cond.selects RX9 yX9_isBarred yX9_isBarred, Cond.code yX9_isBarred cX9_isBarred 4 (some .boolean), Cond.methodLink RX9 88 yX9_numberOf, Cond.instanceMethod yX9_numberOf, Cond.selects RX9 yX9_numberOf yX9_numberOf, Cond.code yX9_numberOf cX9_numberOf 5 (some .int)]
def wsX9_mark : List Cond := .code yX9_mark cX9_mark 3 (some .int) :: ((wsX9_mark_r1 ++ wsX9_mark_r2) ++ wsX90)
def wsX9_answer_r1 : List Cond := [Cond.fieldLink RX9 7 "ProofSheetsModel" "st" "[I", Cond.methodLink RX9 113 yX9_isMark, Cond.instanceMethod yX9_isMark, Cond.selects RX9 yX9_isMark yX9_isMark, Cond.initialized RX9, Cond.code yX9_isMark cX9_isMark 2 (some .boolean), Cond.methodLink RX9 29 yX9_in, Cond.static yX9_in, Cond.code yX9_in cX9_in 3 (some .boolean), Cond.methodLink RX9 67 yX9_listed, Cond.static yX9_listed, Cond.code yX9_listed cX9_listed 1 (some .int), Cond.methodLink RX9 82 yX9_isBarred, Cond.instanceMethod yX9_isBarred, Cond.selects RX9 yX9_isBarred yX9_isBarred, Cond.code yX9_isBarred cX9_isBarred 4 (some .boolean), Cond.methodLink RX9 70 yX9_areAgainst, Cond.instanceMethod yX9_areAgainst, Cond.selects RX9 yX9_areAgainst yX9_areAgainst, Cond.code yX9_areAgainst cX9_areAgainst 5 (some .boolean), Cond.methodLink RX9 60 yX9_areLike, Cond.instanceMethod yX9_areLike, Cond.selects RX9 yX9_areLike yX9_areLike, Cond.code yX9_areLike cX9_areLike 5 (some .boolean)]
def wsX9_answer_r2 : List Cond := [Cond.methodLink RX9 57 yX9_behind, Cond.instanceMethod yX9_behind, Cond.selects RX9 yX9_behind yX9_behind, Cond.code yX9_behind cX9_behind 3 (some .int), Cond.methodLink RX9 64 yX9_isWithin, Cond.instanceMethod yX9_isWithin, Cond.selects RX9 yX9_isWithin yX9_isWithin, Cond.code yX9_isWithin cX9_isWithin 3 (some .boolean), Cond.methodLink RX9 33 yX9_records, Cond.instanceMethod yX9_records, Cond.selects RX9 yX9_records yX9_records, Cond.code yX9_records cX9_records 2 none, Cond.fieldLink RX9 25 "ProofSheetsModel" "pasts" "I", Cond.fieldLink RX9 13 "ProofSheetsModel" "past" "[I", Cond.methodLink RX9 97 yX9_unanswered, Cond.instanceMethod yX9_unanswered, Cond.selects RX9 yX9_unanswered yX9_unanswered, Cond.code yX9_unanswered cX9_unanswered 3 (some .int)]
def wsX9_answer : List Cond := .code yX9_answer cX9_answer 4 (some .int) :: ((wsX9_answer_r1 ++ wsX9_answer_r2) ++ wsX90)
def wsX9_against_r1 : List Cond := [Cond.methodLink RX9 113 yX9_isMark, Cond.instanceMethod yX9_isMark, Cond.selects RX9 yX9_isMark yX9_isMark, Cond.initialized RX9, Cond.code yX9_isMark cX9_isMark 2 (some .boolean), Cond.fieldLink RX9 7 "ProofSheetsModel" "st" "[I", Cond.methodLink RX9 29 yX9_in, Cond.static yX9_in, Cond.code yX9_in cX9_in 3 (some .boolean), Cond.methodLink RX9 67 yX9_listed, Cond.static yX9_listed, Cond.code yX9_listed cX9_listed 1 (some .int), Cond.methodLink RX9 70 yX9_areAgainst, Cond.instanceMethod yX9_areAgainst, Cond.selects RX9 yX9_areAgainst yX9_areAgainst, Cond.code yX9_areAgainst cX9_areAgainst 5 (some .boolean), Cond.methodLink RX9 60 yX9_areLike, Cond.instanceMethod yX9_areLike, Cond.selects RX9 yX9_areLike yX9_areLike, Cond.code yX9_areLike cX9_areLike 5 (some .boolean), Cond.methodLink RX9 57 yX9_behind, Cond.instanceMethod yX9_behind, Cond.selects RX9 yX9_behind yX9_behind, Cond.code yX9_behind cX9_behind 3 (some .int)]
def wsX9_against_r2 : List Cond := [Cond.methodLink RX9 64 yX9_isWithin, Cond.instanceMethod yX9_isWithin, Cond.selects RX9 yX9_isWithin yX9_isWithin, Cond.code yX9_isWithin cX9_isWithin 3 (some .boolean)]
def wsX9_against : List Cond := .code yX9_against cX9_against 3 (some .int) :: ((wsX9_against_r1 ++ wsX9_against_r2) ++ wsX90)
def wsX9_next : List Cond := .code yX9_next cX9_next 6 (some .int) :: ([.fieldLink RX9 7 "ProofSheetsModel" "st" "[I", .methodLink RX9 67 yX9_listed, .static yX9_listed, .initialized RX9, .code yX9_listed cX9_listed 1 (some .int)] ++ wsX90)
def wsX9_other : List Cond := .code yX9_other cX9_other 1 (some .int) :: ([.methodLink RX9 29 yX9_in, .static yX9_in, .initialized RX9, .code yX9_in cX9_in 3 (some .boolean)])
def wsX9_isAccepted : List Cond := .code yX9_isAccepted cX9_isAccepted 2 (some .boolean) :: ([.fieldLink RX9 7 "ProofSheetsModel" "st" "[I", .methodLink RX9 67 yX9_listed, .static yX9_listed, .initialized RX9, .code yX9_listed cX9_listed 1 (some .int)] ++ wsX90)
def wsX9_brings : List Cond := .code yX9_brings cX9_brings 4 none :: ([.fieldLink RX9 7 "ProofSheetsModel" "st" "[I", .fieldLink RX9 19 "ProofSheetsModel" "made" "[I", .fieldLink RX9 122 "ProofSheetsModel" "madeMany" "I", .methodLink RX9 67 yX9_listed, .static yX9_listed, .initialized RX9, .code yX9_listed cX9_listed 1 (some .int), .methodLink RX9 119 yX9_isAccepted, .instanceMethod yX9_isAccepted, .selects RX9 yX9_isAccepted yX9_isAccepted, .code yX9_isAccepted cX9_isAccepted 2 (some .boolean)] ++ wsX90)
def wsX9_turned : List Cond := .code yX9_turned cX9_turned 6 (some .int) :: ([.fieldLink RX9 7 "ProofSheetsModel" "st" "[I", .methodLink RX9 67 yX9_listed, .static yX9_listed, .initialized RX9, .code yX9_listed cX9_listed 1 (some .int), .methodLink RX9 119 yX9_isAccepted, .instanceMethod yX9_isAccepted, .selects RX9 yX9_isAccepted yX9_isAccepted, .code yX9_isAccepted cX9_isAccepted 2 (some .boolean), .methodLink RX9 57 yX9_behind, .instanceMethod yX9_behind, .selects RX9 yX9_behind yX9_behind, .code yX9_behind cX9_behind 3 (some .int), .methodLink RX9 29 yX9_in, .static yX9_in, .code yX9_in cX9_in 3 (some .boolean), .methodLink RX9 125 yX9_other, .static yX9_other, .code yX9_other cX9_other 1 (some .int)] ++ wsX90)
def wsX9_makes_r1 : List Cond := [Cond.fieldLink RX9 122 "ProofSheetsModel" "madeMany" "I", Cond.fieldLink RX9 7 "ProofSheetsModel" "st" "[I", Cond.fieldLink RX9 19 "ProofSheetsModel" "made" "[I", Cond.methodLink RX9 128 yX9_brings, Cond.instanceMethod yX9_brings, Cond.selects RX9 yX9_brings yX9_brings, Cond.initialized RX9, Cond.code yX9_brings cX9_brings 4 none, Cond.methodLink RX9 67 yX9_listed, Cond.static yX9_listed, Cond.code yX9_listed cX9_listed 1 (some .int), Cond.methodLink RX9 119 yX9_isAccepted, Cond.instanceMethod yX9_isAccepted, Cond.selects RX9 yX9_isAccepted yX9_isAccepted, Cond.code yX9_isAccepted cX9_isAccepted 2 (some .boolean), Cond.methodLink RX9 132 yX9_turned, Cond.instanceMethod yX9_turned, Cond.selects RX9 yX9_turned yX9_turned, Cond.code yX9_turned cX9_turned 6 (some .int), Cond.methodLink RX9 57 yX9_behind, Cond.instanceMethod yX9_behind, Cond.selects RX9 yX9_behind yX9_behind, Cond.code yX9_behind cX9_behind 3 (some .int), Cond.methodLink RX9 29 yX9_in]
def wsX9_makes_r2 : List Cond := [Cond.static yX9_in, Cond.code yX9_in cX9_in 3 (some .boolean), Cond.methodLink RX9 125 yX9_other, Cond.static yX9_other, Cond.code yX9_other cX9_other 1 (some .int)]
def wsX9_makes : List Cond := .code yX9_makes cX9_makes 3 none :: ((wsX9_makes_r1 ++ wsX9_makes_r2) ++ wsX90)
def wsX9_madeAt : List Cond := .code yX9_madeAt cX9_madeAt 2 (some .int) :: ([.fieldLink RX9 122 "ProofSheetsModel" "madeMany" "I", .fieldLink RX9 19 "ProofSheetsModel" "made" "[I"] ++ wsX90)
def wsX9_would_r1 : List Cond := [Cond.methodLink RX9 135 yX9_makes, Cond.instanceMethod yX9_makes, Cond.selects RX9 yX9_makes yX9_makes, Cond.initialized RX9, Cond.code yX9_makes cX9_makes 3 none, Cond.fieldLink RX9 122 "ProofSheetsModel" "madeMany" "I", Cond.fieldLink RX9 7 "ProofSheetsModel" "st" "[I", Cond.fieldLink RX9 19 "ProofSheetsModel" "made" "[I", Cond.methodLink RX9 128 yX9_brings, Cond.instanceMethod yX9_brings, Cond.selects RX9 yX9_brings yX9_brings, Cond.code yX9_brings cX9_brings 4 none, Cond.methodLink RX9 67 yX9_listed, Cond.static yX9_listed, Cond.code yX9_listed cX9_listed 1 (some .int), Cond.methodLink RX9 119 yX9_isAccepted, Cond.instanceMethod yX9_isAccepted, Cond.selects RX9 yX9_isAccepted yX9_isAccepted, Cond.code yX9_isAccepted cX9_isAccepted 2 (some .boolean), Cond.methodLink RX9 132 yX9_turned, Cond.instanceMethod yX9_turned, Cond.selects RX9 yX9_turned yX9_turned, Cond.code yX9_turned cX9_turned 6 (some .int), Cond.methodLink RX9 57 yX9_behind]
def wsX9_would_r2 : List Cond := [Cond.instanceMethod yX9_behind, Cond.selects RX9 yX9_behind yX9_behind, Cond.code yX9_behind cX9_behind 3 (some .int), Cond.methodLink RX9 29 yX9_in, Cond.static yX9_in, Cond.code yX9_in cX9_in 3 (some .boolean), Cond.methodLink RX9 125 yX9_other, Cond.static yX9_other, Cond.code yX9_other cX9_other 1 (some .int), Cond.methodLink RX9 138 yX9_madeAt, Cond.instanceMethod yX9_madeAt, Cond.selects RX9 yX9_madeAt yX9_madeAt, Cond.code yX9_madeAt cX9_madeAt 2 (some .int)]
def wsX9_would : List Cond := .code yX9_would cX9_would 2 (some .int) :: ((wsX9_would_r1 ++ wsX9_would_r2) ++ wsX90)
def wsX9_shifts : List Cond := .code yX9_shifts cX9_shifts 4 none :: ([.fieldLink RX9 122 "ProofSheetsModel" "madeMany" "I", .fieldLink RX9 19 "ProofSheetsModel" "made" "[I"] ++ wsX90)
def wsX9_carries : List Cond := .code yX9_carries cX9_carries 4 none :: ([.fieldLink RX9 7 "ProofSheetsModel" "st" "[I", .fieldLink RX9 122 "ProofSheetsModel" "madeMany" "I", .fieldLink RX9 19 "ProofSheetsModel" "made" "[I", .methodLink RX9 141 yX9_shifts, .instanceMethod yX9_shifts, .selects RX9 yX9_shifts yX9_shifts, .initialized RX9, .code yX9_shifts cX9_shifts 4 none, .methodLink RX9 125 yX9_other, .static yX9_other, .code yX9_other cX9_other 1 (some .int), .methodLink RX9 29 yX9_in, .static yX9_in, .code yX9_in cX9_in 3 (some .boolean)] ++ wsX90)
def wsX9_makesOneByOne_r1 : List Cond := [Cond.fieldLink RX9 7 "ProofSheetsModel" "st" "[I", Cond.fieldLink RX9 122 "ProofSheetsModel" "madeMany" "I", Cond.fieldLink RX9 19 "ProofSheetsModel" "made" "[I", Cond.methodLink RX9 67 yX9_listed, Cond.static yX9_listed, Cond.initialized RX9, Cond.code yX9_listed cX9_listed 1 (some .int), Cond.methodLink RX9 119 yX9_isAccepted, Cond.instanceMethod yX9_isAccepted, Cond.selects RX9 yX9_isAccepted yX9_isAccepted, Cond.code yX9_isAccepted cX9_isAccepted 2 (some .boolean), Cond.methodLink RX9 145 yX9_carries, Cond.instanceMethod yX9_carries, Cond.selects RX9 yX9_carries yX9_carries, Cond.code yX9_carries cX9_carries 4 none, Cond.methodLink RX9 141 yX9_shifts, Cond.instanceMethod yX9_shifts, Cond.selects RX9 yX9_shifts yX9_shifts, Cond.code yX9_shifts cX9_shifts 4 none, Cond.methodLink RX9 125 yX9_other, Cond.static yX9_other, Cond.code yX9_other cX9_other 1 (some .int), Cond.methodLink RX9 29 yX9_in, Cond.static yX9_in]
def wsX9_makesOneByOne_r2 : List Cond := [Cond.code yX9_in cX9_in 3 (some .boolean)]
def wsX9_makesOneByOne : List Cond := .code yX9_makesOneByOne cX9_makesOneByOne 6 none :: ((wsX9_makesOneByOne_r1 ++ wsX9_makesOneByOne_r2) ++ wsX90)
def wsX9_again_r1 : List Cond := [Cond.methodLink RX9 148 yX9_makesOneByOne, Cond.instanceMethod yX9_makesOneByOne, Cond.selects RX9 yX9_makesOneByOne yX9_makesOneByOne, Cond.initialized RX9, Cond.code yX9_makesOneByOne cX9_makesOneByOne 6 none, Cond.fieldLink RX9 7 "ProofSheetsModel" "st" "[I", Cond.fieldLink RX9 122 "ProofSheetsModel" "madeMany" "I", Cond.fieldLink RX9 19 "ProofSheetsModel" "made" "[I", Cond.methodLink RX9 67 yX9_listed, Cond.static yX9_listed, Cond.code yX9_listed cX9_listed 1 (some .int), Cond.methodLink RX9 119 yX9_isAccepted, Cond.instanceMethod yX9_isAccepted, Cond.selects RX9 yX9_isAccepted yX9_isAccepted, Cond.code yX9_isAccepted cX9_isAccepted 2 (some .boolean), Cond.methodLink RX9 145 yX9_carries, Cond.instanceMethod yX9_carries, Cond.selects RX9 yX9_carries yX9_carries, Cond.code yX9_carries cX9_carries 4 none, Cond.methodLink RX9 141 yX9_shifts, Cond.instanceMethod yX9_shifts, Cond.selects RX9 yX9_shifts yX9_shifts, Cond.code yX9_shifts cX9_shifts 4 none, Cond.methodLink RX9 125 yX9_other]
def wsX9_again_r2 : List Cond := [Cond.static yX9_other, Cond.code yX9_other cX9_other 1 (some .int), Cond.methodLink RX9 29 yX9_in, Cond.static yX9_in, Cond.code yX9_in cX9_in 3 (some .boolean), Cond.methodLink RX9 138 yX9_madeAt, Cond.instanceMethod yX9_madeAt, Cond.selects RX9 yX9_madeAt yX9_madeAt, Cond.code yX9_madeAt cX9_madeAt 2 (some .int)]
def wsX9_again : List Cond := .code yX9_again cX9_again 2 (some .int) :: ((wsX9_again_r1 ++ wsX9_again_r2) ++ wsX90)
def wsX9_finish_r1 : List Cond := [Cond.fieldLink RX9 7 "ProofSheetsModel" "st" "[I", Cond.fieldLink RX9 122 "ProofSheetsModel" "madeMany" "I", Cond.fieldLink RX9 19 "ProofSheetsModel" "made" "[I", Cond.methodLink RX9 94 yX9_inState, Cond.instanceMethod yX9_inState, Cond.selects RX9 yX9_inState yX9_inState, Cond.initialized RX9, Cond.code yX9_inState cX9_inState 4 (some .int), Cond.methodLink RX9 36 yX9_of, Cond.instanceMethod yX9_of, Cond.selects RX9 yX9_of yX9_of, Cond.code yX9_of cX9_of 3 (some .int), Cond.methodLink RX9 97 yX9_unanswered, Cond.instanceMethod yX9_unanswered, Cond.selects RX9 yX9_unanswered yX9_unanswered, Cond.code yX9_unanswered cX9_unanswered 3 (some .int), Cond.methodLink RX9 67 yX9_listed, Cond.static yX9_listed, Cond.code yX9_listed cX9_listed 1 (some .int), Cond.methodLink RX9 33 yX9_records, Cond.instanceMethod yX9_records, Cond.selects RX9 yX9_records yX9_records, Cond.code yX9_records cX9_records 2 none, Cond.fieldLink RX9 25 "ProofSheetsModel" "pasts" "I"]
def wsX9_finish_r2 : List Cond := [Cond.fieldLink RX9 13 "ProofSheetsModel" "past" "[I", Cond.methodLink RX9 107 yX9_unmerged, Cond.instanceMethod yX9_unmerged, Cond.selects RX9 yX9_unmerged yX9_unmerged, Cond.code yX9_unmerged cX9_unmerged 3 (some .int), Cond.methodLink RX9 135 yX9_makes, Cond.instanceMethod yX9_makes, Cond.selects RX9 yX9_makes yX9_makes, Cond.code yX9_makes cX9_makes 3 none, Cond.methodLink RX9 128 yX9_brings, Cond.instanceMethod yX9_brings, Cond.selects RX9 yX9_brings yX9_brings, Cond.code yX9_brings cX9_brings 4 none, Cond.methodLink RX9 119 yX9_isAccepted, Cond.instanceMethod yX9_isAccepted, Cond.selects RX9 yX9_isAccepted yX9_isAccepted, Cond.code yX9_isAccepted cX9_isAccepted 2 (some .boolean), Cond.methodLink RX9 132 yX9_turned, Cond.instanceMethod yX9_turned, Cond.selects RX9 yX9_turned yX9_turned, Cond.code yX9_turned cX9_turned 6 (some .int), Cond.methodLink RX9 57 yX9_behind, Cond.instanceMethod yX9_behind, Cond.selects RX9 yX9_behind yX9_behind]
def wsX9_finish_r3 : List Cond := [Cond.code yX9_behind cX9_behind 3 (some .int), Cond.methodLink RX9 29 yX9_in, Cond.static yX9_in, Cond.code yX9_in cX9_in 3 (some .boolean), Cond.methodLink RX9 125 yX9_other, Cond.static yX9_other, Cond.code yX9_other cX9_other 1 (some .int)]
def wsX9_finish : List Cond := .code yX9_finish cX9_finish 2 (some .int) :: ((wsX9_finish_r1 ++ (wsX9_finish_r2 ++ wsX9_finish_r3)) ++ wsX90)
def wsX9_reader : List Cond := .code yX9_reader cX9_reader 3 (some .int) :: ([.fieldLink RX9 7 "ProofSheetsModel" "st" "[I", .methodLink RX9 40 yX9_isReader, .static yX9_isReader, .initialized RX9, .code yX9_isReader cX9_isReader 1 (some .boolean), .methodLink RX9 29 yX9_in, .static yX9_in, .code yX9_in cX9_in 3 (some .boolean), .methodLink RX9 44 yX9_isBusy, .instanceMethod yX9_isBusy, .selects RX9 yX9_isBusy yX9_isBusy, .code yX9_isBusy cX9_isBusy 4 (some .boolean), .methodLink RX9 36 yX9_of, .instanceMethod yX9_of, .selects RX9 yX9_of yX9_of, .code yX9_of cX9_of 3 (some .int)] ++ wsX90)
def wsX9_type : List Cond := .code yX9_type cX9_type 2 (some .int) :: ([.fieldLink RX9 101 "ProofSheetsModel" "typedMany" "I", .fieldLink RX9 16 "ProofSheetsModel" "typed" "[I", .methodLink RX9 29 yX9_in, .static yX9_in, .initialized RX9, .code yX9_in cX9_in 3 (some .boolean)] ++ wsX90)
def wsX9_clearText : List Cond := .code yX9_clearText cX9_clearText 2 (some .int) :: ([.fieldLink RX9 101 "ProofSheetsModel" "typedMany" "I"] ++ wsX90)
def wsX9_here : List Cond := .code yX9_here cX9_here 1 (some .int) :: ([.fieldLink RX9 151 "ProofSheetsModel" "spot" "I", .fieldLink RX9 101 "ProofSheetsModel" "typedMany" "I", .fieldLink RX9 16 "ProofSheetsModel" "typed" "[I"] ++ wsX90)
def wsX9_takes : List Cond := .code yX9_takes cX9_takes 3 (some .boolean) :: ([.fieldLink RX9 151 "ProofSheetsModel" "spot" "I", .methodLink RX9 154 yX9_here, .instanceMethod yX9_here, .selects RX9 yX9_here yX9_here, .initialized RX9, .code yX9_here cX9_here 1 (some .int), .fieldLink RX9 101 "ProofSheetsModel" "typedMany" "I", .fieldLink RX9 16 "ProofSheetsModel" "typed" "[I"] ++ wsX90)
def wsX9_spelt : List Cond := .code yX9_spelt cX9_spelt 4 (some .int) :: ([])
def wsX9_wordHere : List Cond := .code yX9_wordHere cX9_wordHere 5 (some .int) :: ([.fieldLink RX9 151 "ProofSheetsModel" "spot" "I", .methodLink RX9 154 yX9_here, .instanceMethod yX9_here, .selects RX9 yX9_here yX9_here, .initialized RX9, .code yX9_here cX9_here 1 (some .int), .fieldLink RX9 101 "ProofSheetsModel" "typedMany" "I", .fieldLink RX9 16 "ProofSheetsModel" "typed" "[I", .methodLink RX9 29 yX9_in, .static yX9_in, .code yX9_in cX9_in 3 (some .boolean), .methodLink RX9 157 yX9_spelt, .static yX9_spelt, .code yX9_spelt cX9_spelt 4 (some .int)] ++ wsX90)
def wsX9_takesPosition : List Cond := .code yX9_takesPosition cX9_takesPosition 3 (some .int) :: ([.fieldLink RX9 151 "ProofSheetsModel" "spot" "I", .methodLink RX9 161 yX9_takes, .instanceMethod yX9_takes, .selects RX9 yX9_takes yX9_takes, .initialized RX9, .code yX9_takes cX9_takes 3 (some .boolean), .methodLink RX9 154 yX9_here, .instanceMethod yX9_here, .selects RX9 yX9_here yX9_here, .code yX9_here cX9_here 1 (some .int), .fieldLink RX9 101 "ProofSheetsModel" "typedMany" "I", .fieldLink RX9 16 "ProofSheetsModel" "typed" "[I", .methodLink RX9 29 yX9_in, .static yX9_in, .code yX9_in cX9_in 3 (some .boolean)] ++ wsX90)
def wsX9_isFormed : List Cond := .code yX9_isFormed cX9_isFormed 4 (some .boolean) :: ([.fieldLink RX9 164 "ProofSheetsModel" "readMany" "I", .fieldLink RX9 22 "ProofSheetsModel" "read" "[I", .fieldLink RX9 151 "ProofSheetsModel" "spot" "I", .fieldLink RX9 101 "ProofSheetsModel" "typedMany" "I", .methodLink RX9 167 yX9_takesPosition, .instanceMethod yX9_takesPosition, .selects RX9 yX9_takesPosition yX9_takesPosition, .initialized RX9, .code yX9_takesPosition cX9_takesPosition 3 (some .int), .methodLink RX9 161 yX9_takes, .instanceMethod yX9_takes, .selects RX9 yX9_takes yX9_takes, .code yX9_takes cX9_takes 3 (some .boolean), .methodLink RX9 154 yX9_here, .instanceMethod yX9_here, .selects RX9 yX9_here yX9_here, .code yX9_here cX9_here 1 (some .int), .fieldLink RX9 16 "ProofSheetsModel" "typed" "[I", .methodLink RX9 29 yX9_in, .static yX9_in, .code yX9_in cX9_in 3 (some .boolean)] ++ wsX90)
def wsX9_isInRange : List Cond := .code yX9_isInRange cX9_isInRange 4 (some .boolean) :: ([.fieldLink RX9 164 "ProofSheetsModel" "readMany" "I", .fieldLink RX9 22 "ProofSheetsModel" "read" "[I", .fieldLink RX9 7 "ProofSheetsModel" "st" "[I"] ++ wsX90)
def wsX9_isThere : List Cond := .code yX9_isThere cX9_isThere 8 (some .boolean) :: ([.fieldLink RX9 164 "ProofSheetsModel" "readMany" "I", .fieldLink RX9 22 "ProofSheetsModel" "read" "[I", .fieldLink RX9 7 "ProofSheetsModel" "st" "[I", .methodLink RX9 36 yX9_of, .instanceMethod yX9_of, .selects RX9 yX9_of yX9_of, .initialized RX9, .code yX9_of cX9_of 3 (some .int), .methodLink RX9 76 yX9_markOf, .static yX9_markOf, .code yX9_markOf cX9_markOf 2 (some .int)] ++ wsX90)
def wsX9_reason_r1 : List Cond := [Cond.fieldLink RX9 151 "ProofSheetsModel" "spot" "I", Cond.fieldLink RX9 170 "ProofSheetsModel" "from" "I", Cond.fieldLink RX9 164 "ProofSheetsModel" "readMany" "I", Cond.methodLink RX9 173 yX9_wordHere, Cond.instanceMethod yX9_wordHere, Cond.selects RX9 yX9_wordHere yX9_wordHere, Cond.initialized RX9, Cond.code yX9_wordHere cX9_wordHere 5 (some .int), Cond.methodLink RX9 154 yX9_here, Cond.instanceMethod yX9_here, Cond.selects RX9 yX9_here yX9_here, Cond.code yX9_here cX9_here 1 (some .int), Cond.fieldLink RX9 101 "ProofSheetsModel" "typedMany" "I", Cond.fieldLink RX9 16 "ProofSheetsModel" "typed" "[I", Cond.methodLink RX9 29 yX9_in, Cond.static yX9_in, Cond.code yX9_in cX9_in 3 (some .boolean), Cond.methodLink RX9 157 yX9_spelt, Cond.static yX9_spelt, Cond.code yX9_spelt cX9_spelt 4 (some .int), Cond.methodLink RX9 176 yX9_isFormed, Cond.instanceMethod yX9_isFormed, Cond.selects RX9 yX9_isFormed yX9_isFormed, Cond.code yX9_isFormed cX9_isFormed 4 (some .boolean)]
def wsX9_reason_r2 : List Cond := [Cond.fieldLink RX9 22 "ProofSheetsModel" "read" "[I", Cond.methodLink RX9 167 yX9_takesPosition, Cond.instanceMethod yX9_takesPosition, Cond.selects RX9 yX9_takesPosition yX9_takesPosition, Cond.code yX9_takesPosition cX9_takesPosition 3 (some .int), Cond.methodLink RX9 161 yX9_takes, Cond.instanceMethod yX9_takes, Cond.selects RX9 yX9_takes yX9_takes, Cond.code yX9_takes cX9_takes 3 (some .boolean), Cond.methodLink RX9 179 yX9_isInRange, Cond.instanceMethod yX9_isInRange, Cond.selects RX9 yX9_isInRange yX9_isInRange, Cond.code yX9_isInRange cX9_isInRange 4 (some .boolean), Cond.fieldLink RX9 7 "ProofSheetsModel" "st" "[I", Cond.methodLink RX9 183 yX9_isThere, Cond.instanceMethod yX9_isThere, Cond.selects RX9 yX9_isThere yX9_isThere, Cond.code yX9_isThere cX9_isThere 8 (some .boolean), Cond.methodLink RX9 36 yX9_of, Cond.instanceMethod yX9_of, Cond.selects RX9 yX9_of yX9_of, Cond.code yX9_of cX9_of 3 (some .int), Cond.methodLink RX9 76 yX9_markOf, Cond.static yX9_markOf]
def wsX9_reason_r3 : List Cond := [Cond.code yX9_markOf cX9_markOf 2 (some .int)]
def wsX9_reason : List Cond := .code yX9_reason cX9_reason 3 (some .int) :: ((wsX9_reason_r1 ++ (wsX9_reason_r2 ++ wsX9_reason_r3)) ++ wsX90)
def wsX9_readsAll_r1 : List Cond := [Cond.fieldLink RX9 151 "ProofSheetsModel" "spot" "I", Cond.fieldLink RX9 164 "ProofSheetsModel" "readMany" "I", Cond.fieldLink RX9 101 "ProofSheetsModel" "typedMany" "I", Cond.methodLink RX9 186 yX9_reason, Cond.instanceMethod yX9_reason, Cond.selects RX9 yX9_reason yX9_reason, Cond.initialized RX9, Cond.code yX9_reason cX9_reason 3 (some .int), Cond.fieldLink RX9 170 "ProofSheetsModel" "from" "I", Cond.methodLink RX9 173 yX9_wordHere, Cond.instanceMethod yX9_wordHere, Cond.selects RX9 yX9_wordHere yX9_wordHere, Cond.code yX9_wordHere cX9_wordHere 5 (some .int), Cond.methodLink RX9 154 yX9_here, Cond.instanceMethod yX9_here, Cond.selects RX9 yX9_here yX9_here, Cond.code yX9_here cX9_here 1 (some .int), Cond.fieldLink RX9 16 "ProofSheetsModel" "typed" "[I", Cond.methodLink RX9 29 yX9_in, Cond.static yX9_in, Cond.code yX9_in cX9_in 3 (some .boolean), Cond.methodLink RX9 157 yX9_spelt, Cond.static yX9_spelt, Cond.code yX9_spelt cX9_spelt 4 (some .int)]
def wsX9_readsAll_r2 : List Cond := [Cond.methodLink RX9 176 yX9_isFormed, Cond.instanceMethod yX9_isFormed, Cond.selects RX9 yX9_isFormed yX9_isFormed, Cond.code yX9_isFormed cX9_isFormed 4 (some .boolean), Cond.fieldLink RX9 22 "ProofSheetsModel" "read" "[I", Cond.methodLink RX9 167 yX9_takesPosition, Cond.instanceMethod yX9_takesPosition, Cond.selects RX9 yX9_takesPosition yX9_takesPosition, Cond.code yX9_takesPosition cX9_takesPosition 3 (some .int), Cond.methodLink RX9 161 yX9_takes, Cond.instanceMethod yX9_takes, Cond.selects RX9 yX9_takes yX9_takes, Cond.code yX9_takes cX9_takes 3 (some .boolean), Cond.methodLink RX9 179 yX9_isInRange, Cond.instanceMethod yX9_isInRange, Cond.selects RX9 yX9_isInRange yX9_isInRange, Cond.code yX9_isInRange cX9_isInRange 4 (some .boolean), Cond.fieldLink RX9 7 "ProofSheetsModel" "st" "[I", Cond.methodLink RX9 183 yX9_isThere, Cond.instanceMethod yX9_isThere, Cond.selects RX9 yX9_isThere yX9_isThere, Cond.code yX9_isThere cX9_isThere 8 (some .boolean), Cond.methodLink RX9 36 yX9_of, Cond.instanceMethod yX9_of]
def wsX9_readsAll_r3 : List Cond := [Cond.selects RX9 yX9_of yX9_of, Cond.code yX9_of cX9_of 3 (some .int), Cond.methodLink RX9 76 yX9_markOf, Cond.static yX9_markOf, Cond.code yX9_markOf cX9_markOf 2 (some .int)]
def wsX9_readsAll : List Cond := .code yX9_readsAll cX9_readsAll 3 (some .int) :: ((wsX9_readsAll_r1 ++ (wsX9_readsAll_r2 ++ wsX9_readsAll_r3)) ++ wsX90)
def wsX9_fault_r1 : List Cond := [Cond.fieldLink RX9 170 "ProofSheetsModel" "from" "I", Cond.methodLink RX9 51 yX9_isSheet, Cond.instanceMethod yX9_isSheet, Cond.selects RX9 yX9_isSheet yX9_isSheet, Cond.initialized RX9, Cond.code yX9_isSheet cX9_isSheet 2 (some .boolean), Cond.fieldLink RX9 7 "ProofSheetsModel" "st" "[I", Cond.methodLink RX9 29 yX9_in, Cond.static yX9_in, Cond.code yX9_in cX9_in 3 (some .boolean), Cond.methodLink RX9 189 yX9_readsAll, Cond.instanceMethod yX9_readsAll, Cond.selects RX9 yX9_readsAll yX9_readsAll, Cond.code yX9_readsAll cX9_readsAll 3 (some .int), Cond.fieldLink RX9 151 "ProofSheetsModel" "spot" "I", Cond.fieldLink RX9 164 "ProofSheetsModel" "readMany" "I", Cond.fieldLink RX9 101 "ProofSheetsModel" "typedMany" "I", Cond.methodLink RX9 186 yX9_reason, Cond.instanceMethod yX9_reason, Cond.selects RX9 yX9_reason yX9_reason, Cond.code yX9_reason cX9_reason 3 (some .int), Cond.methodLink RX9 173 yX9_wordHere, Cond.instanceMethod yX9_wordHere, Cond.selects RX9 yX9_wordHere yX9_wordHere]
def wsX9_fault_r2 : List Cond := [Cond.code yX9_wordHere cX9_wordHere 5 (some .int), Cond.methodLink RX9 154 yX9_here, Cond.instanceMethod yX9_here, Cond.selects RX9 yX9_here yX9_here, Cond.code yX9_here cX9_here 1 (some .int), Cond.fieldLink RX9 16 "ProofSheetsModel" "typed" "[I", Cond.methodLink RX9 157 yX9_spelt, Cond.static yX9_spelt, Cond.code yX9_spelt cX9_spelt 4 (some .int), Cond.methodLink RX9 176 yX9_isFormed, Cond.instanceMethod yX9_isFormed, Cond.selects RX9 yX9_isFormed yX9_isFormed, Cond.code yX9_isFormed cX9_isFormed 4 (some .boolean), Cond.fieldLink RX9 22 "ProofSheetsModel" "read" "[I", Cond.methodLink RX9 167 yX9_takesPosition, Cond.instanceMethod yX9_takesPosition, Cond.selects RX9 yX9_takesPosition yX9_takesPosition, Cond.code yX9_takesPosition cX9_takesPosition 3 (some .int), Cond.methodLink RX9 161 yX9_takes, Cond.instanceMethod yX9_takes, Cond.selects RX9 yX9_takes yX9_takes, Cond.code yX9_takes cX9_takes 3 (some .boolean), Cond.methodLink RX9 179 yX9_isInRange, Cond.instanceMethod yX9_isInRange]
def wsX9_fault_r3 : List Cond := [Cond.selects RX9 yX9_isInRange yX9_isInRange, Cond.code yX9_isInRange cX9_isInRange 4 (some .boolean), Cond.methodLink RX9 183 yX9_isThere, Cond.instanceMethod yX9_isThere, Cond.selects RX9 yX9_isThere yX9_isThere, Cond.code yX9_isThere cX9_isThere 8 (some .boolean), Cond.methodLink RX9 36 yX9_of, Cond.instanceMethod yX9_of, Cond.selects RX9 yX9_of yX9_of, Cond.code yX9_of cX9_of 3 (some .int), Cond.methodLink RX9 76 yX9_markOf, Cond.static yX9_markOf, Cond.code yX9_markOf cX9_markOf 2 (some .int)]
def wsX9_fault : List Cond := .code yX9_fault cX9_fault 4 (some .int) :: ((wsX9_fault_r1 ++ (wsX9_fault_r2 ++ wsX9_fault_r3)) ++ wsX90)
def wsX9_write_r1 : List Cond := [Cond.fieldLink RX9 164 "ProofSheetsModel" "readMany" "I", Cond.fieldLink RX9 7 "ProofSheetsModel" "st" "[I", Cond.fieldLink RX9 22 "ProofSheetsModel" "read" "[I", Cond.methodLink RX9 51 yX9_isSheet, Cond.instanceMethod yX9_isSheet, Cond.selects RX9 yX9_isSheet yX9_isSheet, Cond.initialized RX9, Cond.code yX9_isSheet cX9_isSheet 2 (some .boolean), Cond.methodLink RX9 29 yX9_in, Cond.static yX9_in, Cond.code yX9_in cX9_in 3 (some .boolean), Cond.methodLink RX9 36 yX9_of, Cond.instanceMethod yX9_of, Cond.selects RX9 yX9_of yX9_of, Cond.code yX9_of cX9_of 3 (some .int), Cond.methodLink RX9 189 yX9_readsAll, Cond.instanceMethod yX9_readsAll, Cond.selects RX9 yX9_readsAll yX9_readsAll, Cond.code yX9_readsAll cX9_readsAll 3 (some .int), Cond.fieldLink RX9 151 "ProofSheetsModel" "spot" "I", Cond.fieldLink RX9 101 "ProofSheetsModel" "typedMany" "I", Cond.methodLink RX9 186 yX9_reason, Cond.instanceMethod yX9_reason, Cond.selects RX9 yX9_reason yX9_reason]
def wsX9_write_r2 : List Cond := [Cond.code yX9_reason cX9_reason 3 (some .int), Cond.fieldLink RX9 170 "ProofSheetsModel" "from" "I", Cond.methodLink RX9 173 yX9_wordHere, Cond.instanceMethod yX9_wordHere, Cond.selects RX9 yX9_wordHere yX9_wordHere, Cond.code yX9_wordHere cX9_wordHere 5 (some .int), Cond.methodLink RX9 154 yX9_here, Cond.instanceMethod yX9_here, Cond.selects RX9 yX9_here yX9_here, Cond.code yX9_here cX9_here 1 (some .int), Cond.fieldLink RX9 16 "ProofSheetsModel" "typed" "[I", Cond.methodLink RX9 157 yX9_spelt, Cond.static yX9_spelt, Cond.code yX9_spelt cX9_spelt 4 (some .int), Cond.methodLink RX9 176 yX9_isFormed, Cond.instanceMethod yX9_isFormed, Cond.selects RX9 yX9_isFormed yX9_isFormed, Cond.code yX9_isFormed cX9_isFormed 4 (some .boolean), Cond.methodLink RX9 167 yX9_takesPosition, Cond.instanceMethod yX9_takesPosition, Cond.selects RX9 yX9_takesPosition yX9_takesPosition, Cond.code yX9_takesPosition cX9_takesPosition 3 (some .int), Cond.methodLink RX9 161 yX9_takes, Cond.instanceMethod yX9_takes]
def wsX9_write_r3 : List Cond := [Cond.selects RX9 yX9_takes yX9_takes, Cond.code yX9_takes cX9_takes 3 (some .boolean), Cond.methodLink RX9 179 yX9_isInRange, Cond.instanceMethod yX9_isInRange, Cond.selects RX9 yX9_isInRange yX9_isInRange, Cond.code yX9_isInRange cX9_isInRange 4 (some .boolean), Cond.methodLink RX9 183 yX9_isThere, Cond.instanceMethod yX9_isThere, Cond.selects RX9 yX9_isThere yX9_isThere, Cond.code yX9_isThere cX9_isThere 8 (some .boolean), Cond.methodLink RX9 76 yX9_markOf, Cond.static yX9_markOf, Cond.code yX9_markOf cX9_markOf 2 (some .int), Cond.methodLink RX9 33 yX9_records, Cond.instanceMethod yX9_records, Cond.selects RX9 yX9_records yX9_records, Cond.code yX9_records cX9_records 2 none, Cond.fieldLink RX9 25 "ProofSheetsModel" "pasts" "I", Cond.fieldLink RX9 13 "ProofSheetsModel" "past" "[I", Cond.methodLink RX9 47 yX9_sheetAt, Cond.static yX9_sheetAt, Cond.code yX9_sheetAt cX9_sheetAt 1 (some .int)]
def wsX9_write : List Cond := .code yX9_write cX9_write 4 (some .int) :: ((wsX9_write_r1 ++ (wsX9_write_r2 ++ wsX9_write_r3)) ++ wsX90)
def wsJ9_min_7cf53 : List Cond := .code yJ9_min_7cf53 cJ9_min_7cf53 2 (some .int) :: ([])
def wsL_law_r1 : List Cond := [Cond.classLink RL 7 RX8, Cond.instantiable RX8 4, Cond.initialized RX8, Cond.classLink RL 10 RX9, Cond.instantiable RX9 11, Cond.initialized RX9, Cond.methodLink RL 9 yX8_init, Cond.instanceMethod yX8_init, Cond.code yX8_init cX8_init 1 none, Cond.methodLink RX8 3 objectInit, Cond.instanceMethod objectInit, Cond.code objectInit ⟨#[0xb1]⟩ 1 none, Cond.classLink RX8 9 RX7, Cond.instantiable RX7 9, Cond.initialized RX7, Cond.fieldLink RX8 12 "ProofSheets" "now" "LProofSheets$State;", Cond.classLink RX8 16 RX0, Cond.instantiable RX0 2, Cond.initialized RX0, Cond.fieldLink RX8 19 "ProofSheets" "history" "LProofSheets$History;", Cond.classLink RX8 23 RX3, Cond.instantiable RX3 5, Cond.initialized RX3, Cond.fieldLink RX8 26 "ProofSheets" "markText" "LProofSheets$MarkText;"]
def wsL_law_r2 : List Cond := [Cond.classLink RX8 30 RX4, Cond.instantiable RX4 4, Cond.initialized RX4, Cond.fieldLink RX8 33 "ProofSheets" "press" "LProofSheets$Press;", Cond.methodLink RX8 11 yX7_init, Cond.instanceMethod yX7_init, Cond.code yX7_init cX7_init 2 none, Cond.methodLink RX7 3 objectInit, Cond.classLink RX7 9 RX5, Cond.instantiable RX5 2, Cond.initialized RX5, Cond.fieldLink RX7 14 "ProofSheets$State" "text" "LProofSheets$Row;", Cond.classLink RX7 20 RX6, Cond.fieldLink RX7 22 "ProofSheets$State" "sheets" "[LProofSheets$Sheet;", Cond.classLink RX7 26 RX2, Cond.instantiable RX2 4, Cond.initialized RX2, Cond.fieldLink RX7 29 "ProofSheets$State" "list" "LProofSheets$MarkList;", Cond.fieldLink RX7 33 "ProofSheets$State" "accounts" "LProofSheets$Row;", Cond.fieldLink RX7 36 "ProofSheets$State" "sentTo" "LProofSheets$Row;", Cond.fieldLink RX7 39 "ProofSheets$State" "madeBy" "LProofSheets$Row;", Cond.fieldLink RX7 42 "ProofSheets$State" "mergedOf" "LProofSheets$Row;", Cond.instantiable RX6 3, Cond.initialized RX6]
def wsL_law_r3 : List Cond := [Cond.methodLink RX7 11 yX5_init, Cond.instanceMethod yX5_init, Cond.code yX5_init cX5_init 2 none, Cond.methodLink RX5 1 objectInit, Cond.arrayClass .int, Cond.fieldLink RX5 7 "ProofSheets$Row" "cells" "[I", Cond.instanceMethod yX2_init, Cond.code yX2_init cX2_init 1 none, Cond.methodLink RX2 3 objectInit, Cond.classLink RX2 9 RX5, Cond.fieldLink RX2 14 "ProofSheets$MarkList" "codes" "LProofSheets$Row;", Cond.fieldLink RX2 20 "ProofSheets$MarkList" "answers" "LProofSheets$Row;", Cond.fieldLink RX2 23 "ProofSheets$MarkList" "sheetCounts" "LProofSheets$Row;", Cond.fieldLink RX2 26 "ProofSheets$MarkList" "lowestReaders" "LProofSheets$Row;", Cond.methodLink RX2 11 yX5_init, Cond.instanceMethod yX6_init, Cond.code yX6_init cX6_init 1 none, Cond.methodLink RX6 3 objectInit, Cond.classLink RX6 9 RX5, Cond.fieldLink RX6 14 "ProofSheets$Sheet" "marks" "LProofSheets$Row;", Cond.methodLink RX6 11 yX5_init, Cond.methodLink RX7 46 yX5_fill, Cond.instanceMethod yX5_fill, Cond.selects RX5 yX5_fill yX5_fill]
def wsL_law_r4 : List Cond := [Cond.code yX5_fill cX5_fill 4 none, Cond.fieldLink RX5 13 "ProofSheets$Row" "used" "I", Cond.methodLink RX5 29 yX5_append, Cond.instanceMethod yX5_append, Cond.selects RX5 yX5_append yX5_append, Cond.code yX5_append cX5_append 2 none, Cond.methodLink RX8 18 yX0_init, Cond.instanceMethod yX0_init, Cond.code yX0_init cX0_init 2 none, Cond.methodLink RX0 3 objectInit, Cond.classLink RX0 9 RX7, Cond.fieldLink RX0 11 "ProofSheets$History" "states" "[LProofSheets$State;", Cond.methodLink RX0 17 yX7_init, Cond.instanceMethod yX3_init, Cond.code yX3_init cX3_init 1 none, Cond.methodLink RX3 3 objectInit, Cond.classLink RX3 9 RX5, Cond.fieldLink RX3 14 "ProofSheets$MarkText" "signs" "LProofSheets$Row;", Cond.fieldLink RX3 20 "ProofSheets$MarkText" "codes" "LProofSheets$Row;", Cond.methodLink RX3 11 yX5_init, Cond.instanceMethod yX4_init, Cond.code yX4_init cX4_init 1 none, Cond.methodLink RX4 3 objectInit, Cond.classLink RX4 9 RX5]
def wsL_law_r5 : List Cond := [Cond.fieldLink RX4 14 "ProofSheets$Press" "ahead" "LProofSheets$Row;", Cond.fieldLink RX4 20 "ProofSheets$Press" "instead" "LProofSheets$Row;", Cond.fieldLink RX4 23 "ProofSheets$Press" "turns" "LProofSheets$Row;", Cond.fieldLink RX4 26 "ProofSheets$Press" "paper" "LProofSheets$Row;", Cond.methodLink RX4 11 yX5_init, Cond.methodLink RL 12 yX9_init, Cond.instanceMethod yX9_init, Cond.code yX9_init cX9_init 1 none, Cond.methodLink RX9 1 objectInit, Cond.fieldLink RX9 7 "ProofSheetsModel" "st" "[I", Cond.fieldLink RX9 13 "ProofSheetsModel" "past" "[I", Cond.fieldLink RX9 16 "ProofSheetsModel" "typed" "[I", Cond.fieldLink RX9 19 "ProofSheetsModel" "made" "[I", Cond.fieldLink RX9 22 "ProofSheetsModel" "read" "[I", Cond.methodLink RL 13 yX8_put, Cond.instanceMethod yX8_put, Cond.selects RX8 yX8_put yX8_put, Cond.code yX8_put cX8_put 2 (some .int), Cond.methodLink RX8 37 yX8_isNoCharacter, Cond.static yX8_isNoCharacter, Cond.code yX8_isNoCharacter cX8_isNoCharacter 1 (some .boolean), Cond.methodLink RX8 112 yX8_isOutside, Cond.static yX8_isOutside, Cond.code yX8_isOutside cX8_isOutside 3 (some .boolean)]
def wsL_law_r6 : List Cond := [Cond.methodLink RX8 49 yX5_used, Cond.instanceMethod yX5_used, Cond.selects RX5 yX5_used yX5_used, Cond.code yX5_used cX5_used 1 (some .int), Cond.methodLink RX8 55 yX0_record, Cond.instanceMethod yX0_record, Cond.selects RX0 yX0_record yX0_record, Cond.code yX0_record cX0_record 2 none, Cond.fieldLink RX0 18 "ProofSheets$History" "used" "I", Cond.methodLink RX0 22 yX0_dropOldest, Cond.instanceMethod yX0_dropOldest, Cond.selects RX0 yX0_dropOldest yX0_dropOldest, Cond.code yX0_dropOldest cX0_dropOldest 3 none, Cond.methodLink RX0 25 yX7_copyFrom, Cond.instanceMethod yX7_copyFrom, Cond.selects RX7 yX7_copyFrom yX7_copyFrom, Cond.code yX7_copyFrom cX7_copyFrom 3 none, Cond.fieldLink RX7 57 "ProofSheets$State" "round" "I", Cond.fieldLink RX7 61 "ProofSheets$State" "sheetCount" "I", Cond.methodLink RX7 50 yX5_copyFrom, Cond.instanceMethod yX5_copyFrom, Cond.selects RX5 yX5_copyFrom yX5_copyFrom, Cond.code yX5_copyFrom cX5_copyFrom 3 none, Cond.methodLink RX7 54 yX2_copyFrom]
def wsL_law_r7 : List Cond := [Cond.instanceMethod yX2_copyFrom, Cond.selects RX2 yX2_copyFrom yX2_copyFrom, Cond.code yX2_copyFrom cX2_copyFrom 2 none, Cond.methodLink RX2 32 yX5_copyFrom, Cond.methodLink RX7 64 yX7_sheetNumbered, Cond.instanceMethod yX7_sheetNumbered, Cond.selects RX7 yX7_sheetNumbered yX7_sheetNumbered, Cond.code yX7_sheetNumbered cX7_sheetNumbered 2 (some (.object "ProofSheets$Sheet")), Cond.methodLink RX7 68 yX7_copySheet, Cond.static yX7_copySheet, Cond.code yX7_copySheet cX7_copySheet 2 none, Cond.methodLink RX7 72 yX6_copyFrom, Cond.instanceMethod yX6_copyFrom, Cond.selects RX6 yX6_copyFrom yX6_copyFrom, Cond.code yX6_copyFrom cX6_copyFrom 2 none, Cond.fieldLink RX6 20 "ProofSheets$Sheet" "reader" "I", Cond.fieldLink RX6 24 "ProofSheets$Sheet" "status" "I", Cond.methodLink RX6 30 yX5_copyFrom, Cond.methodLink RX8 59 yX5_append, Cond.methodLink RL 17 yX9_put, Cond.instanceMethod yX9_put, Cond.selects RX9 yX9_put yX9_put, Cond.code yX9_put cX9_put 2 (some .int), Cond.methodLink RX9 29 yX9_in]
def wsL_law_r8 : List Cond := [Cond.static yX9_in, Cond.code yX9_in cX9_in 3 (some .boolean), Cond.methodLink RX9 33 yX9_records, Cond.instanceMethod yX9_records, Cond.selects RX9 yX9_records yX9_records, Cond.code yX9_records cX9_records 2 none, Cond.fieldLink RX9 25 "ProofSheetsModel" "pasts" "I", Cond.methodLink RL 18 yX8_begin, Cond.instanceMethod yX8_begin, Cond.selects RX8 yX8_begin yX8_begin, Cond.code yX8_begin cX8_begin 1 (some .int), Cond.methodLink RL 22 yX9_begin, Cond.instanceMethod yX9_begin, Cond.selects RX9 yX9_begin yX9_begin, Cond.code yX9_begin cX9_begin 1 (some .int), Cond.methodLink RL 23 yX8_send, Cond.instanceMethod yX8_send, Cond.selects RX8 yX8_send yX8_send, Cond.code yX8_send cX8_send 2 (some .int), Cond.methodLink RX8 63 yX8_isNoReader, Cond.static yX8_isNoReader, Cond.code yX8_isNoReader cX8_isNoReader 1 (some .boolean), Cond.methodLink RX8 66 yX7_hasSheetOut, Cond.instanceMethod yX7_hasSheetOut]
def wsL_law_r9 : List Cond := [Cond.selects RX7 yX7_hasSheetOut yX7_hasSheetOut, Cond.code yX7_hasSheetOut cX7_hasSheetOut 4 (some .boolean), Cond.methodLink RX8 72 yX7_addSheet, Cond.instanceMethod yX7_addSheet, Cond.selects RX7 yX7_addSheet yX7_addSheet, Cond.code yX7_addSheet cX7_addSheet 3 (some .int), Cond.methodLink RX7 75 yX6_startFor, Cond.instanceMethod yX6_startFor, Cond.selects RX6 yX6_startFor yX6_startFor, Cond.code yX6_startFor cX6_startFor 2 none, Cond.methodLink RX6 27 yX5_cutTo, Cond.instanceMethod yX5_cutTo, Cond.selects RX5 yX5_cutTo yX5_cutTo, Cond.code yX5_cutTo cX5_cutTo 2 none, Cond.methodLink RX7 78 yX5_add, Cond.instanceMethod yX5_add, Cond.selects RX5 yX5_add yX5_add, Cond.code yX5_add cX5_add 3 none, Cond.methodLink RX5 21 yX5_get, Cond.instanceMethod yX5_get, Cond.selects RX5 yX5_get yX5_get, Cond.code yX5_get cX5_get 2 (some .int), Cond.methodLink RX5 17 yX5_hasNot, Cond.instanceMethod yX5_hasNot]
def wsL_law_r10 : List Cond := [Cond.selects RX5 yX5_hasNot yX5_hasNot, Cond.code yX5_hasNot cX5_hasNot 2 (some .boolean), Cond.methodLink RX5 25 yX5_set, Cond.instanceMethod yX5_set, Cond.selects RX5 yX5_set yX5_set, Cond.code yX5_set cX5_set 3 none, Cond.methodLink RL 26 yX9_send, Cond.instanceMethod yX9_send, Cond.selects RX9 yX9_send yX9_send, Cond.code yX9_send cX9_send 4 (some .int), Cond.methodLink RX9 40 yX9_isReader, Cond.static yX9_isReader, Cond.code yX9_isReader cX9_isReader 1 (some .boolean), Cond.methodLink RX9 44 yX9_isBusy, Cond.instanceMethod yX9_isBusy, Cond.selects RX9 yX9_isBusy yX9_isBusy, Cond.code yX9_isBusy cX9_isBusy 4 (some .boolean), Cond.methodLink RX9 36 yX9_of, Cond.instanceMethod yX9_of, Cond.selects RX9 yX9_of yX9_of, Cond.code yX9_of cX9_of 3 (some .int), Cond.methodLink RX9 47 yX9_sheetAt, Cond.static yX9_sheetAt, Cond.code yX9_sheetAt cX9_sheetAt 1 (some .int)]
def wsL_law_r11 : List Cond := [Cond.methodLink RL 27 yX8_bring, Cond.instanceMethod yX8_bring, Cond.selects RX8 yX8_bring yX8_bring, Cond.code yX8_bring cX8_bring 3 (some .int), Cond.methodLink RX8 76 yX7_sheetNumbered, Cond.methodLink RX8 85 yX8_putSheet, Cond.instanceMethod yX8_putSheet, Cond.selects RX8 yX8_putSheet yX8_putSheet, Cond.code yX8_putSheet cX8_putSheet 3 (some .int), Cond.methodLink RL 30 yX9_bring, Cond.instanceMethod yX9_bring, Cond.selects RX9 yX9_bring yX9_bring, Cond.code yX9_bring cX9_bring 2 (some .int), Cond.methodLink RX9 51 yX9_isSheet, Cond.instanceMethod yX9_isSheet, Cond.selects RX9 yX9_isSheet yX9_isSheet, Cond.code yX9_isSheet cX9_isSheet 2 (some .boolean), Cond.methodLink RX9 54 yX9_becomes, Cond.instanceMethod yX9_becomes, Cond.selects RX9 yX9_becomes yX9_becomes, Cond.code yX9_becomes cX9_becomes 3 (some .int), Cond.methodLink RL 31 yX8_lose, Cond.instanceMethod yX8_lose, Cond.selects RX8 yX8_lose yX8_lose]
def wsL_law_r12 : List Cond := [Cond.code yX8_lose cX8_lose 3 (some .int), Cond.methodLink RL 34 yX9_lose, Cond.instanceMethod yX9_lose, Cond.selects RX9 yX9_lose yX9_lose, Cond.code yX9_lose cX9_lose 2 (some .int), Cond.methodLink RL 35 yX8_find, Cond.instanceMethod yX8_find, Cond.selects RX8 yX8_find yX8_find, Cond.code yX8_find cX8_find 3 (some .int), Cond.methodLink RL 38 yX9_find, Cond.instanceMethod yX9_find, Cond.selects RX9 yX9_find yX9_find, Cond.code yX9_find cX9_find 2 (some .int), Cond.methodLink RL 39 yX8_merge, Cond.instanceMethod yX8_merge, Cond.selects RX8 yX8_merge yX8_merge, Cond.code yX8_merge cX8_merge 3 (some .int), Cond.methodLink RX8 89 yX7_mergeMarksOf, Cond.instanceMethod yX7_mergeMarksOf, Cond.selects RX7 yX7_mergeMarksOf yX7_mergeMarksOf, Cond.code yX7_mergeMarksOf cX7_mergeMarksOf 4 (some .int), Cond.methodLink RX7 90 yX5_used, Cond.methodLink RX7 101 yX5_get, Cond.methodLink RX7 107 yX2_take]
def wsL_law_r13 : List Cond := [Cond.instanceMethod yX2_take, Cond.selects RX2 yX2_take yX2_take, Cond.code yX2_take cX2_take 4 (some .boolean), Cond.methodLink RX2 55 Lib.Math.min.name, Cond.static Lib.Math.min.name, Cond.initialized "java/lang/Math", Cond.code Lib.Math.min.name Lib.Math.min.code 2 (some .int), Cond.methodLink RX2 44 yX5_placeOf, Cond.instanceMethod yX5_placeOf, Cond.selects RX5 yX5_placeOf yX5_placeOf, Cond.code yX5_placeOf cX5_placeOf 3 (some .int), Cond.methodLink RX2 48 yX5_add, Cond.methodLink RX2 52 yX5_get, Cond.methodLink RX2 61 yX5_set, Cond.methodLink RX2 64 yX5_append, Cond.methodLink RL 42 yX9_merge, Cond.instanceMethod yX9_merge, Cond.selects RX9 yX9_merge yX9_merge, Cond.code yX9_merge cX9_merge 5 (some .int), Cond.methodLink RX9 76 yX9_markOf, Cond.static yX9_markOf, Cond.code yX9_markOf cX9_markOf 2 (some .int), Cond.methodLink RX9 79 yX9_comes, Cond.instanceMethod yX9_comes]
def wsL_law_r14 : List Cond := [Cond.selects RX9 yX9_comes yX9_comes, Cond.code yX9_comes cX9_comes 6 (some .boolean), Cond.methodLink RX9 73 yX9_likeOf, Cond.instanceMethod yX9_likeOf, Cond.selects RX9 yX9_likeOf yX9_likeOf, Cond.code yX9_likeOf cX9_likeOf 3 (some .int), Cond.methodLink RX9 67 yX9_listed, Cond.static yX9_listed, Cond.code yX9_listed cX9_listed 1 (some .int), Cond.methodLink RX9 60 yX9_areLike, Cond.instanceMethod yX9_areLike, Cond.selects RX9 yX9_areLike yX9_areLike, Cond.code yX9_areLike cX9_areLike 5 (some .boolean), Cond.methodLink RL 43 yX8_sheet, Cond.instanceMethod yX8_sheet, Cond.selects RX8 yX8_sheet yX8_sheet, Cond.code yX8_sheet cX8_sheet 4 (some .int), Cond.methodLink RX8 103 yX2_howManyAreListed, Cond.instanceMethod yX2_howManyAreListed, Cond.selects RX2 yX2_howManyAreListed yX2_howManyAreListed, Cond.code yX2_howManyAreListed cX2_howManyAreListed 4 (some .int), Cond.methodLink RX2 36 yX5_used, Cond.methodLink RX8 109 yX2_howManyMeetAnAccepted, Cond.instanceMethod yX2_howManyMeetAnAccepted]
def wsL_law_r15 : List Cond := [Cond.selects RX2 yX2_howManyMeetAnAccepted yX2_howManyMeetAnAccepted, Cond.code yX2_howManyMeetAnAccepted cX2_howManyMeetAnAccepted 4 (some .int), Cond.methodLink RX2 76 yX2_meetsAnAccepted, Cond.instanceMethod yX2_meetsAnAccepted, Cond.selects RX2 yX2_meetsAnAccepted yX2_meetsAnAccepted, Cond.code yX2_meetsAnAccepted cX2_meetsAnAccepted 3 (some .boolean), Cond.methodLink RX2 67 yX1_areOpposed, Cond.static yX1_areOpposed, Cond.initialized RX1, Cond.code yX1_areOpposed cX1_areOpposed 4 (some .boolean), Cond.methodLink RX1 9 yX1_kindOf, Cond.static yX1_kindOf, Cond.code yX1_kindOf cX1_kindOf 1 (some .int), Cond.methodLink RX1 15 yX1_firstOf, Cond.static yX1_firstOf, Cond.code yX1_firstOf cX1_firstOf 1 (some .int), Cond.methodLink RX1 28 yX1_endOf, Cond.static yX1_endOf, Cond.code yX1_endOf cX1_endOf 1 (some .int), Cond.methodLink RX1 18 yX1_secondOf, Cond.static yX1_secondOf, Cond.code yX1_secondOf cX1_secondOf 1 (some .int), Cond.methodLink RL 47 yX9_sheet, Cond.instanceMethod yX9_sheet]
def wsL_law_r16 : List Cond := [Cond.selects RX9 yX9_sheet yX9_sheet, Cond.code yX9_sheet cX9_sheet 3 (some .int), Cond.methodLink RX9 85 yX9_sheetTold, Cond.instanceMethod yX9_sheetTold, Cond.selects RX9 yX9_sheetTold yX9_sheetTold, Cond.code yX9_sheetTold cX9_sheetTold 6 (some .int), Cond.methodLink RX9 82 yX9_isBarred, Cond.instanceMethod yX9_isBarred, Cond.selects RX9 yX9_isBarred yX9_isBarred, Cond.code yX9_isBarred cX9_isBarred 4 (some .boolean), Cond.methodLink RX9 70 yX9_areAgainst, Cond.instanceMethod yX9_areAgainst, Cond.selects RX9 yX9_areAgainst yX9_areAgainst, Cond.code yX9_areAgainst cX9_areAgainst 5 (some .boolean), Cond.methodLink RX9 57 yX9_behind, Cond.instanceMethod yX9_behind, Cond.selects RX9 yX9_behind yX9_behind, Cond.code yX9_behind cX9_behind 3 (some .int), Cond.methodLink RX9 64 yX9_isWithin, Cond.instanceMethod yX9_isWithin, Cond.selects RX9 yX9_isWithin yX9_isWithin, Cond.code yX9_isWithin cX9_isWithin 3 (some .boolean), Cond.methodLink RL 48 yX8_written, Cond.instanceMethod yX8_written]
def wsL_law_r17 : List Cond := [Cond.selects RX8 yX8_written yX8_written, Cond.code yX8_written cX8_written 7 (some .int), Cond.methodLink RX8 116 yX5_get, Cond.methodLink RX8 119 yX1_partOf, Cond.static yX1_partOf, Cond.code yX1_partOf cX1_partOf 2 (some .int), Cond.methodLink RX1 21 yX1_takesCharacter, Cond.static yX1_takesCharacter, Cond.code yX1_takesCharacter cX1_takesCharacter 1 (some .boolean), Cond.methodLink RX1 25 yX1_characterOf, Cond.static yX1_characterOf, Cond.code yX1_characterOf cX1_characterOf 1 (some .int), Cond.methodLink RX8 128 yX5_placeOf, Cond.methodLink RL 52 yX9_written, Cond.instanceMethod yX9_written, Cond.selects RX9 yX9_written yX9_written, Cond.code yX9_written cX9_written 5 (some .int), Cond.methodLink RX9 88 yX9_numberOf, Cond.instanceMethod yX9_numberOf, Cond.selects RX9 yX9_numberOf yX9_numberOf, Cond.code yX9_numberOf cX9_numberOf 5 (some .int), Cond.methodLink RL 53 yX8_undo, Cond.instanceMethod yX8_undo, Cond.selects RX8 yX8_undo yX8_undo]
def wsL_law_r18 : List Cond := [Cond.code yX8_undo cX8_undo 1 (some .int), Cond.methodLink RX8 133 yX0_restore, Cond.instanceMethod yX0_restore, Cond.selects RX0 yX0_restore yX0_restore, Cond.code yX0_restore cX0_restore 3 none, Cond.methodLink RL 56 yX9_undo, Cond.instanceMethod yX9_undo, Cond.selects RX9 yX9_undo yX9_undo, Cond.code yX9_undo cX9_undo 2 (some .int), Cond.methodLink RL 57 yX8_count, Cond.instanceMethod yX8_count, Cond.selects RX8 yX8_count yX8_count, Cond.code yX8_count cX8_count 2 (some .int), Cond.methodLink RX8 136 yX7_account, Cond.instanceMethod yX7_account, Cond.selects RX7 yX7_account yX7_account, Cond.code yX7_account cX7_account 2 (some .int), Cond.methodLink RX7 94 yX7_marksOnSheetsThatAre, Cond.instanceMethod yX7_marksOnSheetsThatAre, Cond.selects RX7 yX7_marksOnSheetsThatAre yX7_marksOnSheetsThatAre, Cond.code yX7_marksOnSheetsThatAre cX7_marksOnSheetsThatAre 5 (some .int), Cond.methodLink RX7 98 yX2_howManyAreOpen, Cond.instanceMethod yX2_howManyAreOpen, Cond.selects RX2 yX2_howManyAreOpen yX2_howManyAreOpen]
def wsL_law_r19 : List Cond := [Cond.code yX2_howManyAreOpen cX2_howManyAreOpen 3 (some .int), Cond.methodLink RX8 139 yX7_howManySheetsAre, Cond.instanceMethod yX7_howManySheetsAre, Cond.selects RX7 yX7_howManySheetsAre yX7_howManySheetsAre, Cond.code yX7_howManySheetsAre cX7_howManySheetsAre 5 (some .int), Cond.methodLink RX8 142 yX2_howManyAreOpen, Cond.methodLink RX8 148 yX2_opposedPairs, Cond.instanceMethod yX2_opposedPairs, Cond.selects RX2 yX2_opposedPairs yX2_opposedPairs, Cond.code yX2_opposedPairs cX2_opposedPairs 3 (some .int), Cond.methodLink RX2 73 yX2_howManyOppose, Cond.instanceMethod yX2_howManyOppose, Cond.selects RX2 yX2_howManyOppose yX2_howManyOppose, Cond.code yX2_howManyOppose cX2_howManyOppose 4 (some .int), Cond.methodLink RL 60 yX9_count, Cond.instanceMethod yX9_count, Cond.selects RX9 yX9_count yX9_count, Cond.code yX9_count cX9_count 2 (some .int), Cond.fieldLink RX9 101 "ProofSheetsModel" "typedMany" "I", Cond.methodLink RX9 94 yX9_inState, Cond.instanceMethod yX9_inState, Cond.selects RX9 yX9_inState yX9_inState, Cond.code yX9_inState cX9_inState 4 (some .int), Cond.methodLink RX9 97 yX9_unanswered]
def wsL_law_r20 : List Cond := [Cond.instanceMethod yX9_unanswered, Cond.selects RX9 yX9_unanswered yX9_unanswered, Cond.code yX9_unanswered cX9_unanswered 3 (some .int), Cond.methodLink RX9 104 yX9_pairs, Cond.instanceMethod yX9_pairs, Cond.selects RX9 yX9_pairs yX9_pairs, Cond.code yX9_pairs cX9_pairs 3 (some .int), Cond.methodLink RX9 91 yX9_againstMany, Cond.instanceMethod yX9_againstMany, Cond.selects RX9 yX9_againstMany yX9_againstMany, Cond.code yX9_againstMany cX9_againstMany 4 (some .int), Cond.methodLink RX9 107 yX9_unmerged, Cond.instanceMethod yX9_unmerged, Cond.selects RX9 yX9_unmerged yX9_unmerged, Cond.code yX9_unmerged cX9_unmerged 3 (some .int), Cond.methodLink RL 61 yX8_at, Cond.instanceMethod yX8_at, Cond.selects RX8 yX8_at yX8_at, Cond.code yX8_at cX8_at 2 (some .int), Cond.methodLink RX8 151 yX8_characterIn, Cond.static yX8_characterIn, Cond.code yX8_characterIn cX8_characterIn 2 (some .int), Cond.methodLink RL 64 yX9_at, Cond.instanceMethod yX9_at]
def wsL_law_r21 : List Cond := [Cond.selects RX9 yX9_at yX9_at, Cond.code yX9_at cX9_at 2 (some .int), Cond.methodLink RL 65 yX8_mark, Cond.instanceMethod yX8_mark, Cond.selects RX8 yX8_mark yX8_mark, Cond.code yX8_mark cX8_mark 4 (some .int), Cond.methodLink RX8 155 yX2_hasNot, Cond.instanceMethod yX2_hasNot, Cond.selects RX2 yX2_hasNot yX2_hasNot, Cond.code yX2_hasNot cX2_hasNot 2 (some .boolean), Cond.methodLink RX8 167 yX2_howManyOppose, Cond.methodLink RX8 170 yX2_canBeAccepted, Cond.instanceMethod yX2_canBeAccepted, Cond.selects RX2 yX2_canBeAccepted yX2_canBeAccepted, Cond.code yX2_canBeAccepted cX2_canBeAccepted 2 (some .boolean), Cond.methodLink RL 68 yX9_mark, Cond.instanceMethod yX9_mark, Cond.selects RX9 yX9_mark yX9_mark, Cond.code yX9_mark cX9_mark 3 (some .int), Cond.methodLink RX9 113 yX9_isMark, Cond.instanceMethod yX9_isMark, Cond.selects RX9 yX9_isMark yX9_isMark, Cond.code yX9_isMark cX9_isMark 2 (some .boolean), Cond.methodLink RX9 116 yX9_markTold]
def wsL_law_r22 : List Cond := [Cond.instanceMethod yX9_markTold, Cond.selects RX9 yX9_markTold yX9_markTold, Cond.code yX9_markTold cX9_markTold 4 (some .int), Cond.methodLink RX9 110 yX9_lowest, Cond.instanceMethod yX9_lowest, Cond.selects RX9 yX9_lowest yX9_lowest, Cond.code yX9_lowest cX9_lowest 3 (some .int), Cond.methodLink RL 69 yX8_answer, Cond.instanceMethod yX8_answer, Cond.selects RX8 yX8_answer yX8_answer, Cond.code yX8_answer cX8_answer 3 (some .int), Cond.methodLink RX8 173 yX7_keepAnswer, Cond.instanceMethod yX7_keepAnswer, Cond.selects RX7 yX7_keepAnswer yX7_keepAnswer, Cond.code yX7_keepAnswer cX7_keepAnswer 3 none, Cond.methodLink RX7 114 yX5_set, Cond.methodLink RL 72 yX9_answer, Cond.instanceMethod yX9_answer, Cond.selects RX9 yX9_answer yX9_answer, Cond.code yX9_answer cX9_answer 4 (some .int), Cond.methodLink RL 73 yX8_against, Cond.instanceMethod yX8_against, Cond.selects RX8 yX8_against yX8_against, Cond.code yX8_against cX8_against 3 (some .int)]
def wsL_law_r23 : List Cond := [Cond.methodLink RX8 177 yX1_areOpposed, Cond.methodLink RL 76 yX9_against, Cond.instanceMethod yX9_against, Cond.selects RX9 yX9_against yX9_against, Cond.code yX9_against cX9_against 3 (some .int), Cond.methodLink RL 77 yX8_next, Cond.instanceMethod yX8_next, Cond.selects RX8 yX8_next yX8_next, Cond.code yX8_next cX8_next 2 (some .int), Cond.methodLink RX8 181 yX2_mostWanted, Cond.instanceMethod yX2_mostWanted, Cond.selects RX2 yX2_mostWanted yX2_mostWanted, Cond.code yX2_mostWanted cX2_mostWanted 3 (some .int), Cond.methodLink RX2 80 yX2_isMoreWanted, Cond.instanceMethod yX2_isMoreWanted, Cond.selects RX2 yX2_isMoreWanted yX2_isMoreWanted, Cond.code yX2_isMoreWanted cX2_isMoreWanted 3 (some .boolean), Cond.methodLink RX2 83 yX1_firstOf, Cond.methodLink RL 80 yX9_next, Cond.instanceMethod yX9_next, Cond.selects RX9 yX9_next yX9_next, Cond.code yX9_next cX9_next 6 (some .int), Cond.methodLink RL 81 yX8_finish, Cond.instanceMethod yX8_finish]
def wsL_law_r24 : List Cond := [Cond.selects RX8 yX8_finish yX8_finish, Cond.code yX8_finish cX8_finish 1 (some .int), Cond.methodLink RX8 184 yX7_canBeFinished, Cond.instanceMethod yX7_canBeFinished, Cond.selects RX7 yX7_canBeFinished yX7_canBeFinished, Cond.code yX7_canBeFinished cX7_canBeFinished 1 (some .boolean), Cond.methodLink RX7 117 yX7_howManySheetsAre, Cond.methodLink RX8 188 yX4_printAtOnce, Cond.instanceMethod yX4_printAtOnce, Cond.selects RX4 yX4_printAtOnce yX4_printAtOnce, Cond.code yX4_printAtOnce cX4_printAtOnce 4 (some (.object "ProofSheets$Row")), Cond.methodLink RX4 29 yX5_used, Cond.methodLink RX4 33 yX5_fill, Cond.methodLink RX4 37 yX5_copyFrom, Cond.methodLink RX4 49 yX5_get, Cond.methodLink RX4 53 yX4_arrange, Cond.instanceMethod yX4_arrange, Cond.selects RX4 yX4_arrange yX4_arrange, Cond.code yX4_arrange cX4_arrange 5 none, Cond.methodLink RX4 63 yX1_firstOf, Cond.methodLink RX4 68 yX1_kindOf, Cond.methodLink RX4 71 yX1_secondOf, Cond.methodLink RX4 74 yX5_set, Cond.methodLink RX4 77 yX1_characterOf]
def wsL_law_r25 : List Cond := [Cond.methodLink RX4 80 yX4_otherCase, Cond.static yX4_otherCase, Cond.code yX4_otherCase cX4_otherCase 1 (some .int), Cond.methodLink RX4 57 yX5_cutTo, Cond.methodLink RX4 60 yX4_printIfAny, Cond.instanceMethod yX4_printIfAny, Cond.selects RX4 yX4_printIfAny yX4_printIfAny, Cond.code yX4_printIfAny cX4_printIfAny 2 none, Cond.methodLink RX4 83 yX5_append, Cond.methodLink RX8 192 yX7_endRound, Cond.instanceMethod yX7_endRound, Cond.selects RX7 yX7_endRound yX7_endRound, Cond.code yX7_endRound cX7_endRound 2 none, Cond.methodLink RX7 120 yX2_empty, Cond.instanceMethod yX2_empty, Cond.selects RX2 yX2_empty yX2_empty, Cond.code yX2_empty cX2_empty 1 none, Cond.methodLink RX2 29 yX5_cutTo, Cond.methodLink RL 84 yX9_finish, Cond.instanceMethod yX9_finish, Cond.selects RX9 yX9_finish yX9_finish, Cond.code yX9_finish cX9_finish 2 (some .int), Cond.fieldLink RX9 122 "ProofSheetsModel" "madeMany" "I", Cond.methodLink RX9 135 yX9_makes]
def wsL_law_r26 : List Cond := [Cond.instanceMethod yX9_makes, Cond.selects RX9 yX9_makes yX9_makes, Cond.code yX9_makes cX9_makes 3 none, Cond.methodLink RX9 128 yX9_brings, Cond.instanceMethod yX9_brings, Cond.selects RX9 yX9_brings yX9_brings, Cond.code yX9_brings cX9_brings 4 none, Cond.methodLink RX9 119 yX9_isAccepted, Cond.instanceMethod yX9_isAccepted, Cond.selects RX9 yX9_isAccepted yX9_isAccepted, Cond.code yX9_isAccepted cX9_isAccepted 2 (some .boolean), Cond.methodLink RX9 132 yX9_turned, Cond.instanceMethod yX9_turned, Cond.selects RX9 yX9_turned yX9_turned, Cond.code yX9_turned cX9_turned 6 (some .int), Cond.methodLink RX9 125 yX9_other, Cond.static yX9_other, Cond.code yX9_other cX9_other 1 (some .int), Cond.methodLink RL 85 yX8_would, Cond.instanceMethod yX8_would, Cond.selects RX8 yX8_would yX8_would, Cond.code yX8_would cX8_would 2 (some .int), Cond.methodLink RL 88 yX9_would, Cond.instanceMethod yX9_would]
def wsL_law_r27 : List Cond := [Cond.selects RX9 yX9_would yX9_would, Cond.code yX9_would cX9_would 2 (some .int), Cond.methodLink RX9 138 yX9_madeAt, Cond.instanceMethod yX9_madeAt, Cond.selects RX9 yX9_madeAt yX9_madeAt, Cond.code yX9_madeAt cX9_madeAt 2 (some .int), Cond.methodLink RL 89 yX8_again, Cond.instanceMethod yX8_again, Cond.selects RX8 yX8_again yX8_again, Cond.code yX8_again cX8_again 2 (some .int), Cond.methodLink RX8 196 yX4_printInTurn, Cond.instanceMethod yX4_printInTurn, Cond.selects RX4 yX4_printInTurn yX4_printInTurn, Cond.code yX4_printInTurn cX4_printInTurn 4 (some (.object "ProofSheets$Row")), Cond.methodLink RX4 86 yX4_turnOf, Cond.instanceMethod yX4_turnOf, Cond.selects RX4 yX4_turnOf yX4_turnOf, Cond.code yX4_turnOf cX4_turnOf 3 (some .int), Cond.methodLink RX4 95 yX4_goesBefore, Cond.static yX4_goesBefore, Cond.code yX4_goesBefore cX4_goesBefore 2 (some .boolean), Cond.methodLink RX4 89 yX5_insert, Cond.instanceMethod yX5_insert, Cond.selects RX5 yX5_insert yX5_insert]
def wsL_law_r28 : List Cond := [Cond.code yX5_insert cX5_insert 4 none, Cond.methodLink RX4 92 yX4_carryOut, Cond.instanceMethod yX4_carryOut, Cond.selects RX4 yX4_carryOut yX4_carryOut, Cond.code yX4_carryOut cX4_carryOut 4 none, Cond.methodLink RX4 99 yX5_remove, Cond.instanceMethod yX5_remove, Cond.selects RX5 yX5_remove yX5_remove, Cond.code yX5_remove cX5_remove 3 none, Cond.methodLink RL 92 yX9_again, Cond.instanceMethod yX9_again, Cond.selects RX9 yX9_again yX9_again, Cond.code yX9_again cX9_again 2 (some .int), Cond.methodLink RX9 148 yX9_makesOneByOne, Cond.instanceMethod yX9_makesOneByOne, Cond.selects RX9 yX9_makesOneByOne yX9_makesOneByOne, Cond.code yX9_makesOneByOne cX9_makesOneByOne 6 none, Cond.methodLink RX9 145 yX9_carries, Cond.instanceMethod yX9_carries, Cond.selects RX9 yX9_carries yX9_carries, Cond.code yX9_carries cX9_carries 4 none, Cond.methodLink RX9 141 yX9_shifts, Cond.instanceMethod yX9_shifts, Cond.selects RX9 yX9_shifts yX9_shifts]
def wsL_law_r29 : List Cond := [Cond.code yX9_shifts cX9_shifts 4 none, Cond.methodLink RL 93 yX8_reader, Cond.instanceMethod yX8_reader, Cond.selects RX8 yX8_reader yX8_reader, Cond.code yX8_reader cX8_reader 3 (some .int), Cond.methodLink RL 96 yX9_reader, Cond.instanceMethod yX9_reader, Cond.selects RX9 yX9_reader yX9_reader, Cond.code yX9_reader cX9_reader 3 (some .int), Cond.methodLink RL 97 yX8_type, Cond.instanceMethod yX8_type, Cond.selects RX8 yX8_type yX8_type, Cond.code yX8_type cX8_type 2 (some .int), Cond.methodLink RL 100 yX9_type, Cond.instanceMethod yX9_type, Cond.selects RX9 yX9_type yX9_type, Cond.code yX9_type cX9_type 2 (some .int), Cond.methodLink RL 101 yX8_clearText, Cond.instanceMethod yX8_clearText, Cond.selects RX8 yX8_clearText yX8_clearText, Cond.code yX8_clearText cX8_clearText 2 (some .int), Cond.methodLink RX8 208 yX5_cutTo, Cond.methodLink RL 104 yX9_clearText, Cond.instanceMethod yX9_clearText]
def wsL_law_r30 : List Cond := [Cond.selects RX9 yX9_clearText yX9_clearText, Cond.code yX9_clearText cX9_clearText 2 (some .int), Cond.methodLink RL 105 yX8_fault, Cond.instanceMethod yX8_fault, Cond.selects RX8 yX8_fault yX8_fault, Cond.code yX8_fault cX8_fault 4 (some .int), Cond.methodLink RX8 211 yX3_readFor, Cond.instanceMethod yX3_readFor, Cond.selects RX3 yX3_readFor yX3_readFor, Cond.code yX3_readFor cX3_readFor 4 none, Cond.fieldLink RX3 26 "ProofSheets$MarkText" "cursor" "I", Cond.fieldLink RX3 30 "ProofSheets$MarkText" "reason" "I", Cond.fieldLink RX3 37 "ProofSheets$MarkText" "start" "I", Cond.methodLink RX3 23 yX5_cutTo, Cond.methodLink RX3 33 yX5_used, Cond.methodLink RX3 40 yX3_readMark, Cond.instanceMethod yX3_readMark, Cond.selects RX3 yX3_readMark yX3_readMark, Cond.code yX3_readMark cX3_readMark 7 none, Cond.methodLink RX3 44 yX3_readWord, Cond.instanceMethod yX3_readWord, Cond.selects RX3 yX3_readWord yX3_readWord, Cond.code yX3_readWord cX3_readWord 4 (some .int), Cond.methodLink RX3 81 yX5_get]
def wsL_law_r31 : List Cond := [Cond.methodLink RX3 84 yX3_wordOf, Cond.static yX3_wordOf, Cond.code yX3_wordOf cX3_wordOf 1 (some (.object "java/lang/String")), Cond.methodLink RX3 88 yX3_spells, Cond.instanceMethod yX3_spells, Cond.selects RX3 yX3_spells yX3_spells, Cond.code yX3_spells cX3_spells 4 (some .boolean), Cond.methodLink RX3 104 yJ0_length_8abf5, Cond.instanceMethod yJ0_length_8abf5, Cond.selects RJ0 yJ0_length_8abf5 yJ0_length_8abf5, Cond.initialized RJ0, Cond.code yJ0_length_8abf5 cJ0_length_8abf5 1 (some .int), Cond.fieldLink RJ0 9 "java/lang/String" "value" "[B", Cond.methodLink RJ0 335 yJ0_coder_7d493, Cond.instanceMethod yJ0_coder_7d493, Cond.selects RJ0 yJ0_coder_7d493 yJ0_coder_7d493, Cond.code yJ0_coder_7d493 cJ0_coder_7d493 1 (some .byte), Cond.fieldLink RJ0 38 "java/lang/String" "COMPACT_STRINGS" "Z", Cond.fieldLink RJ0 15 "java/lang/String" "coder" "B", Cond.methodLink RX3 109 yJ0_charAt_5068e, Cond.instanceMethod yJ0_charAt_5068e, Cond.selects RJ0 yJ0_charAt_5068e yJ0_charAt_5068e, Cond.code yJ0_charAt_5068e cJ0_charAt_5068e 2 (some .char), Cond.methodLink RJ0 492 yJ0_isLatin1_aae02]
def wsL_law_r32 : List Cond := [Cond.instanceMethod yJ0_isLatin1_aae02, Cond.selects RJ0 yJ0_isLatin1_aae02 yJ0_isLatin1_aae02, Cond.code yJ0_isLatin1_aae02 cJ0_isLatin1_aae02 1 (some .boolean), Cond.methodLink RJ0 495 yJ1_charAt_3b067, Cond.static yJ1_charAt_3b067, Cond.initialized RJ1, Cond.code yJ1_charAt_3b067 cJ1_charAt_3b067 2 (some .char), Cond.methodLink RJ1 9 yJ0_checkIndex_df160, Cond.static yJ0_checkIndex_df160, Cond.code yJ0_checkIndex_df160 cJ0_checkIndex_df160 2 none, Cond.fieldLink RJ0 1053 "jdk/internal/util/Preconditions" "SIOOBE_FORMATTER" "Ljava/util/function/BiFunction;", Cond.methodLink RJ0 1059 yJ3_checkIndex_8e157, Cond.static yJ3_checkIndex_8e157, Cond.initialized RJ3, Cond.code yJ3_checkIndex_8e157 cJ3_checkIndex_8e157 3 (some .int), Cond.methodLink RJ0 498 yJ2_charAt_3b067, Cond.static yJ2_charAt_3b067, Cond.initialized RJ2, Cond.code yJ2_charAt_3b067 cJ2_charAt_3b067 2 (some .char), Cond.methodLink RJ2 67 yJ2_checkIndex_2214a, Cond.static yJ2_checkIndex_2214a, Cond.code yJ2_checkIndex_2214a cJ2_checkIndex_2214a 2 none, Cond.methodLink RJ2 48 yJ2_length_9d52b, Cond.static yJ2_length_9d52b]
def wsL_law_r33 : List Cond := [Cond.code yJ2_length_9d52b cJ2_length_9d52b 1 (some .int), Cond.methodLink RJ2 414 yJ0_checkIndex_df160, Cond.methodLink RJ2 71 yJ2_getChar_3b067, Cond.static yJ2_getChar_3b067, Cond.code yJ2_getChar_3b067 cJ2_getChar_3b067 2 (some .char), Cond.fieldLink RJ2 44 "java/lang/StringUTF16" "$assertionsDisabled" "Z", Cond.fieldLink RJ2 59 "java/lang/StringUTF16" "HI_BYTE_SHIFT" "I", Cond.fieldLink RJ2 63 "java/lang/StringUTF16" "LO_BYTE_SHIFT" "I", Cond.methodLink RX3 47 yX3_readPosition, Cond.instanceMethod yX3_readPosition, Cond.selects RX3 yX3_readPosition yX3_readPosition, Cond.code yX3_readPosition cX3_readPosition 3 (some .int), Cond.methodLink RX3 59 yX3_passes, Cond.instanceMethod yX3_passes, Cond.selects RX3 yX3_passes yX3_passes, Cond.code yX3_passes cX3_passes 2 (some .boolean), Cond.methodLink RX3 50 yX1_takesCharacter, Cond.methodLink RX3 56 yX3_readCharacter, Cond.instanceMethod yX3_readCharacter, Cond.selects RX3 yX3_readCharacter yX3_readCharacter, Cond.code yX3_readCharacter cX3_readCharacter 1 (some .int), Cond.methodLink RX3 62 yX1_isPossible, Cond.static yX1_isPossible, Cond.code yX1_isPossible cX1_isPossible 4 (some .boolean)]
def wsL_law_r34 : List Cond := [Cond.methodLink RX3 66 yX1_codeOf, Cond.static yX1_codeOf, Cond.code yX1_codeOf cX1_codeOf 4 (some .int), Cond.methodLink RX3 70 yX3_keep, Cond.instanceMethod yX3_keep, Cond.selects RX3 yX3_keep yX3_keep, Cond.code yX3_keep cX3_keep 3 none, Cond.methodLink RX3 74 yX5_placeOf, Cond.methodLink RX3 78 yX5_append, Cond.methodLink RL 108 yX9_fault, Cond.instanceMethod yX9_fault, Cond.selects RX9 yX9_fault yX9_fault, Cond.code yX9_fault cX9_fault 4 (some .int), Cond.fieldLink RX9 170 "ProofSheetsModel" "from" "I", Cond.methodLink RX9 189 yX9_readsAll, Cond.instanceMethod yX9_readsAll, Cond.selects RX9 yX9_readsAll yX9_readsAll, Cond.code yX9_readsAll cX9_readsAll 3 (some .int), Cond.fieldLink RX9 151 "ProofSheetsModel" "spot" "I", Cond.fieldLink RX9 164 "ProofSheetsModel" "readMany" "I", Cond.methodLink RX9 186 yX9_reason, Cond.instanceMethod yX9_reason, Cond.selects RX9 yX9_reason yX9_reason, Cond.code yX9_reason cX9_reason 3 (some .int)]
def wsL_law_r35 : List Cond := [Cond.methodLink RX9 173 yX9_wordHere, Cond.instanceMethod yX9_wordHere, Cond.selects RX9 yX9_wordHere yX9_wordHere, Cond.code yX9_wordHere cX9_wordHere 5 (some .int), Cond.methodLink RX9 154 yX9_here, Cond.instanceMethod yX9_here, Cond.selects RX9 yX9_here yX9_here, Cond.code yX9_here cX9_here 1 (some .int), Cond.methodLink RX9 157 yX9_spelt, Cond.static yX9_spelt, Cond.code yX9_spelt cX9_spelt 4 (some .int), Cond.methodLink RX9 176 yX9_isFormed, Cond.instanceMethod yX9_isFormed, Cond.selects RX9 yX9_isFormed yX9_isFormed, Cond.code yX9_isFormed cX9_isFormed 4 (some .boolean), Cond.methodLink RX9 167 yX9_takesPosition, Cond.instanceMethod yX9_takesPosition, Cond.selects RX9 yX9_takesPosition yX9_takesPosition, Cond.code yX9_takesPosition cX9_takesPosition 3 (some .int), Cond.methodLink RX9 161 yX9_takes, Cond.instanceMethod yX9_takes, Cond.selects RX9 yX9_takes yX9_takes, Cond.code yX9_takes cX9_takes 3 (some .boolean), Cond.methodLink RX9 179 yX9_isInRange]
def wsL_law_r36 : List Cond := [Cond.instanceMethod yX9_isInRange, Cond.selects RX9 yX9_isInRange yX9_isInRange, Cond.code yX9_isInRange cX9_isInRange 4 (some .boolean), Cond.methodLink RX9 183 yX9_isThere, Cond.instanceMethod yX9_isThere, Cond.selects RX9 yX9_isThere yX9_isThere, Cond.code yX9_isThere cX9_isThere 8 (some .boolean), Cond.methodLink RL 109 yX8_write, Cond.instanceMethod yX8_write, Cond.selects RX8 yX8_write yX8_write, Cond.code yX8_write cX8_write 3 (some .int), Cond.methodLink RX8 222 yX7_writeOn, Cond.instanceMethod yX7_writeOn, Cond.selects RX7 yX7_writeOn yX7_writeOn, Cond.code yX7_writeOn cX7_writeOn 4 none, Cond.methodLink RX7 104 yX5_append, Cond.methodLink RL 112 yX9_write, Cond.instanceMethod yX9_write, Cond.selects RX9 yX9_write yX9_write, Cond.code yX9_write cX9_write 4 (some .int)]
def wsL_law : List Cond := (wsL_law_r1 ++ (wsL_law_r2 ++ (wsL_law_r3 ++ (wsL_law_r4 ++ (wsL_law_r5 ++ (wsL_law_r6 ++ (wsL_law_r7 ++ (wsL_law_r8 ++ (wsL_law_r9 ++ (wsL_law_r10 ++ (wsL_law_r11 ++ (wsL_law_r12 ++ (wsL_law_r13 ++ (wsL_law_r14 ++ (wsL_law_r15 ++ (wsL_law_r16 ++ (wsL_law_r17 ++ (wsL_law_r18 ++ (wsL_law_r19 ++ (wsL_law_r20 ++ (wsL_law_r21 ++ (wsL_law_r22 ++ (wsL_law_r23 ++ (wsL_law_r24 ++ (wsL_law_r25 ++ (wsL_law_r26 ++ (wsL_law_r27 ++ (wsL_law_r28 ++ (wsL_law_r29 ++ (wsL_law_r30 ++ (wsL_law_r31 ++ (wsL_law_r32 ++ (wsL_law_r33 ++ (wsL_law_r34 ++ (wsL_law_r35 ++ wsL_law_r36))))))))))))))))))))))))))))))))))) ++ wsX80 ++ wsX90 ++ wsX70 ++ wsX00 ++ wsX30 ++ wsX40 ++ wsX50 ++ wsX20 ++ wsX60 ++ ([] : List Cond)
theorem inJ9 : ∀ w ∈ wsJ90, w ∈ lw_tbl := by decide +kernel
theorem inJ0 : ∀ w ∈ wsJ00, w ∈ lw_tbl := by decide +kernel
theorem inJ1 : ∀ w ∈ wsJ10, w ∈ lw_tbl := by decide +kernel
theorem inJ2 : ∀ w ∈ wsJ20, w ∈ lw_tbl := by decide +kernel
theorem inJ3 : ∀ w ∈ wsJ30, w ∈ lw_tbl := by decide +kernel
abbrev vwCl : List vw_C := [(RX0, TX0, 2), (RX2, TX2, 4), (RX3, TX3, 5), (RX4, TX4, 4), (RX5, TX5, 2), (RX6, TX6, 3), (RX7, TX7, 9), (RX8, TX8, 4), (RX9, TX9, 11)]
end
section
/-! THE WORLD AS ONE PICTURE G, from addresses to cells, and one judgement gX over it: no heap, no place is named in a walk -/
abbrev gD : Type := va_G × ((Nat → Nat) × (Nat → Nat))
abbrev gH : Type := Nat → Option va_E
def gTys (D : gD) : List (ClassId × FieldType) := [(D.1.1 100, .int), (D.1.1 101, .object RX6), (D.1.1 102, .object RX7)]
def gNest : List Cond := [
  .fieldLinkNest "ProofSheets$Press" 41 "ProofSheets$MarkList" "codes" "LProofSheets$Row;" "ProofSheets",
  .fieldLinkNest "ProofSheets" 125 "ProofSheets$MarkList" "codes" "LProofSheets$Row;" "ProofSheets",
  .fieldLinkNest "ProofSheets$Press" 46 "ProofSheets$MarkList" "answers" "LProofSheets$Row;" "ProofSheets",
  .fieldLinkNest "ProofSheets$State" 111 "ProofSheets$MarkList" "answers" "LProofSheets$Row;" "ProofSheets",
  .fieldLinkNest "ProofSheets" 158 "ProofSheets$MarkList" "answers" "LProofSheets$Row;" "ProofSheets",
  .fieldLinkNest "ProofSheets" 161 "ProofSheets$MarkList" "sheetCounts" "LProofSheets$Row;" "ProofSheets",
  .fieldLinkNest "ProofSheets" 164 "ProofSheets$MarkList" "lowestReaders" "LProofSheets$Row;" "ProofSheets",
  .fieldLinkNest "ProofSheets$State" 87 "ProofSheets$Sheet" "marks" "LProofSheets$Row;" "ProofSheets",
  .fieldLinkNest "ProofSheets" 96 "ProofSheets$Sheet" "marks" "LProofSheets$Row;" "ProofSheets",
  .fieldLinkNest "ProofSheets$State" 81 "ProofSheets$Sheet" "reader" "I" "ProofSheets",
  .fieldLinkNest "ProofSheets" 93 "ProofSheets$Sheet" "reader" "I" "ProofSheets",
  .fieldLinkNest "ProofSheets" 80 "ProofSheets$Sheet" "status" "I" "ProofSheets",
  .fieldLinkNest "ProofSheets$State" 84 "ProofSheets$Sheet" "status" "I" "ProofSheets",
  .fieldLinkNest "ProofSheets" 45 "ProofSheets$State" "text" "LProofSheets$Row;" "ProofSheets",
  .fieldLinkNest "ProofSheets" 99 "ProofSheets$State" "list" "LProofSheets$MarkList;" "ProofSheets",
  .fieldLinkNest "ProofSheets" 199 "ProofSheets$State" "sentTo" "LProofSheets$Row;" "ProofSheets",
  .fieldLinkNest "ProofSheets" 202 "ProofSheets$State" "madeBy" "LProofSheets$Row;" "ProofSheets",
  .fieldLinkNest "ProofSheets" 205 "ProofSheets$State" "mergedOf" "LProofSheets$Row;" "ProofSheets",
  .fieldLinkNest "ProofSheets" 41 "ProofSheets$State" "round" "I" "ProofSheets",
  .fieldLinkNest "ProofSheets" 69 "ProofSheets$State" "sheetCount" "I" "ProofSheets",
  .fieldLinkNest "ProofSheets" 131 "ProofSheets$History" "used" "I" "ProofSheets",
  .fieldLinkNest "ProofSheets" 145 "ProofSheets$MarkText" "signs" "LProofSheets$Row;" "ProofSheets",
  .fieldLinkNest "ProofSheets" 221 "ProofSheets$MarkText" "codes" "LProofSheets$Row;" "ProofSheets",
  .fieldLinkNest "ProofSheets" 218 "ProofSheets$MarkText" "start" "I" "ProofSheets",
  .fieldLinkNest "ProofSheets" 215 "ProofSheets$MarkText" "reason" "I" "ProofSheets",
  .methodLinkNest "ProofSheets$State" 28 ⟨"ProofSheets$MarkList", "<init>", "()V"⟩ "ProofSheets",
  .methodLinkNest "ProofSheets$State" 45 ⟨"ProofSheets$Sheet", "<init>", "()V"⟩ "ProofSheets",
  .methodLinkNest "ProofSheets" 25 ⟨"ProofSheets$MarkText", "<init>", "()V"⟩ "ProofSheets",
  .methodLinkNest "ProofSheets" 32 ⟨"ProofSheets$Press", "<init>", "()V"⟩ "ProofSheets",
  .methodLinkNest "ProofSheets$MarkList" 40 ⟨"ProofSheets", "isOutside", "(III)Z"⟩ "ProofSheets",
  .methodLinkNest "ProofSheets$Press" 102 ⟨"ProofSheets", "isOutside", "(III)Z"⟩ "ProofSheets"]
def gSl : List Nat := [3, 3, 3, 4, 3, 3]
def gSb : List (List Int32) := [[100, 101, 108], [105, 110, 115], [114, 101, 112], [115, 119, 97, 112], [99, 97, 112], [97, 115, 107]]
def gSi : List Nat := [92, 94, 96, 98, 100, 102]
def gSt : List String := ["del", "ins", "rep", "swap", "cap", "ask"]
def gStr (ad : (Nat → Nat) × (Nat → Nat)) (A : Nat → Prop) (U : State) (H : Heap) : Prop :=
  vk_S 6 gSl gSb ad.1 ad.2 A U H ∧ (∀ i : Nat, i < 6 → vk_R RX3 (gSi.getD i 0) (gSt.getD i "") (ad.1 i) U) ∧ va_Z "java/lang/String" "COMPACT_STRINGS" "Z" (.int 1) A U H ∧ va_Zq "jdk/internal/util/Preconditions" "SIOOBE_FORMATTER" "Ljava/util/function/BiFunction;" A U H
def gK (D : gD) (A : Nat → Prop) (U : State) (H : Heap) : Prop := va_K D.1 vwCl (gTys D) U ∧ (∀ w ∈ gNest, va_Nw w U) ∧ gStr D.2 A U H
def gP (D : gD) (A : Nat → Prop) (G : gH) (H : Heap) : Prop := ∀ (a : Nat) (e : va_E), G a = some e → A a ∧ va_at D.1 vwCl (a, e) H
def gU (G : gH) (a : Nat) (e : va_E) : gH := fun q => if q = a then some e else G q
theorem gU_s {G : gH} {a : Nat} {e : va_E} : gU G a e a = some e := by simp [gU]
theorem gU_n {G : gH} {a b : Nat} {e : va_E} (h : b ≠ a) : gU G a e b = G b := by simp [gU, h]
theorem gP_one {D : gD} {A : Nat → Prop} {G : gH} {H : Heap} {a : Nat} {e : va_E} (h : gP D A G H) (hG : G a = some e) : va_P D.1 vwCl [(a, e)] H := by
  intro k q hk
  cases k with
  | zero => cases hk; exact (h a e hG).2
  | succ k => simp at hk
theorem gP_up {D : gD} {A : Nat → Prop} {G : gH} {H H1 : Heap} {a : Nat} {e : va_E} (h : gP D A G H) (ha : A a) (he : va_at D.1 vwCl (a, e) H1) (oq : ∀ q : Nat, q ≠ a → H1[q]? = H[q]?) : gP D A (gU G a e) H1 := by
  intro q x hq
  unfold gU at hq
  by_cases c : q = a
  · rw [if_pos c] at hq
    cases hq
    subst c
    exact ⟨ha, he⟩
  · rw [if_neg c] at hq
    exact ⟨(h q x hq).1, (h q x hq).2.kept (oq q c)⟩
theorem gP_kept {D : gD} {A : Nat → Prop} {G : gH} {H H1 : Heap} (h : gP D A G H) (oq : ∀ q : Nat, q < H.size → H1[q]? = H[q]?) : gP D A G H1 := fun q x hq => ⟨(h q x hq).1, (h q x hq).2.kept (oq q (h q x hq).2.lt)⟩
theorem gP_lt {D : gD} {A : Nat → Prop} {G : gH} {H : Heap} {a : Nat} {e : va_E} (h : gP D A G H) (hG : G a = some e) : a < H.size := (h a e hG).2.lt
theorem gK_warm {D : gD} {A : Nat → Prop} {s U : State} {H H1 : Heap} (hW : s.WarmedH U.vm) (hq : ∀ a : Nat, a < H.size → ¬ A a → H1[a]? = H[a]?) (h : gK D A s H) : gK D A U H1 := by
  obtain ⟨h1, h2, h3, h4, h5, h6⟩ := h
  refine ⟨va_K.moved hW.alike h1, fun w hw => ?_, (h3.moved hW.alike).kept hq, fun i hi => (h4 i hi).warm hW, (h5.moved hW.alike).kept hq, (h6.moved hW.alike).kept hq⟩
  have hz := h2 w hw
  simp only [gNest, List.mem_cons, List.not_mem_nil, or_false] at hw
  rcases hw with rfl | rfl | rfl | rfl | rfl | rfl | rfl | rfl | rfl | rfl | rfl | rfl | rfl | rfl | rfl | rfl | rfl | rfl | rfl | rfl | rfl | rfl | rfl | rfl | rfl | rfl | rfl | rfl | rfl | rfl | rfl <;> first | exact va_Nw.warmF hW hz | exact va_Nw.warmM hW hz
theorem gK_same {D : gD} {A : Nat → Prop} {U : State} {H : Heap} {g : JFrame} {mk : MethodId} {a : Array Value} (h : gK D A U H) : gK D A (U.calling g mk a) H := by
  obtain ⟨h1, h2, h3, h4, h5, h6⟩ := h
  refine ⟨va_K.moved (u := U) (U := U.calling g mk a) (Vm.Alike.refl U.vm) h1, fun w hw => ?_, h3.moved (u := U) (U := U.calling g mk a) (Vm.Alike.refl U.vm), fun i hi => (h4 i hi).same rfl, h5.moved (u := U) (U := U.calling g mk a) (Vm.Alike.refl U.vm), h6.moved (u := U) (U := U.calling g mk a) (Vm.Alike.refl U.vm)⟩
  have hz := h2 w hw
  refine va_Nw.same ?_ (u := U) (U := U.calling g mk a) rfl hz
  simp only [gNest, List.mem_cons, List.not_mem_nil, or_false] at hw
  rcases hw with rfl | rfl | rfl | rfl | rfl | rfl | rfl | rfl | rfl | rfl | rfl | rfl | rfl | rfl | rfl | rfl | rfl | rfl | rfl | rfl | rfl | rfl | rfl | rfl | rfl | rfl | rfl | rfl | rfl | rfl | rfl <;> rfl
/-- locals by their places -/
def gL (ls : Array Slot) (nL : Nat) (V : List (Option Value)) : Prop := ls.size = nL ∧ lv_wf ls ∧ ∀ (i : Nat) (v : Value), V[i]? = some (some v) → ls[i]? = some (.val v) ∧ v.category = 1
theorem gL_at {ls : Array Slot} {nL : Nat} {V : List (Option Value)} (h : gL ls nL V) {i : Nat} {v : Value} (hV : V[i]? = some (some v)) : ls[i]? = some (.val v) := (h.2.2 i v hV).1
def gLl (V : List (Option Value)) : List (Nat × Value) := (List.range V.length).filterMap (fun i => (V[i]?.join).map (fun v => (i, v)))
theorem gLl_mem {V : List (Option Value)} {q : Nat × Value} : q ∈ gLl V ↔ V[q.1]? = some (some q.2) := by
  constructor
  · intro h
    obtain ⟨i, -, hi⟩ := List.mem_filterMap.mp h
    cases hV : V[i]? with
    | none => rw [hV] at hi; simp at hi
    | some o =>
      cases o with
      | none => rw [hV] at hi; simp at hi
      | some v => rw [hV] at hi; simp at hi; subst hi; exact hV
  · intro h
    refine List.mem_filterMap.mpr ⟨q.1, List.mem_range.mpr (List.getElem?_eq_some_iff.mp h).1, ?_⟩
    rw [h]
    rfl
theorem gL_has {ls : Array Slot} {nL : Nat} {V : List (Option Value)} (h : gL ls nL V) : lv_has ls nL (gLl V) := ⟨h.1, h.2.1, fun q hq => (h.2.2 q.1 q.2 (gLl_mem.mp hq)).1⟩
theorem gL_set {ls ls' : Array Slot} {nL i : Nat} {V : List (Option Value)} {x : Value} (h : gL ls nL V) (hx : x.category = 1) (h' : lv_has ls' nL ((i, x) :: (gLl V).filter (fun q => !(q.1 == i) && !(q.1 + 1 == i && q.2.category == 2)))) : gL ls' nL (V.set i (some x)) := by
  refine ⟨h'.1, h'.2.1, fun j v hj => ?_⟩
  by_cases c : i = j
  · subst c
    have hlt : i < V.length := by
      have := (List.getElem?_eq_some_iff.mp hj).1
      simpa using this
    rw [List.getElem?_set_self hlt] at hj
    cases hj
    exact ⟨h'.2.2 (i, x) List.mem_cons_self, hx⟩
  · rw [List.getElem?_set_ne c] at hj
    have hc := (h.2.2 j v hj).2
    refine ⟨h'.2.2 (j, v) (List.mem_cons_of_mem _ (List.mem_filter.mpr ⟨gLl_mem.mpr hj, ?_⟩)), hc⟩
    simp [hc, Ne.symm c]
/-- what holds all through a walk -/
def gC (p : Program) (s : State) (m : MethodId) (args : Array Value) (meth : Method) (c : Code) (cc : ByteArray) (ret : Option FieldType) (Ts : List Cond) (own nm : String) (D : gD) (A : Nat → Prop) (nL hs : Nat) : Prop :=
  p.tables.exec = Jvm.exec ∧ c.code = cc ∧ meth.sig.returnType = ret ∧ (∀ w ∈ Ts, w.before args s = true) ∧ s.vm.findClass own = some m.cls ∧ meth.locks = false ∧ c.maxLocals = nL ∧ gK D A s s.heap ∧ meth.name = nm ∧ s.heap.size = hs
def gX (p : Program) (l : Launch) (e : Env) (R : Room) (s : State) (m : MethodId) (args : Array Value) (below : List Frame) (meth : Method) (c : Code) (D : gD) (A : Nat → Prop) (nL hs cells slots : Nat) (Q : State → Prop) (G : gH) (V : List (Option Value)) (pc : Nat) (st : List Value) : Prop :=
  ∀ (H : Heap) (locs : List Loc) (ls : Array Slot), gP D A G H → va_S A s.heap H locs → H.size = hs → gL ls nL V → W p l e R s m args below meth c H locs cells slots Q (F0 m pc ls st)
def gPc (D : gD) (A : Nat → Prop) (hs : Nat) (av : List Value) (G : gH) : Array Value → State → Prop := fun a U => a = av.toArray ∧ U.heap.size = hs ∧ gP D A G U.heap ∧ gK D A U U.heap
def gQ (D : gD) (A : Nat → Prop) (hs mc : Nat) (post : Option Value → gH → Prop) : Array Value → State → Outcome → State → Prop := fun _ st o t =>
  (∃ (v : Option Value) (G' : gH), o = .returned v ∧ post v G' ∧ gP D A G' t.heap) ∧ t.heap.size = hs + mc ∧ ∀ q : Nat, q < hs → ¬ A q → t.heap[q]? = st.heap[q]?
/-- a method's contract -/
def gM (l : Launch) (y : MethodName) (ws : List Cond) (rm : Room) (D : gD) (A : Nat → Prop) (hs mc ms : Nat) (av : List Value) (G : gH) (post : Option Value → gH → Prop) : Prop :=
  Met l y ws rm (gPc D A hs av G) (gQ D A hs mc post) mc ms A
/-- room of a method from which calls go k deep -/
abbrev gR (k : Nat) : Room := { frames := k, cells := 0, slots := 0, locals := 30 * k }
abbrev gRc (k mc ms : Nat) : Room := { frames := k, cells := mc, slots := ms, locals := 30 * k }
theorem gPc_blind {D : gD} {A : Nat → Prop} {hs : Nat} {av : List Value} {G : gH} : FrameBlind (gPc D A hs av G) := fun _ _ _ _ h => ⟨h.1, h.2.1, h.2.2.1, gK_same h.2.2.2⟩
section GX
variable {p : Program} {l : Launch} {e : Env} {R : Room} {s : State} {m : MethodId} {args : Array Value} {below : List Frame} {meth : Method} {c : Code} {cc : ByteArray} {ret : Option FieldType} {Ts : List Cond} {own nm : String} {D : gD} {A : Nat → Prop} {nL hs0 hs cells slots : Nat} {Q : State → Prop} {G : gH} {V : List (Option Value)} {pc : Nat} {rest : List Value}
theorem gx_iload_n (C : gC p s m args meth c cc ret Ts own nm D A nL hs0) {k : Fin 4} {x : Int32} (hdg : decode cc pc = .ok (.iload_n k, 1)) (hV : V[(k : Nat)]? = some (some (.int x)))
    (kk : gX p l e R s m args below meth c D A nL hs cells slots Q G V (pc + 1) (.int x :: rest)) : gX p l e R s m args below meth c D A nL hs cells slots Q G V pc rest :=
  fun H locs ls hP hS hz hL => lv_iload_n C.1 C.2.1 hdg rfl (gL_at hL hV) (kk H locs ls hP hS hz hL)
theorem gx_iload (C : gC p s m args meth c cc ret Ts own nm D A nL hs0) {i : Nat} {x : Int32} (hdg : decode cc pc = .ok (.iload i, 2)) (hV : V[i]? = some (some (.int x)))
    (kk : gX p l e R s m args below meth c D A nL hs cells slots Q G V (pc + 2) (.int x :: rest)) : gX p l e R s m args below meth c D A nL hs cells slots Q G V pc rest :=
  fun H locs ls hP hS hz hL => lv_iload C.1 C.2.1 hdg (gL_at hL hV) (kk H locs ls hP hS hz hL)
theorem gx_aload_n (C : gC p s m args meth c cc ret Ts own nm D A nL hs0) {k : Fin 4} {x : Nat} (hdg : decode cc pc = .ok (.aload_n k, 1)) (hV : V[(k : Nat)]? = some (some (.ref x)))
    (kk : gX p l e R s m args below meth c D A nL hs cells slots Q G V (pc + 1) (.ref x :: rest)) : gX p l e R s m args below meth c D A nL hs cells slots Q G V pc rest :=
  fun H locs ls hP hS hz hL => lv_aload_n C.1 C.2.1 hdg rfl (gL_at hL hV) (kk H locs ls hP hS hz hL)
theorem gx_aload (C : gC p s m args meth c cc ret Ts own nm D A nL hs0) {i : Nat} {x : Nat} (hdg : decode cc pc = .ok (.aload i, 2)) (hV : V[i]? = some (some (.ref x)))
    (kk : gX p l e R s m args below meth c D A nL hs cells slots Q G V (pc + 2) (.ref x :: rest)) : gX p l e R s m args below meth c D A nL hs cells slots Q G V pc rest :=
  fun H locs ls hP hS hz hL => lv_aload C.1 C.2.1 hdg (gL_at hL hV) (kk H locs ls hP hS hz hL)
theorem gx_istore_n (C : gC p s m args meth c cc ret Ts own nm D A nL hs0) {k : Fin 4} {x : Int32} (hdg : decode cc pc = .ok (.istore_n k, 1)) (hn : (k : Nat) < nL)
    (kk : gX p l e R s m args below meth c D A nL hs cells slots Q G (V.set (k : Nat) (some (.int x))) (pc + 1) rest) : gX p l e R s m args below meth c D A nL hs cells slots Q G V pc (.int x :: rest) :=
  fun H locs ls hP hS hz hL => lv_istore_n C.1 C.2.1 hdg rfl (gL_has hL) hn rfl (fun ls' h' => kk H locs ls' hP hS hz (gL_set hL rfl h'))
theorem gx_istore (C : gC p s m args meth c cc ret Ts own nm D A nL hs0) {i : Nat} {x : Int32} (hdg : decode cc pc = .ok (.istore i, 2)) (hn : i < nL)
    (kk : gX p l e R s m args below meth c D A nL hs cells slots Q G (V.set i (some (.int x))) (pc + 2) rest) : gX p l e R s m args below meth c D A nL hs cells slots Q G V pc (.int x :: rest) :=
  fun H locs ls hP hS hz hL => lv_istore C.1 C.2.1 hdg (gL_has hL) hn rfl (fun ls' h' => kk H locs ls' hP hS hz (gL_set hL rfl h'))
theorem gx_astore_n (C : gC p s m args meth c cc ret Ts own nm D A nL hs0) {k : Fin 4} {x : Nat} (hdg : decode cc pc = .ok (.astore_n k, 1)) (hn : (k : Nat) < nL)
    (kk : gX p l e R s m args below meth c D A nL hs cells slots Q G (V.set (k : Nat) (some (.ref x))) (pc + 1) rest) : gX p l e R s m args below meth c D A nL hs cells slots Q G V pc (.ref x :: rest) :=
  fun H locs ls hP hS hz hL => lv_astore_n C.1 C.2.1 hdg rfl (gL_has hL) hn rfl (fun ls' h' => kk H locs ls' hP hS hz (gL_set hL rfl h'))
theorem gx_astore (C : gC p s m args meth c cc ret Ts own nm D A nL hs0) {i : Nat} {x : Nat} (hdg : decode cc pc = .ok (.astore i, 2)) (hn : i < nL)
    (kk : gX p l e R s m args below meth c D A nL hs cells slots Q G (V.set i (some (.ref x))) (pc + 2) rest) : gX p l e R s m args below meth c D A nL hs cells slots Q G V pc (.ref x :: rest) :=
  fun H locs ls hP hS hz hL => lv_astore C.1 C.2.1 hdg (gL_has hL) hn rfl (fun ls' h' => kk H locs ls' hP hS hz (gL_set hL rfl h'))
theorem gx_iinc (C : gC p s m args meth c cc ret Ts own nm D A nL hs0) {i : Nat} {n : Int} {x v : Int32} (hdg : decode cc pc = .ok (.iinc i n, 3)) (hV : V[i]? = some (some (.int x))) (hv : x + Int32.ofInt n = v) (hn : i < nL)
    (kk : gX p l e R s m args below meth c D A nL hs cells slots Q G (V.set i (some (.int v))) (pc + 3) rest) : gX p l e R s m args below meth c D A nL hs cells slots Q G V pc rest := by
  intro H locs ls hP hS hz hL
  obtain ⟨k, hk⟩ := List.getElem?_of_mem (gLl_mem (q := (i, .int x)).mpr hV)
  exact lv_iinc C.1 C.2.1 hdg (gL_has hL) hk hv hn rfl (fun ls' h' => kk H locs ls' hP hS hz (gL_set hL rfl h'))
theorem gx_iconst (C : gC p s m args meth c cc ret Ts own nm D A nL hs0) {n : Int} {v : Int32} (hdg : decode cc pc = .ok (.iconst n, 1)) (hv : Int32.ofInt n = v)
    (kk : gX p l e R s m args below meth c D A nL hs cells slots Q G V (pc + 1) (.int v :: rest)) : gX p l e R s m args below meth c D A nL hs cells slots Q G V pc rest :=
  fun H locs ls hP hS hz hL => lv_iconst C.1 C.2.1 hdg hv (kk H locs ls hP hS hz hL)
theorem gx_bipush (C : gC p s m args meth c cc ret Ts own nm D A nL hs0) {n : Int} {v : Int32} (hdg : decode cc pc = .ok (.bipush n, 2)) (hv : (Int8.ofInt n).toInt32 = v)
    (kk : gX p l e R s m args below meth c D A nL hs cells slots Q G V (pc + 2) (.int v :: rest)) : gX p l e R s m args below meth c D A nL hs cells slots Q G V pc rest :=
  fun H locs ls hP hS hz hL => lv_bipush C.1 C.2.1 hdg hv (kk H locs ls hP hS hz hL)
theorem gx_sipush (C : gC p s m args meth c cc ret Ts own nm D A nL hs0) {n : Int} {v : Int32} (hdg : decode cc pc = .ok (.sipush n, 3)) (hv : (Int16.ofInt n).toInt32 = v)
    (kk : gX p l e R s m args below meth c D A nL hs cells slots Q G V (pc + 3) (.int v :: rest)) : gX p l e R s m args below meth c D A nL hs cells slots Q G V pc rest :=
  fun H locs ls hP hS hz hL => lv_sipush C.1 C.2.1 hdg hv (kk H locs ls hP hS hz hL)
theorem gx_dup (C : gC p s m args meth c cc ret Ts own nm D A nL hs0) {va : Value} (hdg : decode cc pc = .ok (.dup, 1)) (hva : va.category = 1)
    (kk : gX p l e R s m args below meth c D A nL hs cells slots Q G V (pc + 1) (va :: va :: rest)) : gX p l e R s m args below meth c D A nL hs cells slots Q G V pc (va :: rest) :=
  fun H locs ls hP hS hz hL => lv_dup C.1 C.2.1 hdg hva (kk H locs ls hP hS hz hL)
theorem gx_dup2 (C : gC p s m args meth c cc ret Ts own nm D A nL hs0) {va vb : Value} (hdg : decode cc pc = .ok (.dup2, 1)) (hva : va.category = 1) (hvb : vb.category = 1)
    (kk : gX p l e R s m args below meth c D A nL hs cells slots Q G V (pc + 1) (va :: vb :: va :: vb :: rest)) : gX p l e R s m args below meth c D A nL hs cells slots Q G V pc (va :: vb :: rest) :=
  fun H locs ls hP hS hz hL => lv_dup2_11 C.1 C.2.1 hdg hva hvb (kk H locs ls hP hS hz hL)
theorem gx_iadd (C : gC p s m args meth c cc ret Ts own nm D A nL hs0) {x y : Int32} (hdg : decode cc pc = .ok (.iadd, 1))
    (kk : gX p l e R s m args below meth c D A nL hs cells slots Q G V (pc + 1) (.int (x + y) :: rest)) : gX p l e R s m args below meth c D A nL hs cells slots Q G V pc (.int y :: .int x :: rest) :=
  fun H locs ls hP hS hz hL => lv_iadd C.1 C.2.1 hdg (kk H locs ls hP hS hz hL)
theorem gx_isub (C : gC p s m args meth c cc ret Ts own nm D A nL hs0) {x y : Int32} (hdg : decode cc pc = .ok (.isub, 1))
    (kk : gX p l e R s m args below meth c D A nL hs cells slots Q G V (pc + 1) (.int (x - y) :: rest)) : gX p l e R s m args below meth c D A nL hs cells slots Q G V pc (.int y :: .int x :: rest) :=
  fun H locs ls hP hS hz hL => lv_isub C.1 C.2.1 hdg (kk H locs ls hP hS hz hL)
theorem gx_imul (C : gC p s m args meth c cc ret Ts own nm D A nL hs0) {x y : Int32} (hdg : decode cc pc = .ok (.imul, 1))
    (kk : gX p l e R s m args below meth c D A nL hs cells slots Q G V (pc + 1) (.int (x * y) :: rest)) : gX p l e R s m args below meth c D A nL hs cells slots Q G V pc (.int y :: .int x :: rest) :=
  fun H locs ls hP hS hz hL => lv_imul C.1 C.2.1 hdg (kk H locs ls hP hS hz hL)
theorem gx_idiv (C : gC p s m args meth c cc ret Ts own nm D A nL hs0) {x y : Int32} (hdg : decode cc pc = .ok (.idiv, 1)) (hne : ¬ y = 0)
    (kk : gX p l e R s m args below meth c D A nL hs cells slots Q G V (pc + 1) (.int (x / y) :: rest)) : gX p l e R s m args below meth c D A nL hs cells slots Q G V pc (.int y :: .int x :: rest) :=
  fun H locs ls hP hS hz hL => lv_idiv C.1 C.2.1 hdg hne (kk H locs ls hP hS hz hL)
theorem gx_ishl (C : gC p s m args meth c cc ret Ts own nm D A nL hs0) {x y : Int32} (hdg : decode cc pc = .ok (.ishl, 1))
    (kk : gX p l e R s m args below meth c D A nL hs cells slots Q G V (pc + 1) (.int (x <<< (y &&& 31)) :: rest)) : gX p l e R s m args below meth c D A nL hs cells slots Q G V pc (.int y :: .int x :: rest) :=
  fun H locs ls hP hS hz hL => lv_ishl C.1 C.2.1 hdg (kk H locs ls hP hS hz hL)
theorem gx_ishr (C : gC p s m args meth c cc ret Ts own nm D A nL hs0) {x y : Int32} (hdg : decode cc pc = .ok (.ishr, 1))
    (kk : gX p l e R s m args below meth c D A nL hs cells slots Q G V (pc + 1) (.int (x >>> (y &&& 31)) :: rest)) : gX p l e R s m args below meth c D A nL hs cells slots Q G V pc (.int y :: .int x :: rest) :=
  fun H locs ls hP hS hz hL => lv_ishr C.1 C.2.1 hdg (kk H locs ls hP hS hz hL)
theorem gx_iand (C : gC p s m args meth c cc ret Ts own nm D A nL hs0) {x y : Int32} (hdg : decode cc pc = .ok (.iand, 1))
    (kk : gX p l e R s m args below meth c D A nL hs cells slots Q G V (pc + 1) (.int (x &&& y) :: rest)) : gX p l e R s m args below meth c D A nL hs cells slots Q G V pc (.int y :: .int x :: rest) :=
  fun H locs ls hP hS hz hL => lv_iand C.1 C.2.1 hdg (kk H locs ls hP hS hz hL)
theorem gx_ior (C : gC p s m args meth c cc ret Ts own nm D A nL hs0) {x y : Int32} (hdg : decode cc pc = .ok (.ior, 1))
    (kk : gX p l e R s m args below meth c D A nL hs cells slots Q G V (pc + 1) (.int (x ||| y) :: rest)) : gX p l e R s m args below meth c D A nL hs cells slots Q G V pc (.int y :: .int x :: rest) :=
  fun H locs ls hP hS hz hL => lv_ior C.1 C.2.1 hdg (kk H locs ls hP hS hz hL)
theorem gx_goto (C : gC p s m args meth c cc ret Ts own nm D A nL hs0) {off : Int} {tgt : Nat} (hdg : decode cc pc = .ok (.goto off, 3)) (ht : (pc : Int) + off = (tgt : Int))
    (kk : gX p l e R s m args below meth c D A nL hs cells slots Q G V tgt rest) : gX p l e R s m args below meth c D A nL hs cells slots Q G V pc rest :=
  fun H locs ls hP hS hz hL => lv_goto C.1 C.2.1 hdg ht (kk H locs ls hP hS hz hL)
theorem gx_tableIn (C : gC p s m args meth c cc ret Ts own nm D A nL hs0) {dflt lo hi : Int} {offs : Array Int} {len : Nat} {x : Int32} {off : Int} {tgt : Nat} (hdg : decode cc pc = .ok (.tableswitch dflt lo hi offs, len)) (h1 : ¬ x.toInt < lo) (h2 : ¬ hi < x.toInt) (ho : offs[(x.toInt - lo).toNat]? = some off) (ht : (pc : Int) + off = (tgt : Int))
    (kk : gX p l e R s m args below meth c D A nL hs cells slots Q G V tgt rest) : gX p l e R s m args below meth c D A nL hs cells slots Q G V pc (.int x :: rest) :=
  fun H locs ls hP hS hz hL => lv_tableIn C.1 C.2.1 hdg h1 h2 ho ht (kk H locs ls hP hS hz hL)
theorem gx_tableOut (C : gC p s m args meth c cc ret Ts own nm D A nL hs0) {dflt lo hi : Int} {offs : Array Int} {len : Nat} {x : Int32} {tgt : Nat} (hdg : decode cc pc = .ok (.tableswitch dflt lo hi offs, len)) (h : x.toInt < lo ∨ hi < x.toInt) (ht : (pc : Int) + dflt = (tgt : Int))
    (kk : gX p l e R s m args below meth c D A nL hs cells slots Q G V tgt rest) : gX p l e R s m args below meth c D A nL hs cells slots Q G V pc (.int x :: rest) :=
  fun H locs ls hP hS hz hL => lv_tableOut C.1 C.2.1 hdg h ht (kk H locs ls hP hS hz hL)
theorem gx_icmp_eq (C : gC p s m args meth c cc ret Ts own nm D A nL hs0) {x y : Int32} {off : Int} {tgt : Nat} (hdg : decode cc pc = .ok (.if_icmp .eq off, 3)) (ht : (pc : Int) + off = (tgt : Int))
    (kt : x = y → gX p l e R s m args below meth c D A nL hs cells slots Q G V tgt rest) (kf : ¬ x = y → gX p l e R s m args below meth c D A nL hs cells slots Q G V (pc + 3) rest) : gX p l e R s m args below meth c D A nL hs cells slots Q G V pc (.int y :: .int x :: rest) :=
  fun H locs ls hP hS hz hL => lv_icmp_eq C.1 C.2.1 hdg ht (fun h => kt h H locs ls hP hS hz hL) (fun h => kf h H locs ls hP hS hz hL)
theorem gx_if_eq (C : gC p s m args meth c cc ret Ts own nm D A nL hs0) {x : Int32} {off : Int} {tgt : Nat} (hdg : decode cc pc = .ok (.ifCond .eq off, 3)) (ht : (pc : Int) + off = (tgt : Int))
    (kt : x = 0 → gX p l e R s m args below meth c D A nL hs cells slots Q G V tgt rest) (kf : ¬ x = 0 → gX p l e R s m args below meth c D A nL hs cells slots Q G V (pc + 3) rest) : gX p l e R s m args below meth c D A nL hs cells slots Q G V pc (.int x :: rest) :=
  fun H locs ls hP hS hz hL => lv_if_eq C.1 C.2.1 hdg ht (fun h => kt h H locs ls hP hS hz hL) (fun h => kf h H locs ls hP hS hz hL)
theorem gx_icmp_ne (C : gC p s m args meth c cc ret Ts own nm D A nL hs0) {x y : Int32} {off : Int} {tgt : Nat} (hdg : decode cc pc = .ok (.if_icmp .ne off, 3)) (ht : (pc : Int) + off = (tgt : Int))
    (kt : ¬ x = y → gX p l e R s m args below meth c D A nL hs cells slots Q G V tgt rest) (kf : x = y → gX p l e R s m args below meth c D A nL hs cells slots Q G V (pc + 3) rest) : gX p l e R s m args below meth c D A nL hs cells slots Q G V pc (.int y :: .int x :: rest) :=
  fun H locs ls hP hS hz hL => lv_icmp_ne C.1 C.2.1 hdg ht (fun h => kt h H locs ls hP hS hz hL) (fun h => kf h H locs ls hP hS hz hL)
theorem gx_if_ne (C : gC p s m args meth c cc ret Ts own nm D A nL hs0) {x : Int32} {off : Int} {tgt : Nat} (hdg : decode cc pc = .ok (.ifCond .ne off, 3)) (ht : (pc : Int) + off = (tgt : Int))
    (kt : ¬ x = 0 → gX p l e R s m args below meth c D A nL hs cells slots Q G V tgt rest) (kf : x = 0 → gX p l e R s m args below meth c D A nL hs cells slots Q G V (pc + 3) rest) : gX p l e R s m args below meth c D A nL hs cells slots Q G V pc (.int x :: rest) :=
  fun H locs ls hP hS hz hL => lv_if_ne C.1 C.2.1 hdg ht (fun h => kt h H locs ls hP hS hz hL) (fun h => kf h H locs ls hP hS hz hL)
theorem gx_icmp_lt (C : gC p s m args meth c cc ret Ts own nm D A nL hs0) {x y : Int32} {off : Int} {tgt : Nat} (hdg : decode cc pc = .ok (.if_icmp .lt off, 3)) (ht : (pc : Int) + off = (tgt : Int))
    (kt : x < y → gX p l e R s m args below meth c D A nL hs cells slots Q G V tgt rest) (kf : ¬ x < y → gX p l e R s m args below meth c D A nL hs cells slots Q G V (pc + 3) rest) : gX p l e R s m args below meth c D A nL hs cells slots Q G V pc (.int y :: .int x :: rest) :=
  fun H locs ls hP hS hz hL => lv_icmp_lt C.1 C.2.1 hdg ht (fun h => kt h H locs ls hP hS hz hL) (fun h => kf h H locs ls hP hS hz hL)
theorem gx_if_lt (C : gC p s m args meth c cc ret Ts own nm D A nL hs0) {x : Int32} {off : Int} {tgt : Nat} (hdg : decode cc pc = .ok (.ifCond .lt off, 3)) (ht : (pc : Int) + off = (tgt : Int))
    (kt : x < 0 → gX p l e R s m args below meth c D A nL hs cells slots Q G V tgt rest) (kf : ¬ x < 0 → gX p l e R s m args below meth c D A nL hs cells slots Q G V (pc + 3) rest) : gX p l e R s m args below meth c D A nL hs cells slots Q G V pc (.int x :: rest) :=
  fun H locs ls hP hS hz hL => lv_if_lt C.1 C.2.1 hdg ht (fun h => kt h H locs ls hP hS hz hL) (fun h => kf h H locs ls hP hS hz hL)
theorem gx_icmp_ge (C : gC p s m args meth c cc ret Ts own nm D A nL hs0) {x y : Int32} {off : Int} {tgt : Nat} (hdg : decode cc pc = .ok (.if_icmp .ge off, 3)) (ht : (pc : Int) + off = (tgt : Int))
    (kt : y ≤ x → gX p l e R s m args below meth c D A nL hs cells slots Q G V tgt rest) (kf : ¬ y ≤ x → gX p l e R s m args below meth c D A nL hs cells slots Q G V (pc + 3) rest) : gX p l e R s m args below meth c D A nL hs cells slots Q G V pc (.int y :: .int x :: rest) :=
  fun H locs ls hP hS hz hL => lv_icmp_ge C.1 C.2.1 hdg ht (fun h => kt h H locs ls hP hS hz hL) (fun h => kf h H locs ls hP hS hz hL)
theorem gx_if_ge (C : gC p s m args meth c cc ret Ts own nm D A nL hs0) {x : Int32} {off : Int} {tgt : Nat} (hdg : decode cc pc = .ok (.ifCond .ge off, 3)) (ht : (pc : Int) + off = (tgt : Int))
    (kt : 0 ≤ x → gX p l e R s m args below meth c D A nL hs cells slots Q G V tgt rest) (kf : ¬ 0 ≤ x → gX p l e R s m args below meth c D A nL hs cells slots Q G V (pc + 3) rest) : gX p l e R s m args below meth c D A nL hs cells slots Q G V pc (.int x :: rest) :=
  fun H locs ls hP hS hz hL => lv_if_ge C.1 C.2.1 hdg ht (fun h => kt h H locs ls hP hS hz hL) (fun h => kf h H locs ls hP hS hz hL)
theorem gx_icmp_gt (C : gC p s m args meth c cc ret Ts own nm D A nL hs0) {x y : Int32} {off : Int} {tgt : Nat} (hdg : decode cc pc = .ok (.if_icmp .gt off, 3)) (ht : (pc : Int) + off = (tgt : Int))
    (kt : y < x → gX p l e R s m args below meth c D A nL hs cells slots Q G V tgt rest) (kf : ¬ y < x → gX p l e R s m args below meth c D A nL hs cells slots Q G V (pc + 3) rest) : gX p l e R s m args below meth c D A nL hs cells slots Q G V pc (.int y :: .int x :: rest) :=
  fun H locs ls hP hS hz hL => lv_icmp_gt C.1 C.2.1 hdg ht (fun h => kt h H locs ls hP hS hz hL) (fun h => kf h H locs ls hP hS hz hL)
theorem gx_if_gt (C : gC p s m args meth c cc ret Ts own nm D A nL hs0) {x : Int32} {off : Int} {tgt : Nat} (hdg : decode cc pc = .ok (.ifCond .gt off, 3)) (ht : (pc : Int) + off = (tgt : Int))
    (kt : 0 < x → gX p l e R s m args below meth c D A nL hs cells slots Q G V tgt rest) (kf : ¬ 0 < x → gX p l e R s m args below meth c D A nL hs cells slots Q G V (pc + 3) rest) : gX p l e R s m args below meth c D A nL hs cells slots Q G V pc (.int x :: rest) :=
  fun H locs ls hP hS hz hL => lv_if_gt C.1 C.2.1 hdg ht (fun h => kt h H locs ls hP hS hz hL) (fun h => kf h H locs ls hP hS hz hL)
theorem gx_icmp_le (C : gC p s m args meth c cc ret Ts own nm D A nL hs0) {x y : Int32} {off : Int} {tgt : Nat} (hdg : decode cc pc = .ok (.if_icmp .le off, 3)) (ht : (pc : Int) + off = (tgt : Int))
    (kt : x ≤ y → gX p l e R s m args below meth c D A nL hs cells slots Q G V tgt rest) (kf : ¬ x ≤ y → gX p l e R s m args below meth c D A nL hs cells slots Q G V (pc + 3) rest) : gX p l e R s m args below meth c D A nL hs cells slots Q G V pc (.int y :: .int x :: rest) :=
  fun H locs ls hP hS hz hL => lv_icmp_le C.1 C.2.1 hdg ht (fun h => kt h H locs ls hP hS hz hL) (fun h => kf h H locs ls hP hS hz hL)
theorem gx_if_le (C : gC p s m args meth c cc ret Ts own nm D A nL hs0) {x : Int32} {off : Int} {tgt : Nat} (hdg : decode cc pc = .ok (.ifCond .le off, 3)) (ht : (pc : Int) + off = (tgt : Int))
    (kt : x ≤ 0 → gX p l e R s m args below meth c D A nL hs cells slots Q G V tgt rest) (kf : ¬ x ≤ 0 → gX p l e R s m args below meth c D A nL hs cells slots Q G V (pc + 3) rest) : gX p l e R s m args below meth c D A nL hs cells slots Q G V pc (.int x :: rest) :=
  fun H locs ls hP hS hz hL => lv_if_le C.1 C.2.1 hdg ht (fun h => kt h H locs ls hP hS hz hL) (fun h => kf h H locs ls hP hS hz hL)
theorem gx_aload_nN (C : gC p s m args meth c cc ret Ts own nm D A nL hs0) {k : Fin 4} (hdg : decode cc pc = .ok (.aload_n k, 1)) (hV : V[(k : Nat)]? = some (some .null))
    (kk : gX p l e R s m args below meth c D A nL hs cells slots Q G V (pc + 1) (.null :: rest)) : gX p l e R s m args below meth c D A nL hs cells slots Q G V pc rest :=
  fun H locs ls hP hS hz hL => lv_aload_nN C.1 C.2.1 hdg rfl (gL_at hL hV) (kk H locs ls hP hS hz hL)
theorem gx_aloadN (C : gC p s m args meth c cc ret Ts own nm D A nL hs0) {i : Nat} (hdg : decode cc pc = .ok (.aload i, 2)) (hV : V[i]? = some (some .null))
    (kk : gX p l e R s m args below meth c D A nL hs cells slots Q G V (pc + 2) (.null :: rest)) : gX p l e R s m args below meth c D A nL hs cells slots Q G V pc rest :=
  fun H locs ls hP hS hz hL => lv_aloadN C.1 C.2.1 hdg (gL_at hL hV) (kk H locs ls hP hS hz hL)
theorem gx_astore_nN (C : gC p s m args meth c cc ret Ts own nm D A nL hs0) {k : Fin 4} (hdg : decode cc pc = .ok (.astore_n k, 1)) (hn : (k : Nat) < nL)
    (kk : gX p l e R s m args below meth c D A nL hs cells slots Q G (V.set (k : Nat) (some .null)) (pc + 1) rest) : gX p l e R s m args below meth c D A nL hs cells slots Q G V pc (.null :: rest) :=
  fun H locs ls hP hS hz hL => lv_astore_nN C.1 C.2.1 hdg rfl (gL_has hL) hn rfl (fun ls' h' => kk H locs ls' hP hS hz (gL_set hL rfl h'))
theorem gx_astoreN (C : gC p s m args meth c cc ret Ts own nm D A nL hs0) {i : Nat} (hdg : decode cc pc = .ok (.astore i, 2)) (hn : i < nL)
    (kk : gX p l e R s m args below meth c D A nL hs cells slots Q G (V.set i (some .null)) (pc + 2) rest) : gX p l e R s m args below meth c D A nL hs cells slots Q G V pc (.null :: rest) :=
  fun H locs ls hP hS hz hL => lv_astoreN C.1 C.2.1 hdg (gL_has hL) hn rfl (fun ls' h' => kk H locs ls' hP hS hz (gL_set hL rfl h'))
theorem gx_null (C : gC p s m args meth c cc ret Ts own nm D A nL hs0) (hdg : decode cc pc = .ok (.aconst_null, 1)) (kk : gX p l e R s m args below meth c D A nL hs cells slots Q G V (pc + 1) (.null :: rest)) : gX p l e R s m args below meth c D A nL hs cells slots Q G V pc rest :=
  fun H locs ls hP hS hz hL => lv_null C.1 C.2.1 hdg (kk H locs ls hP hS hz hL)
theorem gx_ifnull (C : gC p s m args meth c cc ret Ts own nm D A nL hs0) {x : Nat} {off : Int} (hdg : decode cc pc = .ok (.ifnull off, 3)) (kk : gX p l e R s m args below meth c D A nL hs cells slots Q G V (pc + 3) rest) : gX p l e R s m args below meth c D A nL hs cells slots Q G V pc (.ref x :: rest) :=
  fun H locs ls hP hS hz hL => lv_ifnull C.1 C.2.1 hdg (kk H locs ls hP hS hz hL)
theorem gx_ifnullN (C : gC p s m args meth c cc ret Ts own nm D A nL hs0) {off : Int} {tgt : Nat} (hdg : decode cc pc = .ok (.ifnull off, 3)) (ht : (pc : Int) + off = (tgt : Int)) (kk : gX p l e R s m args below meth c D A nL hs cells slots Q G V tgt rest) : gX p l e R s m args below meth c D A nL hs cells slots Q G V pc (.null :: rest) :=
  fun H locs ls hP hS hz hL => lv_ifnullN C.1 C.2.1 hdg ht (kk H locs ls hP hS hz hL)
theorem gx_ifnonnull (C : gC p s m args meth c cc ret Ts own nm D A nL hs0) {x : Nat} {off : Int} {tgt : Nat} (hdg : decode cc pc = .ok (.ifnonnull off, 3)) (ht : (pc : Int) + off = (tgt : Int)) (kk : gX p l e R s m args below meth c D A nL hs cells slots Q G V tgt rest) : gX p l e R s m args below meth c D A nL hs cells slots Q G V pc (.ref x :: rest) :=
  fun H locs ls hP hS hz hL => lv_ifnonnull C.1 C.2.1 hdg ht (kk H locs ls hP hS hz hL)
theorem gx_ifnonnullN (C : gC p s m args meth c cc ret Ts own nm D A nL hs0) {off : Int} (hdg : decode cc pc = .ok (.ifnonnull off, 3)) (kk : gX p l e R s m args below meth c D A nL hs cells slots Q G V (pc + 3) rest) : gX p l e R s m args below meth c D A nL hs cells slots Q G V pc (.null :: rest) :=
  fun H locs ls hP hS hz hL => lv_ifnonnullN C.1 C.2.1 hdg (kk H locs ls hP hS hz hL)
/-- a name for a computed number -/
theorem gx_topi {x : Int32} (kk : ∀ y : Int32, y = x → gX p l e R s m args below meth c D A nL hs cells slots Q G V pc (.int y :: rest)) : gX p l e R s m args below meth c D A nL hs cells slots Q G V pc (.int x :: rest) := kk x rfl
theorem gx_top {x y : Int32} (h : x = y) (kk : gX p l e R s m args below meth c D A nL hs cells slots Q G V pc (.int y :: rest)) : gX p l e R s m args below meth c D A nL hs cells slots Q G V pc (.int x :: rest) := h ▸ kk
end GX
def gFd (Ts : List Cond) (own : String) (index ci : Nat) (Cn : String) (T : u_T) (N k : Nat) : Prop := (∀ w ∈ u_ws Cn T N, w ∈ Ts) ∧ vwCl[ci]? = some (Cn, T, N) ∧ k < N ∧ Cond.fieldLink own index (T k).1 (T k).2.1 (T k).2.2.1 ∈ Ts
def gFn (Ts : List Cond) (own : String) (index ci : Nat) (Cn : String) (T : u_T) (N k : Nat) : Prop := (∀ w ∈ u_ws Cn T N, w ∈ Ts) ∧ vwCl[ci]? = some (Cn, T, N) ∧ k < N ∧ Cond.fieldLinkNest own index (T k).1 (T k).2.1 (T k).2.2.1 "ProofSheets" ∈ gNest
theorem gNest_tab : ∀ w ∈ gNest, w.onTables = true := by
  intro w hw
  simp only [gNest, List.mem_cons, List.not_mem_nil, or_false] at hw
  rcases hw with rfl | rfl | rfl | rfl | rfl | rfl | rfl | rfl | rfl | rfl | rfl | rfl | rfl | rfl | rfl | rfl | rfl | rfl | rfl | rfl | rfl | rfl | rfl | rfl | rfl | rfl | rfl | rfl | rfl | rfl | rfl <;> rfl
section GY
variable {p : Program} {l : Launch} {e : Env} {R : Room} {s : State} {m : MethodId} {args : Array Value} {below : List Frame} {meth : Method} {c : Code} {cc : ByteArray} {ret : Option FieldType} {Ts : List Cond} {own nm : String} {D : gD} {A : Nat → Prop} {nL hs0 hs cells slots : Nat} {Q : State → Prop} {G : gH} {V : List (Option Value)} {pc : Nat} {rest : List Value} {index ci N k a n : Nat} {Cn : String} {T : u_T} {fs : List Value} {f : Nat → Int32} {fq : Nat → Option Nat}
theorem gx_get (C : gC p s m args meth c cc ret Ts own nm D A nL hs0) (F : gFd Ts own index ci Cn T N k) {v : Value} (hG : G a = some (.inr (ci, fs))) (hv : fs[k]? = some v) (hdg : decode cc pc = .ok (.getfield index, 3))
    (kk : gX p l e R s m args below meth c D A nL hs cells slots Q G V (pc + 3) (v :: rest)) : gX p l e R s m args below meth c D A nL hs cells slots Q G V pc (.ref a :: rest) :=
  fun H locs ls hP hS hz hL => va_get C.1 C.2.1 C.2.2.2.1 F.1 C.2.2.2.2.1 C.2.2.2.2.2.2.2.1.1 (gP_one hP hG) 0 rfl F.2.1 k F.2.2.1 (C.2.2.2.1 _ F.2.2.2) (fun _ h => h) hv hdg (kk H locs ls hP hS hz hL)
theorem gx_getN (C : gC p s m args meth c cc ret Ts own nm D A nL hs0) (F : gFn Ts own index ci Cn T N k) {v : Value} (hG : G a = some (.inr (ci, fs))) (hv : fs[k]? = some v) (hdg : decode cc pc = .ok (.getfield index, 3))
    (kk : gX p l e R s m args below meth c D A nL hs cells slots Q G V (pc + 3) (v :: rest)) : gX p l e R s m args below meth c D A nL hs cells slots Q G V pc (.ref a :: rest) :=
  fun H locs ls hP hS hz hL => va_getN C.1 C.2.1 C.2.2.2.1 F.1 C.2.2.2.2.1 C.2.2.2.2.2.2.2.1.1 (gP_one hP hG) 0 rfl F.2.1 k F.2.2.1 (va_Nw.use (gNest_tab _ F.2.2.2) (C.2.2.2.2.2.2.2.1.2.1 _ F.2.2.2)) (fun _ h => h) hv hdg (kk H locs ls hP hS hz hL)
theorem gx_put (C : gC p s m args meth c cc ret Ts own nm D A nL hs0) (F : gFd Ts own index ci Cn T N k) {ty0 : Nat → FieldType} (hty : ∀ k, k < N → parseFieldDescriptor (T k).2.2.1 = some (ty0 k)) (hnm : ∀ a, a < N → ∀ b, b < N → a ≠ b → (T a).2.1 ≠ (T b).2.1) (hfin : (T k).2.2.2 = false) {v : Value} (hn : narrow (ty0 k) v = v) (hfit : fits (ty0 k) v = true) (hG : G a = some (.inr (ci, fs))) (hl : k < fs.length) (hdg : decode cc pc = .ok (.putfield index, 3))
    (kk : gX p l e R s m args below meth c D A nL hs cells slots Q (gU G a (.inr (ci, fs.set k v))) V (pc + 3) rest) : gX p l e R s m args below meth c D A nL hs cells slots Q G V pc (v :: .ref a :: rest) := by
  intro H locs ls hP hS0 hz hL
  obtain ⟨hx, hb, -, hts, hown, -, -, ⟨hK, -⟩, -, -⟩ := C
  obtain ⟨hin, hc, hk, hlk⟩ := F
  have hap := va_apart (own := own) hts hin ty0 hty hnm hK hc
  obtain ⟨hAa, r, h1, cell, q1, q2, q3, q4⟩ := hP a _ hG
  have hr : r = (Cn, T, N) := Option.some.inj (h1.symm.trans hc)
  subst hr
  obtain ⟨hS, hfc, kC, hkC, hkind⟩ := hK.1 ci _ hc
  obtain ⟨cf, kf, fi, fd, hi, hsl⟩ := hS k hk
  have hlay := hts _ (hin _ (u_in_lay hk))
  unfold u_lay at hlay
  rw [if_neg (by rw [hfin]; decide)] at hlay
  have hst := (u_facts hfc hkC (u_lays hts hin hk) hi).1
  have h6 := u_store hfc hkC hkind hlay hi (hty k hk) hn hfit
  refine W.putK hx hb (f := fd) ⟨hown, hts _ hlk, ⟨_, _, _, hi⟩, hst⟩ (by rw [q2]; exact h6) q1 q3 (by rw [hsl]; exact k2_hasslot (q4 k hk)) rfl rfl hdg fun H' e1 e2 e3 => ?_
  rw [hsl] at e1 ⊢
  exact kk H' _ ls (gP_up hP hAa ⟨_, hc, t_OB.to (V := updV (vp_V fs) k v) ⟨_, e1, q2, q3, t_set q4 hap hk v⟩ (fun j _ => vp_updV_set hl v j)⟩ e3) (hS0.put e2 e3 hAa) (e2.trans hz) hL
theorem gx_putN (C : gC p s m args meth c cc ret Ts own nm D A nL hs0) (F : gFn Ts own index ci Cn T N k) {ty0 : Nat → FieldType} (hty : ∀ k, k < N → parseFieldDescriptor (T k).2.2.1 = some (ty0 k)) (hnm : ∀ a, a < N → ∀ b, b < N → a ≠ b → (T a).2.1 ≠ (T b).2.1) (hfin : (T k).2.2.2 = false) {v : Value} (hn : narrow (ty0 k) v = v) (hfit : fits (ty0 k) v = true) (hG : G a = some (.inr (ci, fs))) (hl : k < fs.length) (hdg : decode cc pc = .ok (.putfield index, 3))
    (kk : gX p l e R s m args below meth c D A nL hs cells slots Q (gU G a (.inr (ci, fs.set k v))) V (pc + 3) rest) : gX p l e R s m args below meth c D A nL hs cells slots Q G V pc (v :: .ref a :: rest) := by
  intro H locs ls hP hS0 hz hL
  obtain ⟨hx, hb, -, hts, hown, -, -, ⟨hK, hNe, -⟩, -, -⟩ := C
  obtain ⟨hin, hc, hk, hlk⟩ := F
  have hap := va_apart (own := own) hts hin ty0 hty hnm hK hc
  obtain ⟨hAa, r, h1, cell, q1, q2, q3, q4⟩ := hP a _ hG
  have hr : r = (Cn, T, N) := Option.some.inj (h1.symm.trans hc)
  subst hr
  obtain ⟨hS, hfc, kC, hkC, hkind⟩ := hK.1 ci _ hc
  obtain ⟨cf, kf, fi, fd, hi, hsl⟩ := hS k hk
  have hlay := hts _ (hin _ (u_in_lay hk))
  unfold u_lay at hlay
  rw [if_neg (by rw [hfin]; decide)] at hlay
  have hst := (u_facts hfc hkC (u_lays hts hin hk) hi).1
  have h6 := u_store hfc hkC hkind hlay hi (hty k hk) hn hfit
  refine va_WputK hx hb (f := fd) hown (va_Nw.use (gNest_tab _ hlk) (hNe _ hlk)) hi hst (by rw [q2]; exact h6) q1 q3 (by rw [hsl]; exact k2_hasslot (q4 k hk)) rfl rfl hdg fun H' e1 e2 e3 => ?_
  rw [hsl] at e1 ⊢
  exact kk H' _ ls (gP_up hP hAa ⟨_, hc, t_OB.to (V := updV (vp_V fs) k v) ⟨_, e1, q2, q3, t_set q4 hap hk v⟩ (fun j _ => vp_updV_set hl v j)⟩ e3) (hS0.put e2 e3 hAa) (e2.trans hz) hL
theorem gx_putF (C : gC p s m args meth c cc ret Ts own nm D A nL hs0) (F : gFd Ts own index ci Cn T N k) {ty0 : Nat → FieldType} (hty : ∀ k, k < N → parseFieldDescriptor (T k).2.2.1 = some (ty0 k)) (hnm : ∀ a, a < N → ∀ b, b < N → a ≠ b → (T a).2.1 ≠ (T b).2.1) (hfin : (T k).2.2.2 = true) (hini : nm = "<init>") (hdecl : (T k).1 = own) {v : Value} (hn : narrow (ty0 k) v = v) (hfit : fits (ty0 k) v = true) (hG : G a = some (.inr (ci, fs))) (hl : k < fs.length) (hdg : decode cc pc = .ok (.putfield index, 3))
    (kk : gX p l e R s m args below meth c D A nL hs cells slots Q (gU G a (.inr (ci, fs.set k v))) V (pc + 3) rest) : gX p l e R s m args below meth c D A nL hs cells slots Q G V pc (v :: .ref a :: rest) := by
  intro H locs ls hP hS0 hz hL
  obtain ⟨hx, hb, -, hts, hown, -, -, ⟨hK, -⟩, hnm2, -⟩ := C
  obtain ⟨hin, hc, hk, hlk⟩ := F
  have hap := va_apart (own := own) hts hin ty0 hty hnm hK hc
  obtain ⟨hAa, r, h1, cell, q1, q2, q3, q4⟩ := hP a _ hG
  have hr : r = (Cn, T, N) := Option.some.inj (h1.symm.trans hc)
  subst hr
  obtain ⟨hS, hfc, kC, hkC, hkind⟩ := hK.1 ci _ hc
  obtain ⟨cf, kf, fi, fd, hi, hsl⟩ := hS k hk
  have hlay := hts _ (hin _ (u_in_lay hk))
  unfold u_lay at hlay
  rw [if_pos hfin] at hlay
  have hst := (u_facts hfc hkC (u_lays hts hin hk) hi).1
  have hcf : m.cls = cf := by
    obtain ⟨_, _, c', _, _, _, -, -, hf', -, -, -, hown2, -⟩ := Cond.laysFinal_spec hlay
    have e1 : c' = cf := by have := hi.symm.trans hf'; simp at this; exact this.1.symm
    rw [hdecl] at hown2
    rw [← e1]; exact Option.some.inj (hown.symm.trans hown2)
  have h6 := u_fits hfc hkC hkind (Or.inr hlay) hi (hty k hk) hn hfit
  refine W.putFinK hx hb hown (hts _ hlk) hi hst hcf (hnm2.trans hini) (by rw [q2]; exact h6) q1 q3 (by rw [hsl]; exact k2_hasslot (q4 k hk)) rfl rfl hdg fun H' e1 e2 e3 => ?_
  rw [hsl] at e1 ⊢
  exact kk H' _ ls (gP_up hP hAa ⟨_, hc, t_OB.to (V := updV (vp_V fs) k v) ⟨_, e1, q2, q3, t_set q4 hap hk v⟩ (fun j _ => vp_updV_set hl v j)⟩ e3) (hS0.put e2 e3 hAa) (e2.trans hz) hL
theorem gx_iald (C : gC p s m args meth c cc ret Ts own nm D A nL hs0) {i : Int32} (hG : G a = some (.inl (D.1.1 100, n, .inl f))) (hin : vp_in i n) (hdg : decode cc pc = .ok (.iaload, 1))
    (kk : gX p l e R s m args below meth c D A nL hs cells slots Q G V (pc + 1) (.int (f i.toNatClampNeg) :: rest)) : gX p l e R s m args below meth c D A nL hs cells slots Q G V pc (.int i :: .ref a :: rest) :=
  fun H locs ls hP hS hz hL => va_iald C.1 C.2.1 C.2.2.2.2.2.2.2.1.1 (gP_one hP hG) 0 0 rfl rfl hin hdg (kk H locs ls hP hS hz hL)
theorem gx_iast (C : gC p s m args meth c cc ret Ts own nm D A nL hs0) {i x : Int32} (hG : G a = some (.inl (D.1.1 100, n, .inl f))) (hin : vp_in i n) (hdg : decode cc pc = .ok (.iastore, 1))
    (kk : gX p l e R s m args below meth c D A nL hs cells slots Q (gU G a (.inl (D.1.1 100, n, .inl (upd f i.toNatClampNeg x)))) V (pc + 1) rest) : gX p l e R s m args below meth c D A nL hs cells slots Q G V pc (.int x :: .int i :: .ref a :: rest) := by
  intro H locs ls hP hS hz hL
  obtain ⟨hAa, ha⟩ := hP a _ hG
  refine W.iast C.1 C.2.1 ha ((C.2.2.2.2.2.2.2.1.1.2 0 _ rfl).1 n (fun j => .int (f j))) (fun q => by cases q) (by show ¬ (i < 0 ∨ (arrV _ _ _).slots.size ≤ _); rw [arrV_size]; exact hin) rfl rfl hdg fun H1 e z oq => ?_
  refine kk H1 _ ls (gP_up hP hAa ?_ oq) (hS.put z oq hAa) (z.trans hz) hL
  show H1[a]? = some (vp_cell _ _)
  rw [e]
  rw [vp_cell_i, vp_cell_i, arrV_store]
  congr 2
  funext q
  by_cases hq : q = i.toNatClampNeg
  · subst hq
    simp [updV, upd]
  · simp [updV, upd, hq]
theorem gx_alen (C : gC p s m args meth c cc ret Ts own nm D A nL hs0) {t0 : Nat} {cA : ClassId} {ty : FieldType} {x : vp_A} (hG : G a = some (.inl (cA, x))) (ht : (gTys D)[t0]? = some (cA, ty)) {v : Int32} (hv : Int32.ofNat x.1 = v) (hdg : decode cc pc = .ok (.arraylength, 1))
    (kk : gX p l e R s m args below meth c D A nL hs cells slots Q G V (pc + 1) (.int v :: rest)) : gX p l e R s m args below meth c D A nL hs cells slots Q G V pc (.ref a :: rest) :=
  fun H locs ls hP hS hz hL => va_alen C.1 C.2.1 C.2.2.2.2.2.2.2.1.1 (gP_one hP hG) 0 t0 rfl ht hv hdg (kk H locs ls hP hS hz hL)
theorem gx_aald (C : gC p s m args meth c cc ret Ts own nm D A nL hs0) {t0 : Nat} {cA : ClassId} {i : Int32} (hG : G a = some (.inl (cA, n, .inr (.inr (.inr (.inr fq)))))) (ht : (gTys D)[t0]? = some (cA, .object Cn)) (hin : vp_in i n) (hdg : decode cc pc = .ok (.aaload, 1))
    (kk : gX p l e R s m args below meth c D A nL hs cells slots Q G V (pc + 1) (va_rf (fq i.toNatClampNeg) :: rest)) : gX p l e R s m args below meth c D A nL hs cells slots Q G V pc (.int i :: .ref a :: rest) :=
  fun H locs ls hP hS hz hL => va_aldq C.1 C.2.1 C.2.2.2.2.2.2.2.1.1 (gP_one hP hG) 0 t0 rfl ht hin hdg (kk H locs ls hP hS hz hL)
theorem gx_aast (C : gC p s m args meth c cc ret Ts own nm D A nL hs0) {t0 v ck : Nat} {vs : List Value} {r : vw_C} {cA : ClassId} {i : Int32} (hG : G a = some (.inl (cA, n, .inr (.inr (.inr (.inr fq)))))) (ht : (gTys D)[t0]? = some (cA, .object r.1)) (hv : G v = some (.inr (ck, vs))) (hc : vwCl[ck]? = some r) (hin : vp_in i n) (hdg : decode cc pc = .ok (.aastore, 1))
    (kk : gX p l e R s m args below meth c D A nL hs cells slots Q (gU G a (.inl (cA, n, .inr (.inr (.inr (.inr (va_up fq i.toNatClampNeg (some v)))))))) V (pc + 1) rest) : gX p l e R s m args below meth c D A nL hs cells slots Q G V pc (.ref v :: .int i :: .ref a :: rest) := by
  intro H locs ls hP hS hz hL
  obtain ⟨hAa, ha⟩ := hP a _ hG
  have hK := C.2.2.2.2.2.2.2.1.1
  have hlt : i.toNatClampNeg < n := Nat.not_le.mp fun q => hin (Or.inr q)
  have h0 : ¬ i < 0 := fun q => hin (Or.inl q)
  obtain ⟨-, r', hr', cellV, g1, g2, g3, -⟩ := hP v _ hv
  have hcls := (hK.1 ck r hc).2
  obtain ⟨kA, comp, k1, k2, k3, -⟩ := (hK.2 t0 _ ht).2
  have hcomp : comp = D.1.1 ck := Option.some.inj (k3.symm.trans hcls.1)
  subst hcomp
  obtain ⟨kC, hkC, -⟩ := hcls.2
  refine W.aast C.1 C.2.1 ha (fun q h => by cases h) (fun h => by cases h) k1 k2 rfl hkC ⟨h0, by show _ < (arrV _ _ _).slots.size; rw [arrV_size]; exact hlt⟩ g1 (fun q h => by rw [g3] at h; cases h) (by rw [g2]; exact hkC) (by rw [g2]; exact va_assign hcls) rfl rfl hdg fun H1 e z oq => ?_
  refine kk H1 _ ls (gP_up hP hAa ?_ oq) (hS.put z oq hAa) (z.trans hz) hL
  show H1[a]? = some (vp_cell _ _)
  rw [e]
  rw [vp_cell_q, vp_cell_q, arrV_store]
  congr 2
  funext q
  by_cases hq : q = i.toNatClampNeg
  · subst hq
    simp [updV, va_up, va_rf]
  · simp [updV, va_up, hq]
theorem gP_push {H H1 : Heap} {e1 : va_E} (h : gP D A G H) (z1 : H1.size = H.size + 1) (hA : A H.size) (he : va_at D.1 vwCl (H.size, e1) H1) (oq : ∀ q : Nat, q < H.size → H1[q]? = H[q]?) : gP D A (gU G H.size e1) H1 := by
  intro q x hq
  unfold gU at hq
  by_cases cq : q = H.size
  · rw [if_pos cq] at hq
    cases hq
    subst cq
    exact ⟨hA, he⟩
  · rw [if_neg cq] at hq
    exact ⟨(h q x hq).1, (h q x hq).2.kept (oq q (h q x hq).2.lt)⟩
theorem gx_new (C : gC p s m args meth c cc ret Ts own nm D A nL hs0) (hin : ∀ w ∈ u_ws Cn T N, w ∈ Ts) (hc : vwCl[ci]? = some (Cn, T, N)) {ty : Nat → FieldType} (hty : ∀ k, k < N → parseFieldDescriptor (T k).2.2.1 = some (ty k)) (hcl : Cond.classLink own index Cn ∈ Ts) (hinst : Cond.instantiable Cn N ∈ Ts) (hini : Cond.initialized Cn ∈ Ts) (hA : ∀ q, hs0 ≤ q → A q) (hfs : ∀ j, j < N → defaultValue (ty j) = vp_V fs j) (hcells : cells + 1 ≤ R.cells) (hslots : slots + N ≤ R.slots) (hdg : decode cc pc = .ok (.new index, 3))
    (kk : gX p l e R s m args below meth c D A nL (hs + 1) (cells + 1) (slots + N) Q (gU G hs (.inr (ci, fs))) V (pc + 3) (.ref hs :: rest)) : gX p l e R s m args below meth c D A nL hs cells slots Q G V pc rest := by
  intro H locs ls hP hS hz hL
  obtain ⟨hx, hb, -, hts, hown, -, -, ⟨hK, -⟩, -, hs0e⟩ := C
  have hKn := hK.1 ci _ hc
  refine W.newcK hx hb hown (hts _ hcl) (hts _ hinst) (hts _ hini) rfl hdg hcells hslots hKn.2.1 hz fun H1 kC hkC e1 z1 o1 => ?_
  have hAh : A H.size := hA _ (by have := hS.1; omega)
  refine kk H1 locs ls ?_ ⟨Nat.le_trans hS.1 (by omega), fun x h1 h2 => (o1 x (by have := hS.1; omega)).trans (hS.2.1 x h1 h2), hS.2.2⟩ z1 hL
  subst hz
  exact gP_push hP z1 hAh ⟨_, hc, (u_born ty hts hin hKn hkC e1 hty).to hfs⟩ o1
theorem gx_newa (C : gC p s m args meth c cc ret Ts own nm D A nL hs0) (harr : Cond.arrayClass .int ∈ Ts) (hA : ∀ q, hs0 ≤ q → A q) {x : Int32} (hn : ¬ x < 0) (hN : x.toNatClampNeg = n) (hbytes : n * 4 ≤ 536870912) (hcells : cells + 1 ≤ R.cells) (hslots : slots + n ≤ R.slots) (hdg : decode cc pc = .ok (.newarray .int, 2))
    (kk : gX p l e R s m args below meth c D A nL (hs + 1) (cells + 1) (slots + n) Q (gU G hs (.inl (D.1.1 100, n, .inl (fun _ => 0)))) V (pc + 2) (.ref hs :: rest)) : gX p l e R s m args below meth c D A nL hs cells slots Q G V pc (.int x :: rest) := by
  intro H locs ls hP hS hz hL
  obtain ⟨hx, hb, -, hts, hown, -, -, ⟨hK, -⟩, -, hs0e⟩ := C
  refine va_newaK hx hb (atype := .int) (hts _ harr) rfl hdg rfl hn hN hbytes hcells hslots hz fun H1 cA e1 z1 o1 hAr hNm => ?_
  have hAh : A H.size := hA _ (by have := hS.1; omega)
  have hcA : cA = D.1.1 100 := Option.some.inj (hNm.symm.trans ((hK.2 0 _ rfl).2 : s.vm.findClass _ = some (D.1.1 100)))
  subst hcA
  refine kk H1 locs ls ?_ ⟨Nat.le_trans hS.1 (by omega), fun x h1 h2 => (o1 x (by have := hS.1; omega)).trans (hS.2.1 x h1 h2), hS.2.2⟩ z1 hL
  subst hz
  refine gP_push hP z1 hAh ?_ o1
  show H1[H.size]? = some (vp_cell _ _)
  rw [vp_cell_i]
  exact e1
theorem gx_newq (C : gC p s m args meth c cc ret Ts own nm D A nL hs0) {t0 : Nat} {cA : ClassId} (ht : (gTys D)[t0]? = some (cA, .object Cn)) (hcl : Cond.classLink own index Cn ∈ Ts) (hover : Cond.arrayOver (.object Cn) ∈ Ts) (hA : ∀ q, hs0 ≤ q → A q) {x : Int32} (hn : ¬ x < 0) (hN : x.toNatClampNeg = n) (hbytes : n * 4 ≤ 536870912) (hcells : cells + 1 ≤ R.cells) (hslots : slots + n ≤ R.slots) (hdg : decode cc pc = .ok (.anewarray index, 3))
    (kk : gX p l e R s m args below meth c D A nL (hs + 1) (cells + 1) (slots + n) Q (gU G hs (.inl (cA, n, .inr (.inr (.inr (.inr (fun _ => none))))))) V (pc + 3) (.ref hs :: rest)) : gX p l e R s m args below meth c D A nL hs cells slots Q G V pc (.int x :: rest) := by
  intro H locs ls hP hS hz hL
  obtain ⟨hx, hb, -, hts, hown, -, -, ⟨hK, -⟩, -, hs0e⟩ := C
  subst hN
  refine W.anew hx hb hown (hts _ hcl) (hts _ hover) rfl hdg rfl hn hbytes hcells hslots fun cA' kA comp f1 f2 f3 f4 => ?_
  generalize hH1 : H.push ({ cls := cA', slots := Array.replicate x.toNatClampNeg .null, vm := .none } : Cell) = H1
  have z1 : H1.size = H.size + 1 := by rw [← hH1, Array.size_push]
  have e1 : H1[H.size]? = some (arrV cA' x.toNatClampNeg (fun _ => .null)) := by rw [← hH1, Array.getElem?_push_size, ← arrV_new]
  have o1 : ∀ q : Nat, q < H.size → H1[q]? = H[q]? := fun q hq => by rw [← hH1, Array.getElem?_push, if_neg (Nat.ne_of_lt hq)]
  have hAh : A H.size := hA _ (by have := hS.1; omega)
  obtain ⟨kA2, comp2, k1, k2, k3, k4⟩ := (hK.2 t0 _ ht).2
  have hcA : cA' = cA := Option.some.inj (f1.symm.trans k4)
  subst hcA
  subst hz
  refine kk H1 locs ls ?_ ⟨Nat.le_trans hS.1 (by omega), fun x h1 h2 => (o1 x (by have := hS.1; omega)).trans (hS.2.1 x h1 h2), hS.2.2⟩ z1 hL
  refine gP_push hP z1 hAh ?_ o1
  show H1[H.size]? = some (vp_cell _ _)
  rw [vp_cell_q]
  exact e1
theorem gx_objInit (C : gC p s m args meth c cc ret Ts own nm D A nL hs0) (hl1 : Cond.methodLink own index objectInit ∈ Ts) (hl2 : Cond.instanceMethod objectInit ∈ Ts) (hl3 : Cond.code objectInit ⟨#[0xb1]⟩ 1 none ∈ Ts) (hroom : (rest.map fun v => v.category).sum + 12 ≤ R.locals) (hfr : 1 ≤ R.frames) (hdg : decode cc pc = .ok (.invokespecial index, 3))
    (kk : gX p l e R s m args below meth c D A nL hs cells slots Q G V (pc + 3) rest) : gX p l e R s m args below meth c D A nL hs cells slots Q G V pc (.ref a :: rest) := by
  intro H locs ls hP hS hz hL
  obtain ⟨hx, hb, -, hts, hown, -, hml, -⟩ := C
  refine W.objInit hx hb hown (hts _ hl1) (hts _ hl2) (hts _ hl3) rfl (by rw [hml]; exact hL.1) rfl hdg hfr ?_ (kk H locs ls hP hS hz hL)
  show 2 * 0 + _ + 12 ≤ _
  omega
end GY
section GZ
variable {p : Program} {l : Launch} {e : Env} {R : Room} {s : State} {m : MethodId} {args : Array Value} {below : List Frame} {meth : Method} {c : Code} {cc : ByteArray} {ret : Option FieldType} {Ts : List Cond} {own nm : String} {D : gD} {A : Nat → Prop} {nL hs0 hs cells slots mc ms : Nat} {Q : State → Prop} {G : gH} {V : List (Option Value)} {pc : Nat} {rest : List Value} {index ci N k a n : Nat} {Cn : String} {T : u_T} {fs : List Value} {post : Option Value → gH → Prop}
theorem gQ_of {H : Heap} {locs : List Loc} {v : Option Value} {t : State} (hs0e : s.heap.size = hs0) (hq : post v G) (hP : gP D A G H) (hS : va_S A s.heap H locs) (hz : H.size = hs0 + mc) (ht : t.heap = H) : gQ D A hs0 mc post args s (.returned v) t := by
  refine ⟨⟨v, G, rfl, hq, by rw [ht]; exact hP⟩, by rw [ht]; exact hz, fun q h1 h2 => ?_⟩
  rw [ht]
  exact hS.2.1 q (by omega) h2
theorem gx_zret {ty : FieldType} (C : gC p s m args meth c cc (some ty) Ts own nm D A nL hs0) {v : Int32} (hn : narrow ty (.int v) = .int v) (hq : post (some (.int v)) G) (hdg : decode cc pc = .ok (.ireturn, 1)) :
    gX p l e R s m args below meth c D A nL (hs0 + mc) cells slots (MQ below (gQ D A hs0 mc post) args s cells slots A) G V pc [.int v] := by
  intro H locs ls hP hS hz hL
  obtain ⟨hx, hb, hr, hts, hown, hlk, hml, hK, hnm, hs0e⟩ := C
  exact W.zret hx hb hr hn (fun t ht hW => gQ_of hs0e hq hP hS hz ht) hS.2.2 hdg hlk
theorem gx_vret (C : gC p s m args meth c cc none Ts own nm D A nL hs0) (hq : post none G) (hdg : decode cc pc = .ok (.return_, 1)) :
    gX p l e R s m args below meth c D A nL (hs0 + mc) cells slots (MQ below (gQ D A hs0 mc post) args s cells slots A) G V pc [] := by
  intro H locs ls hP hS hz hL
  obtain ⟨hx, hb, hr, hts, hown, hlk, hml, hK, hnm, hs0e⟩ := C
  exact W.vret hx hb hr (fun t ht hW => gQ_of hs0e hq hP hS hz ht) hS.2.2 hdg hlk
theorem gx_aret {ty : FieldType} (C : gC p s m args meth c cc (some ty) Ts own nm D A nL hs0) {v : Value} (hty : (∃ n, ty = .object n) ∨ ∃ t, ty = .array t) (hv : v = .null ∨ ∃ a, v = .ref a) (hq : post (some v) G) (hdg : decode cc pc = .ok (.areturn, 1)) :
    gX p l e R s m args below meth c D A nL (hs0 + mc) cells slots (MQ below (gQ D A hs0 mc post) args s cells slots A) G V pc [v] := by
  intro H locs ls hP hS hz hL
  obtain ⟨hx, hb, hr, hts, hown, hlk, hml, hK, hnm, hs0e⟩ := C
  exact W.aret hx hb hr hty hv (fun t ht hW => gQ_of hs0e hq hP hS hz ht) hS.2.2 hdg hlk
theorem gx_ofRun (C : gC p s m args meth c cc ret Ts own nm D A nL hs0) {st0 : List Value} {a0 : Array Value} (hr : ∀ (H : Heap) (locs : List Loc) (ls : Array Slot), gP D A G H → va_S A s.heap H locs → H.size = hs → gL ls nL V → va_Run p l e R s m args below meth c H locs cells slots mc ms (F0 m pc ls st0) rest (gQ D A hs mc post a0) A)
    (kk : ∀ (v : Option Value) (G' : gH), post v G' → gX p l e R s m args below meth c D A nL (hs + mc) (cells + mc) (slots + ms) Q G' V (pc + 3) (v.toList ++ rest)) : gX p l e R s m args below meth c D A nL hs cells slots Q G V pc st0 := by
  intro H locs ls hP hS hz hL T hT X
  obtain ⟨v, st₀, t, T', L, h0, X', hL', e1, e2, ⟨⟨v', G', hv, hp, hb⟩, hz', hk⟩, st⟩ := hr H locs ls hP hS hz hL T hT X
  cases hv
  have hs0e := C.2.2.2.2.2.2.2.2.2
  obtain ⟨t2, a1, b1⟩ := kk v G' hp T'.heap (locs ++ L) ls (by rw [e1]; exact hb) ⟨by rw [e1, hz']; have := hS.1; omega, fun q h1 h2 => by
      rw [e1, hk q (by have := hS.1; omega) h2, h0]
      exact hS.2.1 q h1 h2, fun q hq => by
      rcases List.mem_append.mp hq with h | h
      · exact hS.2.2 q h
      · exact hL' q h⟩ (by rw [e1]; exact hz') hL T' rfl X'
  exact ⟨t2, st t2 a1, b1⟩
theorem gPc_of {H : Heap} {locs : List Loc} {av : List Value} (hK : gK D A s s.heap) (hP : gP D A G H) (hS : va_S A s.heap H locs) (hz : H.size = hs) : ∀ U : State, U.heap = H → s.WarmedH U.vm → gPc D A hs av G av.toArray U := fun U hU hW =>
  ⟨rfl, by rw [hU]; exact hz, by rw [hU]; exact hP, gK_warm hW (by rw [hU]; exact hS.2.1) hK⟩
/-- what a call's words say: the same for every state -/
def gCb (y : MethodName) (bytes : ByteArray) (maxL : Nat) (ret : Option FieldType) (ws : List Cond) (rm R : Room) (mc ms n : Nat) : Prop :=
  ws = Cond.code y bytes maxL ret :: ws.tail ∧ rm.cells = mc ∧ rm.slots = ms ∧ (y.cls ≠ "java/lang/invoke/MethodHandle" ∧ y.cls ≠ "java/lang/invoke/VarHandle" ∧ (parseMethodDescriptor y.desc).map (fun d => d.parameters.length) = some n) ∧ (rm.frames + 1 ≤ R.frames ∧ 8 + (maxL + 11) + rm.locals ≤ R.locals)
variable {y : MethodName} {bytes : ByteArray} {maxL : Nat} {ret2 : Option FieldType} {ws : List Cond} {rm : Room} {As : List Value} {b : Nat} {st0 : List Value}
theorem gx_callV (C : gC p s m args meth c cc ret Ts own nm D A nL hs0) (hM : gM l y ws rm D A hs mc ms (.ref b :: As) G post) (F : gCb y bytes maxL ret2 ws rm R mc ms n) (hT : GoodIn Ts (wsV own index y.cls y ws)) (hc : vwCl[ci]? = some (y.cls, T, N)) (hG : G b = some (.inr (ci, fs))) (hn : As.length = n) (hst : st0 = As.reverse ++ .ref b :: rest) (hroom : (rest.map fun v => v.category).sum ≤ 8) (hf : cells + mc ≤ R.cells ∧ slots + ms ≤ R.slots) (hdg : decode cc pc = .ok (.invokevirtual index, 3))
    (kk : ∀ (v : Option Value) (G' : gH), post v G' → gX p l e R s m args below meth c D A nL (hs + mc) (cells + mc) (slots + ms) Q G' V (pc + 3) (v.toList ++ rest)) : gX p l e R s m args below meth c D A nL hs cells slots Q G V pc st0 := by
  obtain ⟨f1, f2, f3, f4, f5⟩ := F
  refine gx_ofRun C (a0 := (.ref b :: As).toArray) (fun H locs ls hP hS hz hL => ?_) kk
  exact va_runV (As := As) (rest := rest) ⟨C.1, C.2.1, C.2.2.2.2.2.2.1, C.2.2.2.2.1, C.2.2.2.1⟩ hM (cwV n C.2.2.2.1 hT f1 f2 f3 ⟨rfl, f4⟩ f5) ⟨gPc_blind, va_recv C.2.2.2.2.2.2.2.1.1 (gP_one hP hG) hc (q0 := 0) rfl, gPc_of C.2.2.2.2.2.2.2.1 hP hS hz⟩ rfl hn hL.1 hst (lv_room hroom) hdg hf
theorem gx_callS (C : gC p s m args meth c cc ret Ts own nm D A nL hs0) (hM : gM l y ws rm D A hs mc ms As G post) (F : gCb y bytes maxL ret2 ws rm R mc ms n) (hT : GoodIn Ts (va_wsS own index y ws)) (hn : As.length = n) (hst : st0 = As.reverse ++ rest) (hroom : (rest.map fun v => v.category).sum ≤ 8) (hf : cells + mc ≤ R.cells ∧ slots + ms ≤ R.slots) (hdg : decode cc pc = .ok (.invokestatic index, 3))
    (kk : ∀ (v : Option Value) (G' : gH), post v G' → gX p l e R s m args below meth c D A nL (hs + mc) (cells + mc) (slots + ms) Q G' V (pc + 3) (v.toList ++ rest)) : gX p l e R s m args below meth c D A nL hs cells slots Q G V pc st0 := by
  obtain ⟨f1, f2, f3, f4, f5⟩ := F
  refine gx_ofRun C (a0 := As.toArray) (fun H locs ls hP hS hz hL => ?_) kk
  exact va_runS (As := As) (rest := rest) ⟨C.1, C.2.1, C.2.2.2.2.2.2.1, C.2.2.2.2.1, C.2.2.2.1⟩ hM (va_cwS n C.2.2.2.1 hT f1 f2 f3 f4 f5) ⟨gPc_blind, gPc_of C.2.2.2.2.2.2.2.1 hP hS hz⟩ rfl hn hL.1 hst (lv_room hroom) hdg hf
theorem gx_callSN (C : gC p s m args meth c cc ret Ts own nm D A nL hs0) (hM : gM l y ws rm D A hs mc ms As G post) (F : gCb y bytes maxL ret2 ws rm R mc ms n) (hT : GoodIn Ts ws) (h1 : Cond.methodLinkNest own index y "ProofSheets" ∈ gNest) (h2 : Cond.initialized y.cls ∈ Ts) (h3 : Cond.static y ∈ Ts) (hn : As.length = n) (hst : st0 = As.reverse ++ rest) (hroom : (rest.map fun v => v.category).sum ≤ 8) (hf : cells + mc ≤ R.cells ∧ slots + ms ≤ R.slots) (hdg : decode cc pc = .ok (.invokestatic index, 3))
    (kk : ∀ (v : Option Value) (G' : gH), post v G' → gX p l e R s m args below meth c D A nL (hs + mc) (cells + mc) (slots + ms) Q G' V (pc + 3) (v.toList ++ rest)) : gX p l e R s m args below meth c D A nL hs cells slots Q G V pc st0 := by
  obtain ⟨f1, f2, f3, f4, f5⟩ := F
  refine gx_ofRun C (a0 := As.toArray) (fun H locs ls hP hS hz hL => ?_) kk
  exact va_runSN (As := As) (rest := rest) ⟨C.1, C.2.1, C.2.2.2.2.2.2.1, C.2.2.2.2.1, C.2.2.2.1⟩ hM ⟨va_cnB n C.2.2.2.1 hT f1 f2 f3 (C.2.2.2.2.2.2.2.1.2.1 _ h1) (C.2.2.2.1 _ h2) f4 f5, C.2.2.2.1 _ h3, trivial⟩ ⟨gPc_blind, gPc_of C.2.2.2.2.2.2.2.1 hP hS hz⟩ rfl hn hL.1 hst (lv_room hroom) hdg hf
theorem gx_callI (C : gC p s m args meth c cc ret Ts own nm D A nL hs0) (hM : gM l y ws rm D A hs mc ms (.ref b :: As) G post) (F : gCb y bytes maxL none ws rm R mc ms n) (hT : GoodIn Ts ws) (h1 : Cond.methodLink own index y ∈ Ts) (h2 : Cond.initialized y.cls ∈ Ts) (h3 : Cond.instanceMethod y ∈ Ts) (h4 : y.name = "<init>") (hn : As.length = n) (hst : st0 = As.reverse ++ .ref b :: rest) (hroom : (rest.map fun v => v.category).sum ≤ 8) (hf : cells + mc ≤ R.cells ∧ slots + ms ≤ R.slots) (hdg : decode cc pc = .ok (.invokespecial index, 3))
    (kk : ∀ (v : Option Value) (G' : gH), post v G' → gX p l e R s m args below meth c D A nL (hs + mc) (cells + mc) (slots + ms) Q G' V (pc + 3) (v.toList ++ rest)) : gX p l e R s m args below meth c D A nL hs cells slots Q G V pc st0 := by
  obtain ⟨f1, f2, f3, f4, f5⟩ := F
  refine gx_ofRun C (a0 := (.ref b :: As).toArray) (fun H locs ls hP hS hz hL => ?_) kk
  exact va_runI (As := As) (rest := rest) ⟨C.1, C.2.1, C.2.2.2.2.2.2.1, C.2.2.2.2.1, C.2.2.2.1⟩ hM (cwI n C.2.2.2.1 hT f1 f2 f3 (C.2.2.2.1 _ h2) (C.2.2.2.1 _ h1) (C.2.2.2.1 _ h3) h4 f4 f5) ⟨gPc_blind, gPc_of C.2.2.2.2.2.2.2.1 hP hS hz⟩ rfl hn hL.1 hst (lv_room hroom) hdg hf
theorem gx_callIN (C : gC p s m args meth c cc ret Ts own nm D A nL hs0) (hM : gM l y ws rm D A hs mc ms (.ref b :: As) G post) (F : gCb y bytes maxL none ws rm R mc ms n) (hT : GoodIn Ts ws) (h1 : Cond.methodLinkNest own index y "ProofSheets" ∈ gNest) (h2 : Cond.initialized y.cls ∈ Ts) (h3 : Cond.instanceMethod y ∈ Ts) (h4 : y.name = "<init>") (hn : As.length = n) (hst : st0 = As.reverse ++ .ref b :: rest) (hroom : (rest.map fun v => v.category).sum ≤ 8) (hf : cells + mc ≤ R.cells ∧ slots + ms ≤ R.slots) (hdg : decode cc pc = .ok (.invokespecial index, 3))
    (kk : ∀ (v : Option Value) (G' : gH), post v G' → gX p l e R s m args below meth c D A nL (hs + mc) (cells + mc) (slots + ms) Q G' V (pc + 3) (v.toList ++ rest)) : gX p l e R s m args below meth c D A nL hs cells slots Q G V pc st0 := by
  obtain ⟨f1, f2, f3, f4, f5⟩ := F
  refine gx_ofRun C (a0 := (.ref b :: As).toArray) (fun H locs ls hP hS hz hL => ?_) kk
  exact va_runIN (As := As) (rest := rest) ⟨C.1, C.2.1, C.2.2.2.2.2.2.1, C.2.2.2.2.1, C.2.2.2.1⟩ hM ⟨va_cnB n C.2.2.2.1 hT f1 f2 f3 (C.2.2.2.2.2.2.2.1.2.1 _ h1) (C.2.2.2.1 _ h2) f4 f5, h4, C.2.2.2.1 _ h3⟩ ⟨gPc_blind, gPc_of C.2.2.2.2.2.2.2.1 hP hS hz⟩ rfl hn hL.1 hst (lv_room hroom) hdg hf
end GZ
/-- answers: a number; nothing; a cell or null -/
def gPi (po : Int32 → gH → Prop) : Option Value → gH → Prop := fun v G' => ∃ r : Int32, v = some (.int r) ∧ po r G'
def gPv (po : gH → Prop) : Option Value → gH → Prop := fun v G' => v = none ∧ po G'
def gPr (po : Value → gH → Prop) : Option Value → gH → Prop := fun v G' => ∃ w : Value, v = some w ∧ (w = .null ∨ ∃ a, w = .ref a) ∧ po w G'
section GK
variable {p : Program} {l : Launch} {e : Env} {R : Room} {s : State} {m : MethodId} {args : Array Value} {below : List Frame} {meth : Method} {c : Code} {D : gD} {A : Nat → Prop} {nL hs cells slots : Nat} {Q : State → Prop} {V : List (Option Value)} {pc : Nat} {rest : List Value}
theorem gx_ki {po : Int32 → gH → Prop} (kk : ∀ (r : Int32) (G' : gH), po r G' → gX p l e R s m args below meth c D A nL hs cells slots Q G' V pc (.int r :: rest)) : ∀ (v : Option Value) (G' : gH), gPi po v G' → gX p l e R s m args below meth c D A nL hs cells slots Q G' V pc (v.toList ++ rest) := by
  rintro v G' ⟨r, rfl, h⟩
  exact kk r G' h
theorem gx_kv {po : gH → Prop} (kk : ∀ (G' : gH), po G' → gX p l e R s m args below meth c D A nL hs cells slots Q G' V pc rest) : ∀ (v : Option Value) (G' : gH), gPv po v G' → gX p l e R s m args below meth c D A nL hs cells slots Q G' V pc (v.toList ++ rest) := by
  rintro v G' ⟨rfl, h⟩
  exact kk G' h
theorem gx_kr {po : Value → gH → Prop} (kk : ∀ (w : Value) (G' : gH), (w = .null ∨ ∃ a, w = .ref a) → po w G' → gX p l e R s m args below meth c D A nL hs cells slots Q G' V pc (w :: rest)) : ∀ (v : Option Value) (G' : gH), gPr po v G' → gX p l e R s m args below meth c D A nL hs cells slots Q G' V pc (v.toList ++ rest) := by
  rintro v G' ⟨w, rfl, h1, h⟩
  exact kk w G' h1 h
end GK
/-- a contract out of a walk of gX -/
theorem gM_intro {l : Launch} {y : MethodName} {ws ws' : List Cond} {rm : Room} {D : gD} {A : Nat → Prop} {hs mc ms : Nat} {av : List Value} {G : gH} {post : Option Value → gH → Prop} {cc : ByteArray} {maxL : Nat} {ret : Option FieldType}
    (hy : plainName y.cls = true) (hw : ws = Cond.code y cc maxL ret :: ws') (hav : av.all (fun v => v.category == 1) = true) (hlen : av.length ≤ maxL)
    (body : ∀ p e s m args below meth c, gC p s m args meth c cc ret ws y.cls y.name D A maxL hs → gX p l e rm s m args below meth c D A maxL hs 0 0 (MQ below (gQ D A hs mc post) args s mc ms A) G (av.map some ++ List.replicate (maxL - av.length) none) 0 []) : gM l y ws rm D A hs mc ms av G post := by
  refine Met.ofW (cc := cc) (maxL := maxL) (ret := ret) hy hw ?_
  intro p e s m args below meth c s₁ B hml hv
  obtain ⟨rfl, hsz, hP, hK⟩ := hv
  have hcat : ∀ v ∈ av, v.category = 1 := fun v hv => by simpa using List.all_eq_true.mp hav v hv
  have hsl : ∀ av : List Value, (∀ v ∈ av, v.category = 1) → lg_sl av = av.map Slot.val := by
    intro av
    induction av with
    | nil => intro _; rfl
    | cons v av ih =>
      intro h
      have h1 := h v List.mem_cons_self
      have h2 := ih (fun w hw => h w (List.mem_cons_of_mem _ hw))
      unfold lg_sl at h2 ⊢
      rw [List.flatMap_cons, if_neg (by omega), h2]
      rfl
  have hls := hsl av hcat
  have hen : ∀ (xs : List Value) (i : Nat), (∀ v ∈ xs, v.category = 1) → lv_args i xs = (xs.zipIdx i).map (fun q => (q.2, q.1)) := by
    intro xs
    induction xs with
    | nil => intro i _; rfl
    | cons v xs ih =>
      intro i h
      have h1 := h v List.mem_cons_self
      have h2 := ih (i + 1) (fun w hw => h w (List.mem_cons_of_mem _ hw))
      rw [lv_args, if_neg (by omega), h2]
      rfl
  have hl := lv_entry av (n := maxL) (by rw [hls]; simpa using hlen)
  rw [lg_entry_eq]
  have C : gC p s m av.toArray meth c cc ret ws y.cls y.name D A maxL hs := ⟨B.exec, B.bytes, B.returns, atoms_spec (ws := ws) B.pre, findClass_of_methodNamed B.named, B.notSynchronized, hml, hK, (name_of_methodNamed B.named B.method).1, hsz⟩
  refine body p e s m _ below meth c C s.heap [] _ hP va_S.rf hsz ⟨hl.1, hl.2.1, fun i v hi => ?_⟩
  have hlt : i < av.length := by
    rcases Nat.lt_or_ge i av.length with q | q
    · exact q
    · rw [List.getElem?_append_right (by simpa using q)] at hi
      have := List.mem_of_getElem? hi
      simp at this
  rw [List.getElem?_append_left (by simpa using hlt), List.getElem?_map] at hi
  have hiv : av[i]? = some v := by
    cases hx : av[i]? with
    | none => rw [hx] at hi; simp at hi
    | some w => rw [hx] at hi; simp at hi; rw [hi]
  refine ⟨hl.2.2 (i, v) ?_, hcat v (List.mem_of_getElem? hiv)⟩
  rw [hen av 0 hcat]
  refine List.mem_map.mpr ⟨(v, i), ?_, rfl⟩
  rw [List.mem_zipIdx_iff_getElem?]
  exact hiv
theorem gz_ne {x k : Int32} {n : Int} (hk : k.toInt = n) (h : ¬ x = k) : x.toInt ≠ n := fun q => h (Int32.toInt_inj.mp (q.trans hk.symm))
section GSP
variable {p : Program} {l : Launch} {e : Env} {R : Room} {s : State} {m : MethodId} {args : Array Value} {below : List Frame} {meth : Method} {c : Code} {D : gD} {A : Nat → Prop} {nL hs cells slots : Nat} {Q : State → Prop} {G : gH} {V : List (Option Value)} {pc : Nat} {rest : List Value}
theorem gx_split {x : Int32} (k : Int32) (kt : x = k → gX p l e R s m args below meth c D A nL hs cells slots Q G V pc (.int x :: rest)) (kf : ¬ x = k → gX p l e R s m args below meth c D A nL hs cells slots Q G V pc (.int x :: rest)) : gX p l e R s m args below meth c D A nL hs cells slots Q G V pc (.int x :: rest) := by
  by_cases h : x = k
  · exact kt h
  · exact kf h
end GSP
section GV2
variable {p : Program} {l : Launch} {e : Env} {R : Room} {s : State} {m : MethodId} {args : Array Value} {below : List Frame} {meth : Method} {c : Code} {D : gD} {A : Nat → Prop} {nL hs cells slots : Nat} {Q : State → Prop} {G : gH} {V V' : List (Option Value)} {pc : Nat} {rest : List Value}
theorem gx_V (h : V = V') (k : gX p l e R s m args below meth c D A nL hs cells slots Q G V' pc rest) : gX p l e R s m args below meth c D A nL hs cells slots Q G V pc rest := h ▸ k
end GV2
section GIN
variable {p : Program} {l : Launch} {e : Env} {R : Room} {s : State} {m : MethodId} {args : Array Value} {below : List Frame} {meth : Method} {c : Code} {cc : ByteArray} {ret : Option FieldType} {Ts : List Cond} {own nm : String} {D : gD} {A : Nat → Prop} {nL hs0 hs cells slots : Nat} {Q : State → Prop} {G : gH} {V : List (Option Value)} {pc : Nat} {rest : List Value}
theorem gx_iincN (C : gC p s m args meth c cc ret Ts own nm D A nL hs0) {i j : Nat} (hdg : decode cc pc = .ok (.iinc i 1, 3)) (hV : V[i]? = some (some (.int (nI j)))) (hn : i < nL)
    (kk : gX p l e R s m args below meth c D A nL hs cells slots Q G (V.set i (some (.int (nI (j + 1))))) (pc + 3) rest) : gX p l e R s m args below meth c D A nL hs cells slots Q G V pc rest :=
  gx_iinc C hdg hV (nI_1 j) hn kk
theorem gx_iinc1 (C : gC p s m args meth c cc ret Ts own nm D A nL hs0) {i : Nat} {x : Int32} (hdg : decode cc pc = .ok (.iinc i 1, 3)) (hV : V[i]? = some (some (.int x))) (hn : i < nL)
    (kk : gX p l e R s m args below meth c D A nL hs cells slots Q G (V.set i (some (.int (x + 1)))) (pc + 3) rest) : gX p l e R s m args below meth c D A nL hs cells slots Q G V pc rest :=
  gx_iinc C hdg hV rfl hn kk
theorem gx_iincm (C : gC p s m args meth c cc ret Ts own nm D A nL hs0) {i : Nat} {x : Int32} (hdg : decode cc pc = .ok (.iinc i (-1), 3)) (hV : V[i]? = some (some (.int x))) (hn : i < nL)
    (kk : gX p l e R s m args below meth c D A nL hs cells slots Q G (V.set i (some (.int (x + (-1))))) (pc + 3) rest) : gX p l e R s m args below meth c D A nL hs cells slots Q G V pc rest :=
  gx_iinc C hdg hV rfl hn kk
end GIN
end
section
/-! ROWS OF NUMBERS AS LISTS -/
def gIn (i : Int32) (n : Nat) : Bool := decide (0 ≤ i.toInt) && decide (i.toInt < (n : Int))
theorem gIn_vp {i : Int32} {n : Nat} : gIn i n = true ↔ vp_in i n := by
  rw [vp_in_iff]
  simp [gIn]
theorem gz_lt0 {i : Int32} : i < 0 ↔ i.toInt < 0 := by
  rw [Int32.lt_iff_toInt_lt]
  rfl
theorem gIn_t {i : Int32} {n : Nat} (h0 : ¬ i < 0) (h1 : ¬ nI n ≤ i) (hn : n < 2 ^ 31) : gIn i n = true := by
  rw [gz_lt0] at h0
  rw [Int32.le_iff_toInt_le, nI_toInt hn] at h1
  simp [gIn]
  omega
theorem gIn_f0 {i : Int32} {n : Nat} (h0 : i < 0) : gIn i n = false := by
  rw [gz_lt0] at h0
  simp [gIn]
  omega
theorem gIn_f1 {i : Int32} {n : Nat} (h1 : nI n ≤ i) (hn : n < 2 ^ 31) : gIn i n = false := by
  rw [Int32.le_iff_toInt_le, nI_toInt hn] at h1
  simp [gIn]
  omega
theorem gIn_nI {j n : Nat} (hj : j < 2 ^ 31) : gIn (nI j) n = decide (j < n) := by
  simp [gIn, nI_toInt hj]
theorem gIn_ex {i : Int32} {n : Nat} (h : gIn i n = true) (hn : n < 2 ^ 31) : ∃ j : Nat, j < n ∧ i = nI j := vp_in_of (gIn_vp.mp h) hn
theorem gIn_cl {i : Int32} {n : Nat} (h : gIn i n = true) : i.toNatClampNeg < n := Nat.not_le.mp fun q => (gIn_vp.mp h) (Or.inr q)
theorem gz_ltc {i : Int32} {n cap : Nat} (h1 : ¬ nI n ≤ i) (hl : n ≤ cap) (hc : cap < 2 ^ 31) : i < nI cap := by
  rw [Int32.le_iff_toInt_le, nI_toInt (by omega)] at h1
  rw [Int32.lt_iff_toInt_lt, nI_toInt hc]
  omega
def lget (xs : List Int32) (i : Int32) : Int32 := if gIn i xs.length then xs.getD i.toNatClampNeg 0 else 0
def lset (xs : List Int32) (i v : Int32) : List Int32 := if gIn i xs.length then xs.set i.toNatClampNeg v else xs
def lapp (cap : Nat) (xs : List Int32) (v : Int32) : List Int32 := if xs.length < cap then xs ++ [v] else xs
def lcut (xs : List Int32) (n : Int32) : List Int32 := if gIn n xs.length then xs.take n.toNatClampNeg else xs
def lins (cap : Nat) (xs : List Int32) (i v : Int32) : List Int32 := if gIn i (xs.length + 1) && decide (xs.length < cap) then xs.insertIdx i.toNatClampNeg v else xs
def lrem (xs : List Int32) (i : Int32) : List Int32 := if gIn i xs.length then xs.eraseIdx i.toNatClampNeg else xs
def lidx (xs : List Int32) (v : Int32) : Int32 := if v ∈ xs then nI (xs.idxOf v) else -1
theorem lget_nI {xs : List Int32} {j : Nat} (hj : j < 2 ^ 31) : lget xs (nI j) = xs.getD j 0 := by
  unfold lget
  rw [gIn_nI hj, nI_clamp hj]
  by_cases h : j < xs.length
  · simp [h]
  · simp [h]
theorem lset_nI {xs : List Int32} {j : Nat} {v : Int32} (hj : j < 2 ^ 31) : lset xs (nI j) v = xs.set j v := by
  unfold lset
  rw [gIn_nI hj, nI_clamp hj]
  by_cases h : j < xs.length
  · simp [h]
  · rw [List.set_eq_of_length_le (by omega)]; simp
theorem lset_len {xs : List Int32} {i v : Int32} : (lset xs i v).length = xs.length := by
  unfold lset
  split <;> simp
def gRow (D : gD) (G : gH) (r cap : Nat) (xs : List Int32) : Prop := ∃ f : Nat → Int32, G r = some (.inr (4, [.ref (r + 1), .int (nI xs.length)])) ∧ G (r + 1) = some (.inl (D.1.1 100, cap, .inl f)) ∧ xs.length ≤ cap ∧ cap < 1000 ∧ ∀ (i : Nat) (h : i < xs.length), f i = xs[i]
/-- nothing outside the cells from a to a + n - 1 is another -/
def gOut (a n : Nat) (G G' : gH) : Prop := ∀ q : Nat, (q < a ∨ a + n ≤ q) → G' q = G q
theorem gOut_rf {a n : Nat} {G : gH} : gOut a n G G := fun _ _ => rfl
theorem gOut_tr {a n : Nat} {G G1 G2 : gH} (h1 : gOut a n G G1) (h2 : gOut a n G1 G2) : gOut a n G G2 := fun q hq => (h2 q hq).trans (h1 q hq)
theorem gOut_up {a n b : Nat} {G G1 : gH} {e : va_E} (h1 : gOut a n G G1) (hb : a ≤ b ∧ b < a + n) : gOut a n G (gU G1 b e) := fun q hq => by
  rw [gU_n (by omega)]
  exact h1 q hq
theorem gOut_wd {a n b k : Nat} {G G1 : gH} (h : gOut a n G G1) (hb : b ≤ a ∧ a + n ≤ b + k) : gOut b k G G1 := fun q hq => h q (by omega)
theorem gRow_fr {D : gD} {G G' : gH} {r cap a n : Nat} {xs : List Int32} (h : gRow D G r cap xs) (ho : gOut a n G G') (hd : r + 2 ≤ a ∨ a + n ≤ r) : gRow D G' r cap xs := by
  obtain ⟨f, h1, h2, h3⟩ := h
  exact ⟨f, by rw [ho r (by omega)]; exact h1, by rw [ho (r + 1) (by omega)]; exact h2, h3⟩
theorem gRow_le {D : gD} {G : gH} {r cap : Nat} {xs : List Int32} (h : gRow D G r cap xs) : xs.length ≤ cap ∧ cap < 1000 := by
  obtain ⟨f, h1, h2, h3, h4, h5⟩ := h
  exact ⟨h3, h4⟩
theorem gRow_ob {D : gD} {G : gH} {r cap : Nat} {xs : List Int32} (h : gRow D G r cap xs) : G r = some (.inr (4, [.ref (r + 1), .int (nI xs.length)])) := by
  obtain ⟨f, h1, h2, h3, h4, h5⟩ := h
  exact h1
theorem gRow_mk {D : gD} {G : gH} {r cap : Nat} {ys : List Int32} {u : Int32} {g : Nat → Int32} (h1 : G r = some (.inr (4, [.ref (r + 1), .int u]))) (h2 : G (r + 1) = some (.inl (D.1.1 100, cap, .inl g))) (hu : u = nI ys.length) (hl : ys.length ≤ cap) (hc : cap < 1000) (hg : ∀ (i : Nat) (h : i < ys.length), g i = ys[i]) : gRow D G r cap ys :=
  ⟨g, by rw [h1, hu], h2, hl, hc, hg⟩
end
section
theorem dX5_init_0 : decode cX5_init 0 = .ok (.aload_n 0, 1) := by decide +kernel
theorem dX5_init_1 : decode cX5_init 1 = .ok (.invokespecial 1, 3) := by decide +kernel
theorem dX5_init_4 : decode cX5_init 4 = .ok (.aload_n 0, 1) := by decide +kernel
theorem dX5_init_5 : decode cX5_init 5 = .ok (.iload_n 1, 1) := by decide +kernel
theorem dX5_init_6 : decode cX5_init 6 = .ok (.ifCond .ge 7, 3) := by decide +kernel
theorem dX5_init_9 : decode cX5_init 9 = .ok (.iconst 0, 1) := by decide +kernel
theorem dX5_init_10 : decode cX5_init 10 = .ok (.goto 4, 3) := by decide +kernel
theorem dX5_init_13 : decode cX5_init 13 = .ok (.iload_n 1, 1) := by decide +kernel
theorem dX5_init_14 : decode cX5_init 14 = .ok (.newarray .int, 2) := by decide +kernel
theorem dX5_init_16 : decode cX5_init 16 = .ok (.putfield 7, 3) := by decide +kernel
theorem dX5_init_19 : decode cX5_init 19 = .ok (.return_, 1) := by decide +kernel
theorem dX5_used_0 : decode cX5_used 0 = .ok (.aload_n 0, 1) := by decide +kernel
theorem dX5_used_1 : decode cX5_used 1 = .ok (.getfield 13, 3) := by decide +kernel
theorem dX5_used_4 : decode cX5_used 4 = .ok (.ireturn, 1) := by decide +kernel
theorem dX5_hasNot_0 : decode cX5_hasNot 0 = .ok (.iload_n 1, 1) := by decide +kernel
theorem dX5_hasNot_1 : decode cX5_hasNot 1 = .ok (.ifCond .lt 20, 3) := by decide +kernel
theorem dX5_hasNot_4 : decode cX5_hasNot 4 = .ok (.iload_n 1, 1) := by decide +kernel
theorem dX5_hasNot_5 : decode cX5_hasNot 5 = .ok (.aload_n 0, 1) := by decide +kernel
theorem dX5_hasNot_6 : decode cX5_hasNot 6 = .ok (.getfield 13, 3) := by decide +kernel
theorem dX5_hasNot_9 : decode cX5_hasNot 9 = .ok (.if_icmp .ge 12, 3) := by decide +kernel
theorem dX5_hasNot_12 : decode cX5_hasNot 12 = .ok (.iload_n 1, 1) := by decide +kernel
theorem dX5_hasNot_13 : decode cX5_hasNot 13 = .ok (.aload_n 0, 1) := by decide +kernel
theorem dX5_hasNot_14 : decode cX5_hasNot 14 = .ok (.getfield 7, 3) := by decide +kernel
theorem dX5_hasNot_17 : decode cX5_hasNot 17 = .ok (.arraylength, 1) := by decide +kernel
theorem dX5_hasNot_18 : decode cX5_hasNot 18 = .ok (.if_icmp .lt 7, 3) := by decide +kernel
theorem dX5_hasNot_21 : decode cX5_hasNot 21 = .ok (.iconst 1, 1) := by decide +kernel
theorem dX5_hasNot_22 : decode cX5_hasNot 22 = .ok (.goto 4, 3) := by decide +kernel
theorem dX5_hasNot_25 : decode cX5_hasNot 25 = .ok (.iconst 0, 1) := by decide +kernel
theorem dX5_hasNot_26 : decode cX5_hasNot 26 = .ok (.ireturn, 1) := by decide +kernel
set_option maxRecDepth 20000 in
theorem ggX5_get_X5_hasNot : GoodIn wsX5_get wsX5_hasNot := goodIn_r _ [6, 7, 1, 8, 9] (by decide +kernel) (by decide +kernel)
set_option maxRecDepth 20000 in
theorem gX5_get_X5_hasNot : GoodIn wsX5_get (wsV RX5 17 RX5 yX5_hasNot wsX5_hasNot) := goodIn_app (goodIn_of _ (by decide +kernel)) ggX5_get_X5_hasNot
theorem dX5_get_0 : decode cX5_get 0 = .ok (.aload_n 0, 1) := by decide +kernel
theorem dX5_get_1 : decode cX5_get 1 = .ok (.iload_n 1, 1) := by decide +kernel
theorem dX5_get_2 : decode cX5_get 2 = .ok (.invokevirtual 17, 3) := by decide +kernel
theorem dX5_get_5 : decode cX5_get 5 = .ok (.ifCond .eq 7, 3) := by decide +kernel
theorem dX5_get_8 : decode cX5_get 8 = .ok (.iconst 0, 1) := by decide +kernel
theorem dX5_get_9 : decode cX5_get 9 = .ok (.goto 9, 3) := by decide +kernel
theorem dX5_get_12 : decode cX5_get 12 = .ok (.aload_n 0, 1) := by decide +kernel
theorem dX5_get_13 : decode cX5_get 13 = .ok (.getfield 7, 3) := by decide +kernel
theorem dX5_get_16 : decode cX5_get 16 = .ok (.iload_n 1, 1) := by decide +kernel
theorem dX5_get_17 : decode cX5_get 17 = .ok (.iaload, 1) := by decide +kernel
theorem dX5_get_18 : decode cX5_get 18 = .ok (.ireturn, 1) := by decide +kernel
set_option maxRecDepth 20000 in
theorem ggX5_set_X5_hasNot : GoodIn wsX5_set wsX5_hasNot := goodIn_r _ [6, 7, 1, 8, 9] (by decide +kernel) (by decide +kernel)
set_option maxRecDepth 20000 in
theorem gX5_set_X5_hasNot : GoodIn wsX5_set (wsV RX5 17 RX5 yX5_hasNot wsX5_hasNot) := goodIn_app (goodIn_of _ (by decide +kernel)) ggX5_set_X5_hasNot
theorem dX5_set_0 : decode cX5_set 0 = .ok (.aload_n 0, 1) := by decide +kernel
theorem dX5_set_1 : decode cX5_set 1 = .ok (.iload_n 1, 1) := by decide +kernel
theorem dX5_set_2 : decode cX5_set 2 = .ok (.invokevirtual 17, 3) := by decide +kernel
theorem dX5_set_5 : decode cX5_set 5 = .ok (.ifCond .ne 10, 3) := by decide +kernel
theorem dX5_set_8 : decode cX5_set 8 = .ok (.aload_n 0, 1) := by decide +kernel
theorem dX5_set_9 : decode cX5_set 9 = .ok (.getfield 7, 3) := by decide +kernel
theorem dX5_set_12 : decode cX5_set 12 = .ok (.iload_n 1, 1) := by decide +kernel
theorem dX5_set_13 : decode cX5_set 13 = .ok (.iload_n 2, 1) := by decide +kernel
theorem dX5_set_14 : decode cX5_set 14 = .ok (.iastore, 1) := by decide +kernel
theorem dX5_set_15 : decode cX5_set 15 = .ok (.return_, 1) := by decide +kernel
set_option maxRecDepth 20000 in
theorem ggX5_add_X5_get : GoodIn wsX5_add wsX5_get := goodIn_r _ [5, 6, 7, 8, 9, 4, 10, 11, 16, 17] (by decide +kernel) (by decide +kernel)
set_option maxRecDepth 20000 in
theorem gX5_add_X5_get : GoodIn wsX5_add (wsV RX5 21 RX5 yX5_get wsX5_get) := goodIn_app (goodIn_of _ (by decide +kernel)) ggX5_add_X5_get
set_option maxRecDepth 20000 in
theorem ggX5_add_X5_set : GoodIn wsX5_add wsX5_set := goodIn_r _ [15, 6, 7, 8, 9, 4, 10, 11, 16, 17] (by decide +kernel) (by decide +kernel)
set_option maxRecDepth 20000 in
theorem gX5_add_X5_set : GoodIn wsX5_add (wsV RX5 25 RX5 yX5_set wsX5_set) := goodIn_app (goodIn_of _ (by decide +kernel)) ggX5_add_X5_set
theorem dX5_add_0 : decode cX5_add 0 = .ok (.aload_n 0, 1) := by decide +kernel
theorem dX5_add_1 : decode cX5_add 1 = .ok (.iload_n 1, 1) := by decide +kernel
theorem dX5_add_2 : decode cX5_add 2 = .ok (.aload_n 0, 1) := by decide +kernel
theorem dX5_add_3 : decode cX5_add 3 = .ok (.iload_n 1, 1) := by decide +kernel
theorem dX5_add_4 : decode cX5_add 4 = .ok (.invokevirtual 21, 3) := by decide +kernel
theorem dX5_add_7 : decode cX5_add 7 = .ok (.iload_n 2, 1) := by decide +kernel
theorem dX5_add_8 : decode cX5_add 8 = .ok (.iadd, 1) := by decide +kernel
theorem dX5_add_9 : decode cX5_add 9 = .ok (.invokevirtual 25, 3) := by decide +kernel
theorem dX5_add_12 : decode cX5_add 12 = .ok (.return_, 1) := by decide +kernel
theorem dX5_append_0 : decode cX5_append 0 = .ok (.aload_n 0, 1) := by decide +kernel
theorem dX5_append_1 : decode cX5_append 1 = .ok (.getfield 13, 3) := by decide +kernel
theorem dX5_append_4 : decode cX5_append 4 = .ok (.ifCond .lt 35, 3) := by decide +kernel
theorem dX5_append_7 : decode cX5_append 7 = .ok (.aload_n 0, 1) := by decide +kernel
theorem dX5_append_8 : decode cX5_append 8 = .ok (.getfield 13, 3) := by decide +kernel
theorem dX5_append_11 : decode cX5_append 11 = .ok (.aload_n 0, 1) := by decide +kernel
theorem dX5_append_12 : decode cX5_append 12 = .ok (.getfield 7, 3) := by decide +kernel
theorem dX5_append_15 : decode cX5_append 15 = .ok (.arraylength, 1) := by decide +kernel
theorem dX5_append_16 : decode cX5_append 16 = .ok (.if_icmp .ge 23, 3) := by decide +kernel
theorem dX5_append_19 : decode cX5_append 19 = .ok (.aload_n 0, 1) := by decide +kernel
theorem dX5_append_20 : decode cX5_append 20 = .ok (.getfield 7, 3) := by decide +kernel
theorem dX5_append_23 : decode cX5_append 23 = .ok (.aload_n 0, 1) := by decide +kernel
theorem dX5_append_24 : decode cX5_append 24 = .ok (.getfield 13, 3) := by decide +kernel
theorem dX5_append_27 : decode cX5_append 27 = .ok (.iload_n 1, 1) := by decide +kernel
theorem dX5_append_28 : decode cX5_append 28 = .ok (.iastore, 1) := by decide +kernel
theorem dX5_append_29 : decode cX5_append 29 = .ok (.aload_n 0, 1) := by decide +kernel
theorem dX5_append_30 : decode cX5_append 30 = .ok (.dup, 1) := by decide +kernel
theorem dX5_append_31 : decode cX5_append 31 = .ok (.getfield 13, 3) := by decide +kernel
theorem dX5_append_34 : decode cX5_append 34 = .ok (.iconst 1, 1) := by decide +kernel
theorem dX5_append_35 : decode cX5_append 35 = .ok (.iadd, 1) := by decide +kernel
theorem dX5_append_36 : decode cX5_append 36 = .ok (.putfield 13, 3) := by decide +kernel
theorem dX5_append_39 : decode cX5_append 39 = .ok (.return_, 1) := by decide +kernel
set_option maxRecDepth 20000 in
theorem ggX5_insert_X5_append : GoodIn wsX5_insert wsX5_append := goodIn_r _ [7, 1, 2, 20, 21] (by decide +kernel) (by decide +kernel)
set_option maxRecDepth 20000 in
theorem gX5_insert_X5_append : GoodIn wsX5_insert (wsV RX5 29 RX5 yX5_append wsX5_append) := goodIn_app (goodIn_of _ (by decide +kernel)) ggX5_insert_X5_append
set_option maxRecDepth 20000 in
theorem ggX5_insert_X5_get : GoodIn wsX5_insert wsX5_get := goodIn_r _ [11, 2, 12, 13, 14, 6, 15, 1, 20, 21] (by decide +kernel) (by decide +kernel)
set_option maxRecDepth 20000 in
theorem gX5_insert_X5_get : GoodIn wsX5_insert (wsV RX5 21 RX5 yX5_get wsX5_get) := goodIn_app (goodIn_of _ (by decide +kernel)) ggX5_insert_X5_get
set_option maxRecDepth 20000 in
theorem ggX5_insert_X5_set : GoodIn wsX5_insert wsX5_set := goodIn_r _ [19, 2, 12, 13, 14, 6, 15, 1, 20, 21] (by decide +kernel) (by decide +kernel)
set_option maxRecDepth 20000 in
theorem gX5_insert_X5_set : GoodIn wsX5_insert (wsV RX5 25 RX5 yX5_set wsX5_set) := goodIn_app (goodIn_of _ (by decide +kernel)) ggX5_insert_X5_set
theorem dX5_insert_0 : decode cX5_insert 0 = .ok (.iload_n 1, 1) := by decide +kernel
theorem dX5_insert_1 : decode cX5_insert 1 = .ok (.ifCond .lt 23, 3) := by decide +kernel
theorem dX5_insert_4 : decode cX5_insert 4 = .ok (.iload_n 1, 1) := by decide +kernel
theorem dX5_insert_5 : decode cX5_insert 5 = .ok (.aload_n 0, 1) := by decide +kernel
theorem dX5_insert_6 : decode cX5_insert 6 = .ok (.getfield 13, 3) := by decide +kernel
theorem dX5_insert_9 : decode cX5_insert 9 = .ok (.if_icmp .gt 15, 3) := by decide +kernel
theorem dX5_insert_12 : decode cX5_insert 12 = .ok (.aload_n 0, 1) := by decide +kernel
theorem dX5_insert_13 : decode cX5_insert 13 = .ok (.getfield 13, 3) := by decide +kernel
theorem dX5_insert_16 : decode cX5_insert 16 = .ok (.aload_n 0, 1) := by decide +kernel
theorem dX5_insert_17 : decode cX5_insert 17 = .ok (.getfield 7, 3) := by decide +kernel
theorem dX5_insert_20 : decode cX5_insert 20 = .ok (.arraylength, 1) := by decide +kernel
theorem dX5_insert_21 : decode cX5_insert 21 = .ok (.if_icmp .lt 4, 3) := by decide +kernel
theorem dX5_insert_24 : decode cX5_insert 24 = .ok (.return_, 1) := by decide +kernel
theorem dX5_insert_25 : decode cX5_insert 25 = .ok (.aload_n 0, 1) := by decide +kernel
theorem dX5_insert_26 : decode cX5_insert 26 = .ok (.iload_n 2, 1) := by decide +kernel
theorem dX5_insert_27 : decode cX5_insert 27 = .ok (.invokevirtual 29, 3) := by decide +kernel
theorem dX5_insert_30 : decode cX5_insert 30 = .ok (.aload_n 0, 1) := by decide +kernel
theorem dX5_insert_31 : decode cX5_insert 31 = .ok (.getfield 13, 3) := by decide +kernel
theorem dX5_insert_34 : decode cX5_insert 34 = .ok (.iconst 1, 1) := by decide +kernel
theorem dX5_insert_35 : decode cX5_insert 35 = .ok (.isub, 1) := by decide +kernel
theorem dX5_insert_36 : decode cX5_insert 36 = .ok (.istore_n 3, 1) := by decide +kernel
theorem dX5_insert_37 : decode cX5_insert 37 = .ok (.iload_n 3, 1) := by decide +kernel
theorem dX5_insert_38 : decode cX5_insert 38 = .ok (.iload_n 1, 1) := by decide +kernel
theorem dX5_insert_39 : decode cX5_insert 39 = .ok (.if_icmp .le 21, 3) := by decide +kernel
theorem dX5_insert_42 : decode cX5_insert 42 = .ok (.aload_n 0, 1) := by decide +kernel
theorem dX5_insert_43 : decode cX5_insert 43 = .ok (.iload_n 3, 1) := by decide +kernel
theorem dX5_insert_44 : decode cX5_insert 44 = .ok (.aload_n 0, 1) := by decide +kernel
theorem dX5_insert_45 : decode cX5_insert 45 = .ok (.iload_n 3, 1) := by decide +kernel
theorem dX5_insert_46 : decode cX5_insert 46 = .ok (.iconst 1, 1) := by decide +kernel
theorem dX5_insert_47 : decode cX5_insert 47 = .ok (.isub, 1) := by decide +kernel
theorem dX5_insert_48 : decode cX5_insert 48 = .ok (.invokevirtual 21, 3) := by decide +kernel
theorem dX5_insert_51 : decode cX5_insert 51 = .ok (.invokevirtual 25, 3) := by decide +kernel
theorem dX5_insert_54 : decode cX5_insert 54 = .ok (.iinc 3 (-1), 3) := by decide +kernel
theorem dX5_insert_57 : decode cX5_insert 57 = .ok (.goto (-20), 3) := by decide +kernel
theorem dX5_insert_60 : decode cX5_insert 60 = .ok (.aload_n 0, 1) := by decide +kernel
theorem dX5_insert_61 : decode cX5_insert 61 = .ok (.iload_n 1, 1) := by decide +kernel
theorem dX5_insert_62 : decode cX5_insert 62 = .ok (.iload_n 2, 1) := by decide +kernel
theorem dX5_insert_63 : decode cX5_insert 63 = .ok (.invokevirtual 25, 3) := by decide +kernel
theorem dX5_insert_66 : decode cX5_insert 66 = .ok (.return_, 1) := by decide +kernel
set_option maxRecDepth 20000 in
theorem ggX5_remove_X5_hasNot : GoodIn wsX5_remove wsX5_hasNot := goodIn_r _ [6, 1, 7, 16, 17] (by decide +kernel) (by decide +kernel)
set_option maxRecDepth 20000 in
theorem gX5_remove_X5_hasNot : GoodIn wsX5_remove (wsV RX5 17 RX5 yX5_hasNot wsX5_hasNot) := goodIn_app (goodIn_of _ (by decide +kernel)) ggX5_remove_X5_hasNot
set_option maxRecDepth 20000 in
theorem ggX5_remove_X5_get : GoodIn wsX5_remove wsX5_get := goodIn_r _ [11, 7, 2, 3, 4, 5, 6, 1, 16, 17] (by decide +kernel) (by decide +kernel)
set_option maxRecDepth 20000 in
theorem gX5_remove_X5_get : GoodIn wsX5_remove (wsV RX5 21 RX5 yX5_get wsX5_get) := goodIn_app (goodIn_of _ (by decide +kernel)) ggX5_remove_X5_get
set_option maxRecDepth 20000 in
theorem ggX5_remove_X5_set : GoodIn wsX5_remove wsX5_set := goodIn_r _ [15, 7, 2, 3, 4, 5, 6, 1, 16, 17] (by decide +kernel) (by decide +kernel)
set_option maxRecDepth 20000 in
theorem gX5_remove_X5_set : GoodIn wsX5_remove (wsV RX5 25 RX5 yX5_set wsX5_set) := goodIn_app (goodIn_of _ (by decide +kernel)) ggX5_remove_X5_set
theorem dX5_remove_0 : decode cX5_remove 0 = .ok (.aload_n 0, 1) := by decide +kernel
theorem dX5_remove_1 : decode cX5_remove 1 = .ok (.iload_n 1, 1) := by decide +kernel
theorem dX5_remove_2 : decode cX5_remove 2 = .ok (.invokevirtual 17, 3) := by decide +kernel
theorem dX5_remove_5 : decode cX5_remove 5 = .ok (.ifCond .eq 4, 3) := by decide +kernel
theorem dX5_remove_8 : decode cX5_remove 8 = .ok (.return_, 1) := by decide +kernel
theorem dX5_remove_9 : decode cX5_remove 9 = .ok (.iload_n 1, 1) := by decide +kernel
theorem dX5_remove_10 : decode cX5_remove 10 = .ok (.istore_n 2, 1) := by decide +kernel
theorem dX5_remove_11 : decode cX5_remove 11 = .ok (.iload_n 2, 1) := by decide +kernel
theorem dX5_remove_12 : decode cX5_remove 12 = .ok (.aload_n 0, 1) := by decide +kernel
theorem dX5_remove_13 : decode cX5_remove 13 = .ok (.getfield 13, 3) := by decide +kernel
theorem dX5_remove_16 : decode cX5_remove 16 = .ok (.iconst 1, 1) := by decide +kernel
theorem dX5_remove_17 : decode cX5_remove 17 = .ok (.isub, 1) := by decide +kernel
theorem dX5_remove_18 : decode cX5_remove 18 = .ok (.if_icmp .ge 21, 3) := by decide +kernel
theorem dX5_remove_21 : decode cX5_remove 21 = .ok (.aload_n 0, 1) := by decide +kernel
theorem dX5_remove_22 : decode cX5_remove 22 = .ok (.iload_n 2, 1) := by decide +kernel
theorem dX5_remove_23 : decode cX5_remove 23 = .ok (.aload_n 0, 1) := by decide +kernel
theorem dX5_remove_24 : decode cX5_remove 24 = .ok (.iload_n 2, 1) := by decide +kernel
theorem dX5_remove_25 : decode cX5_remove 25 = .ok (.iconst 1, 1) := by decide +kernel
theorem dX5_remove_26 : decode cX5_remove 26 = .ok (.iadd, 1) := by decide +kernel
theorem dX5_remove_27 : decode cX5_remove 27 = .ok (.invokevirtual 21, 3) := by decide +kernel
theorem dX5_remove_30 : decode cX5_remove 30 = .ok (.invokevirtual 25, 3) := by decide +kernel
theorem dX5_remove_33 : decode cX5_remove 33 = .ok (.iinc 2 1, 3) := by decide +kernel
theorem dX5_remove_36 : decode cX5_remove 36 = .ok (.goto (-25), 3) := by decide +kernel
theorem dX5_remove_39 : decode cX5_remove 39 = .ok (.aload_n 0, 1) := by decide +kernel
theorem dX5_remove_40 : decode cX5_remove 40 = .ok (.dup, 1) := by decide +kernel
theorem dX5_remove_41 : decode cX5_remove 41 = .ok (.getfield 13, 3) := by decide +kernel
theorem dX5_remove_44 : decode cX5_remove 44 = .ok (.iconst 1, 1) := by decide +kernel
theorem dX5_remove_45 : decode cX5_remove 45 = .ok (.isub, 1) := by decide +kernel
theorem dX5_remove_46 : decode cX5_remove 46 = .ok (.putfield 13, 3) := by decide +kernel
theorem dX5_remove_49 : decode cX5_remove 49 = .ok (.return_, 1) := by decide +kernel
theorem dX5_cutTo_0 : decode cX5_cutTo 0 = .ok (.iload_n 1, 1) := by decide +kernel
theorem dX5_cutTo_1 : decode cX5_cutTo 1 = .ok (.ifCond .lt 16, 3) := by decide +kernel
theorem dX5_cutTo_4 : decode cX5_cutTo 4 = .ok (.iload_n 1, 1) := by decide +kernel
theorem dX5_cutTo_5 : decode cX5_cutTo 5 = .ok (.aload_n 0, 1) := by decide +kernel
theorem dX5_cutTo_6 : decode cX5_cutTo 6 = .ok (.getfield 13, 3) := by decide +kernel
theorem dX5_cutTo_9 : decode cX5_cutTo 9 = .ok (.if_icmp .ge 8, 3) := by decide +kernel
theorem dX5_cutTo_12 : decode cX5_cutTo 12 = .ok (.aload_n 0, 1) := by decide +kernel
theorem dX5_cutTo_13 : decode cX5_cutTo 13 = .ok (.iload_n 1, 1) := by decide +kernel
theorem dX5_cutTo_14 : decode cX5_cutTo 14 = .ok (.putfield 13, 3) := by decide +kernel
theorem dX5_cutTo_17 : decode cX5_cutTo 17 = .ok (.return_, 1) := by decide +kernel
set_option maxRecDepth 20000 in
theorem ggX5_fill_X5_append : GoodIn wsX5_fill wsX5_append := goodIn_r _ [6, 1, 7, 8, 9] (by decide +kernel) (by decide +kernel)
set_option maxRecDepth 20000 in
theorem gX5_fill_X5_append : GoodIn wsX5_fill (wsV RX5 29 RX5 yX5_append wsX5_append) := goodIn_app (goodIn_of _ (by decide +kernel)) ggX5_fill_X5_append
theorem dX5_fill_0 : decode cX5_fill 0 = .ok (.aload_n 0, 1) := by decide +kernel
theorem dX5_fill_1 : decode cX5_fill 1 = .ok (.iconst 0, 1) := by decide +kernel
theorem dX5_fill_2 : decode cX5_fill 2 = .ok (.putfield 13, 3) := by decide +kernel
theorem dX5_fill_5 : decode cX5_fill 5 = .ok (.iconst 0, 1) := by decide +kernel
theorem dX5_fill_6 : decode cX5_fill 6 = .ok (.istore_n 3, 1) := by decide +kernel
theorem dX5_fill_7 : decode cX5_fill 7 = .ok (.iload_n 3, 1) := by decide +kernel
theorem dX5_fill_8 : decode cX5_fill 8 = .ok (.iload_n 1, 1) := by decide +kernel
theorem dX5_fill_9 : decode cX5_fill 9 = .ok (.if_icmp .ge 14, 3) := by decide +kernel
theorem dX5_fill_12 : decode cX5_fill 12 = .ok (.aload_n 0, 1) := by decide +kernel
theorem dX5_fill_13 : decode cX5_fill 13 = .ok (.iload_n 2, 1) := by decide +kernel
theorem dX5_fill_14 : decode cX5_fill 14 = .ok (.invokevirtual 29, 3) := by decide +kernel
theorem dX5_fill_17 : decode cX5_fill 17 = .ok (.iinc 3 1, 3) := by decide +kernel
theorem dX5_fill_20 : decode cX5_fill 20 = .ok (.goto (-13), 3) := by decide +kernel
theorem dX5_fill_23 : decode cX5_fill 23 = .ok (.return_, 1) := by decide +kernel
theorem dX5_copyFrom_0 : decode cX5_copyFrom 0 = .ok (.aload_n 0, 1) := by decide +kernel
theorem dX5_copyFrom_1 : decode cX5_copyFrom 1 = .ok (.iconst 0, 1) := by decide +kernel
theorem dX5_copyFrom_2 : decode cX5_copyFrom 2 = .ok (.putfield 13, 3) := by decide +kernel
theorem dX5_copyFrom_5 : decode cX5_copyFrom 5 = .ok (.iconst 0, 1) := by decide +kernel
theorem dX5_copyFrom_6 : decode cX5_copyFrom 6 = .ok (.istore_n 2, 1) := by decide +kernel
theorem dX5_copyFrom_7 : decode cX5_copyFrom 7 = .ok (.iload_n 2, 1) := by decide +kernel
theorem dX5_copyFrom_8 : decode cX5_copyFrom 8 = .ok (.aload_n 1, 1) := by decide +kernel
theorem dX5_copyFrom_9 : decode cX5_copyFrom 9 = .ok (.getfield 13, 3) := by decide +kernel
theorem dX5_copyFrom_12 : decode cX5_copyFrom 12 = .ok (.if_icmp .ge 46, 3) := by decide +kernel
theorem dX5_copyFrom_15 : decode cX5_copyFrom 15 = .ok (.iload_n 2, 1) := by decide +kernel
theorem dX5_copyFrom_16 : decode cX5_copyFrom 16 = .ok (.aload_n 1, 1) := by decide +kernel
theorem dX5_copyFrom_17 : decode cX5_copyFrom 17 = .ok (.getfield 7, 3) := by decide +kernel
theorem dX5_copyFrom_20 : decode cX5_copyFrom 20 = .ok (.arraylength, 1) := by decide +kernel
theorem dX5_copyFrom_21 : decode cX5_copyFrom 21 = .ok (.if_icmp .ge 37, 3) := by decide +kernel
theorem dX5_copyFrom_24 : decode cX5_copyFrom 24 = .ok (.iload_n 2, 1) := by decide +kernel
theorem dX5_copyFrom_25 : decode cX5_copyFrom 25 = .ok (.aload_n 0, 1) := by decide +kernel
theorem dX5_copyFrom_26 : decode cX5_copyFrom 26 = .ok (.getfield 7, 3) := by decide +kernel
theorem dX5_copyFrom_29 : decode cX5_copyFrom 29 = .ok (.arraylength, 1) := by decide +kernel
theorem dX5_copyFrom_30 : decode cX5_copyFrom 30 = .ok (.if_icmp .ge 28, 3) := by decide +kernel
theorem dX5_copyFrom_33 : decode cX5_copyFrom 33 = .ok (.aload_n 0, 1) := by decide +kernel
theorem dX5_copyFrom_34 : decode cX5_copyFrom 34 = .ok (.getfield 7, 3) := by decide +kernel
theorem dX5_copyFrom_37 : decode cX5_copyFrom 37 = .ok (.iload_n 2, 1) := by decide +kernel
theorem dX5_copyFrom_38 : decode cX5_copyFrom 38 = .ok (.aload_n 1, 1) := by decide +kernel
theorem dX5_copyFrom_39 : decode cX5_copyFrom 39 = .ok (.getfield 7, 3) := by decide +kernel
theorem dX5_copyFrom_42 : decode cX5_copyFrom 42 = .ok (.iload_n 2, 1) := by decide +kernel
theorem dX5_copyFrom_43 : decode cX5_copyFrom 43 = .ok (.iaload, 1) := by decide +kernel
theorem dX5_copyFrom_44 : decode cX5_copyFrom 44 = .ok (.iastore, 1) := by decide +kernel
theorem dX5_copyFrom_45 : decode cX5_copyFrom 45 = .ok (.aload_n 0, 1) := by decide +kernel
theorem dX5_copyFrom_46 : decode cX5_copyFrom 46 = .ok (.iload_n 2, 1) := by decide +kernel
theorem dX5_copyFrom_47 : decode cX5_copyFrom 47 = .ok (.iconst 1, 1) := by decide +kernel
theorem dX5_copyFrom_48 : decode cX5_copyFrom 48 = .ok (.iadd, 1) := by decide +kernel
theorem dX5_copyFrom_49 : decode cX5_copyFrom 49 = .ok (.putfield 13, 3) := by decide +kernel
theorem dX5_copyFrom_52 : decode cX5_copyFrom 52 = .ok (.iinc 2 1, 3) := by decide +kernel
theorem dX5_copyFrom_55 : decode cX5_copyFrom 55 = .ok (.goto (-48), 3) := by decide +kernel
theorem dX5_copyFrom_58 : decode cX5_copyFrom 58 = .ok (.return_, 1) := by decide +kernel
set_option maxRecDepth 20000 in
theorem ggX5_placeOf_X5_get : GoodIn wsX5_placeOf wsX5_get := goodIn_r _ [6, 7, 8, 9, 10, 5, 11, 1, 12, 13] (by decide +kernel) (by decide +kernel)
set_option maxRecDepth 20000 in
theorem gX5_placeOf_X5_get : GoodIn wsX5_placeOf (wsV RX5 21 RX5 yX5_get wsX5_get) := goodIn_app (goodIn_of _ (by decide +kernel)) ggX5_placeOf_X5_get
theorem dX5_placeOf_0 : decode cX5_placeOf 0 = .ok (.iconst 0, 1) := by decide +kernel
theorem dX5_placeOf_1 : decode cX5_placeOf 1 = .ok (.istore_n 2, 1) := by decide +kernel
theorem dX5_placeOf_2 : decode cX5_placeOf 2 = .ok (.iload_n 2, 1) := by decide +kernel
theorem dX5_placeOf_3 : decode cX5_placeOf 3 = .ok (.aload_n 0, 1) := by decide +kernel
theorem dX5_placeOf_4 : decode cX5_placeOf 4 = .ok (.getfield 13, 3) := by decide +kernel
theorem dX5_placeOf_7 : decode cX5_placeOf 7 = .ok (.if_icmp .ge 20, 3) := by decide +kernel
theorem dX5_placeOf_10 : decode cX5_placeOf 10 = .ok (.aload_n 0, 1) := by decide +kernel
theorem dX5_placeOf_11 : decode cX5_placeOf 11 = .ok (.iload_n 2, 1) := by decide +kernel
theorem dX5_placeOf_12 : decode cX5_placeOf 12 = .ok (.invokevirtual 21, 3) := by decide +kernel
theorem dX5_placeOf_15 : decode cX5_placeOf 15 = .ok (.iload_n 1, 1) := by decide +kernel
theorem dX5_placeOf_16 : decode cX5_placeOf 16 = .ok (.if_icmp .ne 5, 3) := by decide +kernel
theorem dX5_placeOf_19 : decode cX5_placeOf 19 = .ok (.iload_n 2, 1) := by decide +kernel
theorem dX5_placeOf_20 : decode cX5_placeOf 20 = .ok (.ireturn, 1) := by decide +kernel
theorem dX5_placeOf_21 : decode cX5_placeOf 21 = .ok (.iinc 2 1, 3) := by decide +kernel
theorem dX5_placeOf_24 : decode cX5_placeOf 24 = .ok (.goto (-22), 3) := by decide +kernel
theorem dX5_placeOf_27 : decode cX5_placeOf 27 = .ok (.iconst (-1), 1) := by decide +kernel
theorem dX5_placeOf_28 : decode cX5_placeOf 28 = .ok (.ireturn, 1) := by decide +kernel
end
section
/-! THE CLASS ROW -/
theorem gz_in {xs : List Int32} {cap : Nat} {i : Int32} (h3 : xs.length ≤ cap) (hi : gIn i xs.length = true) : vp_in i cap := by
  have := vp_in_iff.mp (gIn_vp.mp hi)
  rw [vp_in_iff]
  omega
theorem gz_upd {xs : List Int32} {f : Nat → Int32} {i v : Int32} (hi : gIn i xs.length = true) (h5 : ∀ (i : Nat) (h : i < xs.length), f i = xs[i]) : ∀ (j : Nat) (h : j < (lset xs i v).length), upd f i.toNatClampNeg v j = (lset xs i v)[j] := by
  intro j hj
  have e : lset xs i v = xs.set i.toNatClampNeg v := by rw [lset, if_pos hi]
  simp only [e] at hj ⊢
  rw [List.length_set] at hj
  rw [List.getElem_set]
  by_cases q : i.toNatClampNeg = j
  · subst q; simp [upd]
  · simp [upd, q, Ne.symm q, h5 j hj]
theorem gz_idx {xs : List Int32} {v : Int32} {j : Nat} (hj : j < xs.length) (h : xs.getD j 0 = v) (hI : ∀ a, a < j → ¬ xs.getD a 0 = v) : nI j = lidx xs v := by
  have e : xs.getD j 0 = xs[j] := by simp [hj]
  rw [e] at h
  have hm : v ∈ xs := by rw [← h]; exact List.getElem_mem hj
  rw [lidx, if_pos hm]
  congr 1
  have h1 := List.idxOf_lt_length_iff.mpr hm
  have h2 : xs[xs.idxOf v] = v := List.getElem_idxOf h1
  rcases Nat.lt_trichotomy (xs.idxOf v) j with q | q | q
  · exact absurd (by rw [← h2]; simp [h1]) (hI _ q)
  · exact q.symm
  · have h3 : xs.idxOf v ≤ j := by
      have := List.not_of_lt_findIdx (p := (· == v)) (xs := xs) (i := j) q
      simp [h] at this
    omega
theorem gz_idn {xs : List Int32} {v : Int32} {j : Nat} (hj : xs.length ≤ j) (hI : ∀ a, a < j → ¬ xs.getD a 0 = v) : (-1 : Int32) = lidx xs v := by
  have hm : ¬ v ∈ xs := fun hm => by
    obtain ⟨i, hi, he⟩ := List.getElem_of_mem hm
    exact hI i (by omega) (by simp [hi, he])
  rw [lidx, if_neg hm]
set_option maxRecDepth 20000 in
theorem in_X5_used_X5 : ∀ w ∈ wsX50, w ∈ wsX5_used := by decide +kernel
set_option maxRecDepth 20000 in
theorem fd_X5_used_13 : gFd wsX5_used RX5 13 4 RX5 TX5 2 1 := ⟨in_X5_used_X5, rfl, by decide, by decide +kernel⟩
set_option maxRecDepth 20000 in
theorem in_X5_hasNot_X5 : ∀ w ∈ wsX50, w ∈ wsX5_hasNot := by decide +kernel
set_option maxRecDepth 20000 in
theorem fd_X5_hasNot_13 : gFd wsX5_hasNot RX5 13 4 RX5 TX5 2 1 := ⟨in_X5_hasNot_X5, rfl, by decide, by decide +kernel⟩
set_option maxRecDepth 20000 in
theorem fd_X5_hasNot_7 : gFd wsX5_hasNot RX5 7 4 RX5 TX5 2 0 := ⟨in_X5_hasNot_X5, rfl, by decide, by decide +kernel⟩
theorem cb_X5_get__X5_hasNot : gCb yX5_hasNot cX5_hasNot 2 (some .boolean) wsX5_hasNot (gR 0) (gR 1) 0 0 1 := ⟨rfl, rfl, rfl, by decide +kernel, by decide⟩
set_option maxRecDepth 20000 in
theorem in_X5_get_X5 : ∀ w ∈ wsX50, w ∈ wsX5_get := by decide +kernel
set_option maxRecDepth 20000 in
theorem fd_X5_get_7 : gFd wsX5_get RX5 7 4 RX5 TX5 2 0 := ⟨in_X5_get_X5, rfl, by decide, by decide +kernel⟩
theorem cb_X5_set__X5_hasNot : gCb yX5_hasNot cX5_hasNot 2 (some .boolean) wsX5_hasNot (gR 0) (gR 1) 0 0 1 := ⟨rfl, rfl, rfl, by decide +kernel, by decide⟩
set_option maxRecDepth 20000 in
theorem in_X5_set_X5 : ∀ w ∈ wsX50, w ∈ wsX5_set := by decide +kernel
set_option maxRecDepth 20000 in
theorem fd_X5_set_7 : gFd wsX5_set RX5 7 4 RX5 TX5 2 0 := ⟨in_X5_set_X5, rfl, by decide, by decide +kernel⟩
theorem cb_X5_add__X5_get : gCb yX5_get cX5_get 2 (some .int) wsX5_get (gR 1) (gR 2) 0 0 1 := ⟨rfl, rfl, rfl, by decide +kernel, by decide⟩
theorem cb_X5_add__X5_set : gCb yX5_set cX5_set 3 none wsX5_set (gR 1) (gR 2) 0 0 2 := ⟨rfl, rfl, rfl, by decide +kernel, by decide⟩
set_option maxRecDepth 20000 in
theorem in_X5_append_X5 : ∀ w ∈ wsX50, w ∈ wsX5_append := by decide +kernel
set_option maxRecDepth 20000 in
theorem fd_X5_append_13 : gFd wsX5_append RX5 13 4 RX5 TX5 2 1 := ⟨in_X5_append_X5, rfl, by decide, by decide +kernel⟩
set_option maxRecDepth 20000 in
theorem fd_X5_append_7 : gFd wsX5_append RX5 7 4 RX5 TX5 2 0 := ⟨in_X5_append_X5, rfl, by decide, by decide +kernel⟩
set_option maxRecDepth 20000 in
theorem in_X5_cutTo_X5 : ∀ w ∈ wsX50, w ∈ wsX5_cutTo := by decide +kernel
set_option maxRecDepth 20000 in
theorem fd_X5_cutTo_13 : gFd wsX5_cutTo RX5 13 4 RX5 TX5 2 1 := ⟨in_X5_cutTo_X5, rfl, by decide, by decide +kernel⟩
set_option maxRecDepth 20000 in
theorem in_X5_placeOf_X5 : ∀ w ∈ wsX50, w ∈ wsX5_placeOf := by decide +kernel
set_option maxRecDepth 20000 in
theorem fd_X5_placeOf_13 : gFd wsX5_placeOf RX5 13 4 RX5 TX5 2 1 := ⟨in_X5_placeOf_X5, rfl, by decide, by decide +kernel⟩
theorem cb_X5_placeOf__X5_get : gCb yX5_get cX5_get 2 (some .int) wsX5_get (gR 1) (gR 2) 0 0 1 := ⟨rfl, rfl, rfl, by decide +kernel, by decide⟩
set_option maxHeartbeats 4000000 in
set_option maxRecDepth 100000 in
/-- Row.used -/
theorem k5_used (l : Launch) (D : gD) (A : Nat → Prop) (hs : Nat) {G : gH} {r cap : Nat} {xs : List Int32} (hr : gRow D G r cap xs) : gM l yX5_used wsX5_used (gR 0) D A hs 0 0 [.ref r] G (gPi fun x G' => x = nI xs.length ∧ G' = G) := by
  refine gM_intro (by decide) rfl rfl (Nat.le_of_ble_eq_true rfl) ?_
  intro p e s m args below meth c C
  obtain ⟨f, h1, h2, h3, h4, h5⟩ := id hr
  refine gx_aload_n C dX5_used_0 rfl ?_
  refine gx_get C fd_X5_used_13 (hG := h1) (hv := by rfl) dX5_used_1 ?_
  refine gx_zret (mc := 0) C rfl ?_ dX5_used_4
  exact ⟨_, rfl, rfl, rfl⟩
set_option maxHeartbeats 4000000 in
set_option maxRecDepth 100000 in
/-- Row.hasNot -/
theorem k5_hasNot (l : Launch) (D : gD) (A : Nat → Prop) (hs : Nat) {G : gH} {r cap : Nat} {xs : List Int32} (i : Int32) (hr : gRow D G r cap xs) : gM l yX5_hasNot wsX5_hasNot (gR 0) D A hs 0 0 [.ref r, .int i] G (gPi fun x G' => x = (if gIn i xs.length then 0 else 1) ∧ G' = G) := by
  refine gM_intro (by decide) rfl rfl (Nat.le_of_ble_eq_true rfl) ?_
  intro p e s m args below meth c C
  obtain ⟨f, h1, h2, h3, h4, h5⟩ := id hr
  have hn : xs.length < 2 ^ 31 := by omega
  refine gx_iload_n C dX5_hasNot_0 rfl ?_
  refine gx_if_lt (tgt := 21) C dX5_hasNot_1 (by decide) (fun c_1 => ?_) (fun c_1 => ?_)
  · have hi := gIn_f0 (n := xs.length) c_1
    refine gx_iconst (v := 1) C dX5_hasNot_21 (by decide) ?_
    refine gx_goto (tgt := 26) C dX5_hasNot_22 (by decide) ?_
    refine gx_zret (mc := 0) C rfl ?_ dX5_hasNot_26
    exact ⟨_, rfl, by rw [hi]; rfl, rfl⟩
  · refine gx_iload_n C dX5_hasNot_4 rfl ?_
    refine gx_aload_n C dX5_hasNot_5 rfl ?_
    refine gx_get C fd_X5_hasNot_13 (hG := h1) (hv := by rfl) dX5_hasNot_6 ?_
    refine gx_icmp_ge (tgt := 21) C dX5_hasNot_9 (by decide) (fun c_9 => ?_) (fun c_9 => ?_)
    · have hi := gIn_f1 c_9 hn
      refine gx_iconst (v := 1) C dX5_hasNot_21 (by decide) ?_
      refine gx_goto (tgt := 26) C dX5_hasNot_22 (by decide) ?_
      refine gx_zret (mc := 0) C rfl ?_ dX5_hasNot_26
      exact ⟨_, rfl, by rw [hi]; rfl, rfl⟩
    · refine gx_iload_n C dX5_hasNot_12 rfl ?_
      refine gx_aload_n C dX5_hasNot_13 rfl ?_
      refine gx_get C fd_X5_hasNot_7 (hG := h1) (hv := by rfl) dX5_hasNot_14 ?_
      refine gx_alen (t0 := 0) C (hG := h2) (ht := by rfl) (hv := by rfl) dX5_hasNot_17 ?_
      refine gx_icmp_lt (tgt := 25) C dX5_hasNot_18 (by decide) (fun c_18 => ?_) (fun c_18 => ?_)
      · have hi := gIn_t c_1 c_9 hn
        refine gx_iconst (v := 0) C dX5_hasNot_25 (by decide) ?_
        refine gx_zret (mc := 0) C rfl ?_ dX5_hasNot_26
        exact ⟨_, rfl, by rw [hi]; rfl, rfl⟩
      · exact absurd (gz_ltc c_9 h3 (by omega)) c_18
set_option maxHeartbeats 4000000 in
set_option maxRecDepth 100000 in
/-- Row.get -/
theorem k5_get (l : Launch) (D : gD) (A : Nat → Prop) (hs : Nat) {G : gH} {r cap : Nat} {xs : List Int32} (i : Int32) (hr : gRow D G r cap xs) : gM l yX5_get wsX5_get (gR 1) D A hs 0 0 [.ref r, .int i] G (gPi fun x G' => x = lget xs i ∧ G' = G) := by
  refine gM_intro (by decide) rfl rfl (Nat.le_of_ble_eq_true rfl) ?_
  intro p e s m args below meth c C
  obtain ⟨f, h1, h2, h3, h4, h5⟩ := id hr
  have hn : xs.length < 2 ^ 31 := by omega
  refine gx_aload_n C dX5_get_0 rfl ?_
  refine gx_iload_n C dX5_get_1 rfl ?_
  refine gx_callV (ci := 4) (T := TX5) (N := 2) C (k5_hasNot l D A hs i hr) cb_X5_get__X5_hasNot gX5_get_X5_hasNot rfl (hG := h1) rfl rfl (Nat.le_of_ble_eq_true rfl) ⟨Nat.le_refl _, Nat.le_refl _⟩ dX5_get_2 (gx_ki fun r_2 G_2 h_2 => ?_)
  obtain ⟨rfl, rfl⟩ := h_2
  refine gx_if_eq (tgt := 12) C dX5_get_5 (by decide) (fun c_5 => ?_) (fun c_5 => ?_)
  · have hi : gIn i xs.length = true := by
      by_cases q : gIn i xs.length = true
      · exact q
      · rw [if_neg q] at c_5; exact absurd c_5 (by decide)
    refine gx_aload_n C dX5_get_12 rfl ?_
    refine gx_get C fd_X5_get_7 (hG := h1) (hv := by rfl) dX5_get_13 ?_
    refine gx_iload_n C dX5_get_16 rfl ?_
    refine gx_iald C (hG := h2) (hin := gz_in h3 hi) dX5_get_17 ?_
    refine gx_zret (mc := 0) C rfl ?_ dX5_get_18
    first
      | exact ⟨_, rfl, by rw [lget, if_pos hi, h5 _ (gIn_cl hi)]; simp [gIn_cl hi], rfl⟩
      | exact ⟨_, rfl, by rw [lget, if_neg hi], rfl⟩
  · have hi : ¬ gIn i xs.length = true := fun q => by
      rw [if_pos q] at c_5; exact c_5 rfl
    refine gx_iconst (v := 0) C dX5_get_8 (by decide) ?_
    refine gx_goto (tgt := 18) C dX5_get_9 (by decide) ?_
    refine gx_zret (mc := 0) C rfl ?_ dX5_get_18
    first
      | exact ⟨_, rfl, by rw [lget, if_pos hi, h5 _ (gIn_cl hi)]; simp [gIn_cl hi], rfl⟩
      | exact ⟨_, rfl, by rw [lget, if_neg hi], rfl⟩
set_option maxHeartbeats 4000000 in
set_option maxRecDepth 100000 in
/-- Row.set -/
theorem k5_set (l : Launch) (D : gD) (A : Nat → Prop) (hs : Nat) {G : gH} {r cap : Nat} {xs : List Int32} (i v : Int32) (hr : gRow D G r cap xs) : gM l yX5_set wsX5_set (gR 1) D A hs 0 0 [.ref r, .int i, .int v] G (gPv fun G' => gRow D G' r cap (lset xs i v) ∧ gOut r 2 G G') := by
  refine gM_intro (by decide) rfl rfl (Nat.le_of_ble_eq_true rfl) ?_
  intro p e s m args below meth c C
  obtain ⟨f, h1, h2, h3, h4, h5⟩ := id hr
  have hn : xs.length < 2 ^ 31 := by omega
  refine gx_aload_n C dX5_set_0 rfl ?_
  refine gx_iload_n C dX5_set_1 rfl ?_
  refine gx_callV (ci := 4) (T := TX5) (N := 2) C (k5_hasNot l D A hs i hr) cb_X5_set__X5_hasNot gX5_set_X5_hasNot rfl (hG := h1) rfl rfl (Nat.le_of_ble_eq_true rfl) ⟨Nat.le_refl _, Nat.le_refl _⟩ dX5_set_2 (gx_ki fun r_2 G_2 h_2 => ?_)
  obtain ⟨rfl, rfl⟩ := h_2
  refine gx_if_ne (tgt := 15) C dX5_set_5 (by decide) (fun c_5 => ?_) (fun c_5 => ?_)
  · have hi : ¬ gIn i xs.length = true := fun q => by
      rw [if_pos q] at c_5; exact c_5 rfl
    refine gx_vret (mc := 0) C ?_ dX5_set_15
    first
      | exact ⟨rfl, by rw [lset, if_neg hi]; exact hr, gOut_rf⟩
      | exact ⟨rfl, gRow_mk (by rw [gU_n (by omega)]; exact h1) gU_s (by rw [lset_len]) (by rw [lset_len]; exact h3) h4 (gz_upd hi h5), gOut_up gOut_rf (by omega)⟩
  · have hi : gIn i xs.length = true := by
      by_cases q : gIn i xs.length = true
      · exact q
      · rw [if_neg q] at c_5; exact absurd c_5 (by decide)
    refine gx_aload_n C dX5_set_8 rfl ?_
    refine gx_get C fd_X5_set_7 (hG := h1) (hv := by rfl) dX5_set_9 ?_
    refine gx_iload_n C dX5_set_12 rfl ?_
    refine gx_iload_n C dX5_set_13 rfl ?_
    refine gx_iast C (hG := h2) (hin := gz_in h3 hi) dX5_set_14 ?_
    refine gx_vret (mc := 0) C ?_ dX5_set_15
    first
      | exact ⟨rfl, by rw [lset, if_neg hi]; exact hr, gOut_rf⟩
      | exact ⟨rfl, gRow_mk (by rw [gU_n (by omega)]; exact h1) gU_s (by rw [lset_len]) (by rw [lset_len]; exact h3) h4 (gz_upd hi h5), gOut_up gOut_rf (by omega)⟩
set_option maxHeartbeats 4000000 in
set_option maxRecDepth 100000 in
/-- Row.add -/
theorem k5_add (l : Launch) (D : gD) (A : Nat → Prop) (hs : Nat) {G : gH} {r cap : Nat} {xs : List Int32} (i v : Int32) (hr : gRow D G r cap xs) : gM l yX5_add wsX5_add (gR 2) D A hs 0 0 [.ref r, .int i, .int v] G (gPv fun G' => gRow D G' r cap (lset xs i (lget xs i + v)) ∧ gOut r 2 G G') := by
  refine gM_intro (by decide) rfl rfl (Nat.le_of_ble_eq_true rfl) ?_
  intro p e s m args below meth c C
  refine gx_aload_n C dX5_add_0 rfl ?_
  refine gx_iload_n C dX5_add_1 rfl ?_
  refine gx_aload_n C dX5_add_2 rfl ?_
  refine gx_iload_n C dX5_add_3 rfl ?_
  refine gx_callV (ci := 4) (T := TX5) (N := 2) C (k5_get l D A hs i hr) cb_X5_add__X5_get gX5_add_X5_get rfl (hG := (gRow_ob hr)) rfl rfl (Nat.le_of_ble_eq_true rfl) ⟨Nat.le_refl _, Nat.le_refl _⟩ dX5_add_4 (gx_ki fun r_4 G_4 h_4 => ?_)
  obtain ⟨rfl, rfl⟩ := h_4
  refine gx_iload_n C dX5_add_7 rfl ?_
  refine gx_iadd C dX5_add_8 ?_
  refine gx_callV (ci := 4) (T := TX5) (N := 2) C (k5_set l D A hs i (lget xs i + v) hr) cb_X5_add__X5_set gX5_add_X5_set rfl (hG := (gRow_ob hr)) rfl rfl (Nat.le_of_ble_eq_true rfl) ⟨Nat.le_refl _, Nat.le_refl _⟩ dX5_add_9 (gx_kv fun G_9 h_9 => ?_)
  refine gx_vret (mc := 0) C ?_ dX5_add_12
  exact ⟨rfl, h_9⟩
set_option maxHeartbeats 4000000 in
set_option maxRecDepth 100000 in
/-- Row.append -/
theorem k5_append (l : Launch) (D : gD) (A : Nat → Prop) (hs : Nat) {G : gH} {r cap : Nat} {xs : List Int32} (v : Int32) (hr : gRow D G r cap xs) : gM l yX5_append wsX5_append (gR 0) D A hs 0 0 [.ref r, .int v] G (gPv fun G' => gRow D G' r cap (lapp cap xs v) ∧ gOut r 2 G G') := by
  refine gM_intro (by decide) rfl rfl (Nat.le_of_ble_eq_true rfl) ?_
  intro p e s m args below meth c C
  obtain ⟨f, h1, h2, h3, h4, h5⟩ := id hr
  have hn : xs.length < 2 ^ 31 := by omega
  refine gx_aload_n C dX5_append_0 rfl ?_
  refine gx_get C fd_X5_append_13 (hG := h1) (hv := by rfl) dX5_append_1 ?_
  refine gx_if_lt (tgt := 39) C dX5_append_4 (by decide) (fun c_4 => ?_) (fun c_4 => ?_)
  · exact absurd c_4 (nI_pos hn)
  · refine gx_aload_n C dX5_append_7 rfl ?_
    refine gx_get C fd_X5_append_13 (hG := h1) (hv := by rfl) dX5_append_8 ?_
    refine gx_aload_n C dX5_append_11 rfl ?_
    refine gx_get C fd_X5_append_7 (hG := h1) (hv := by rfl) dX5_append_12 ?_
    refine gx_alen (t0 := 0) C (hG := h2) (ht := by rfl) (hv := by rfl) dX5_append_15 ?_
    refine gx_icmp_ge (tgt := 39) C dX5_append_16 (by decide) (fun c_16 => ?_) (fun c_16 => ?_)
    · have hi : ¬ xs.length < cap := fun q => nI_ge q (by omega) c_16
      refine gx_vret (mc := 0) C ?_ dX5_append_39
      first
        | exact ⟨rfl, by rw [lapp, if_neg hi]; exact hr, gOut_rf⟩
        | refine ⟨rfl, ?_, gOut_up (gOut_up gOut_rf (by omega)) (by omega)⟩
          rw [lapp, if_pos hi]
          refine gRow_mk gU_s (by rw [gU_n (by omega)]; exact gU_s) (by rw [List.length_append]; exact nI_1 xs.length) (by rw [List.length_append]; exact hi) h4 ?_
          intro i hx
          rw [nI_clamp hn]
          by_cases q : i = xs.length
          · subst q; simp [upd]
          · have q2 : i < xs.length := by rw [List.length_append] at hx; simp at hx; omega
            rw [List.getElem_append_left q2, ← h5 i q2]; simp [upd, q]
    · have hi : xs.length < cap := by
        rcases Nat.lt_or_ge xs.length cap with q | q
        · exact q
        · exact absurd (nI_le q hn) c_16
      refine gx_aload_n C dX5_append_19 rfl ?_
      refine gx_get C fd_X5_append_7 (hG := h1) (hv := by rfl) dX5_append_20 ?_
      refine gx_aload_n C dX5_append_23 rfl ?_
      refine gx_get C fd_X5_append_13 (hG := h1) (hv := by rfl) dX5_append_24 ?_
      refine gx_iload_n C dX5_append_27 rfl ?_
      refine gx_iast C (hG := h2) (hin := vp_in_nI hi (by omega)) dX5_append_28 ?_
      refine gx_aload_n C dX5_append_29 rfl ?_
      refine gx_dup C dX5_append_30 rfl ?_
      refine gx_get C fd_X5_append_13 (hG := by rw [gU_n (by omega)]; exact h1) (hv := by rfl) dX5_append_31 ?_
      refine gx_iconst (v := 1) C dX5_append_34 (by decide) ?_
      refine gx_iadd C dX5_append_35 ?_
      refine gx_put C fd_X5_append_13 tyX5_ok nmX5 rfl rfl rfl (hG := by rw [gU_n (by omega)]; exact h1) (hl := by exact Nat.le_of_ble_eq_true rfl) dX5_append_36 ?_
      refine gx_vret (mc := 0) C ?_ dX5_append_39
      first
        | exact ⟨rfl, by rw [lapp, if_neg hi]; exact hr, gOut_rf⟩
        | refine ⟨rfl, ?_, gOut_up (gOut_up gOut_rf (by omega)) (by omega)⟩
          rw [lapp, if_pos hi]
          refine gRow_mk gU_s (by rw [gU_n (by omega)]; exact gU_s) (by rw [List.length_append]; exact nI_1 xs.length) (by rw [List.length_append]; exact hi) h4 ?_
          intro i hx
          rw [nI_clamp hn]
          by_cases q : i = xs.length
          · subst q; simp [upd]
          · have q2 : i < xs.length := by rw [List.length_append] at hx; simp at hx; omega
            rw [List.getElem_append_left q2, ← h5 i q2]; simp [upd, q]
set_option maxHeartbeats 4000000 in
set_option maxRecDepth 100000 in
/-- Row.cutTo -/
theorem k5_cutTo (l : Launch) (D : gD) (A : Nat → Prop) (hs : Nat) {G : gH} {r cap : Nat} {xs : List Int32} (n : Int32) (hr : gRow D G r cap xs) : gM l yX5_cutTo wsX5_cutTo (gR 0) D A hs 0 0 [.ref r, .int n] G (gPv fun G' => gRow D G' r cap (lcut xs n) ∧ gOut r 2 G G') := by
  refine gM_intro (by decide) rfl rfl (Nat.le_of_ble_eq_true rfl) ?_
  intro p e s m args below meth c C
  obtain ⟨f, h1, h2, h3, h4, h5⟩ := id hr
  have hn : xs.length < 2 ^ 31 := by omega
  refine gx_iload_n C dX5_cutTo_0 rfl ?_
  refine gx_if_lt (tgt := 17) C dX5_cutTo_1 (by decide) (fun c_1 => ?_) (fun c_1 => ?_)
  · have hi := gIn_f0 (n := xs.length) c_1
    refine gx_vret (mc := 0) C ?_ dX5_cutTo_17
    first
      | exact ⟨rfl, by rw [lcut, hi]; exact hr, gOut_rf⟩
      | obtain ⟨j, hj, rfl⟩ := gIn_ex hi hn
        refine ⟨rfl, ?_, gOut_up gOut_rf (by omega)⟩
        rw [lcut, if_pos hi, nI_clamp (by omega)]
        refine gRow_mk gU_s (by rw [gU_n (by omega)]; exact h2) (by rw [List.length_take, Nat.min_eq_left (by omega)]) (by rw [List.length_take]; omega) h4 ?_
        intro i hx
        rw [List.getElem_take]
        exact h5 i _
  · refine gx_iload_n C dX5_cutTo_4 rfl ?_
    refine gx_aload_n C dX5_cutTo_5 rfl ?_
    refine gx_get C fd_X5_cutTo_13 (hG := h1) (hv := by rfl) dX5_cutTo_6 ?_
    refine gx_icmp_ge (tgt := 17) C dX5_cutTo_9 (by decide) (fun c_9 => ?_) (fun c_9 => ?_)
    · have hi := gIn_f1 c_9 hn
      refine gx_vret (mc := 0) C ?_ dX5_cutTo_17
      first
        | exact ⟨rfl, by rw [lcut, hi]; exact hr, gOut_rf⟩
        | obtain ⟨j, hj, rfl⟩ := gIn_ex hi hn
          refine ⟨rfl, ?_, gOut_up gOut_rf (by omega)⟩
          rw [lcut, if_pos hi, nI_clamp (by omega)]
          refine gRow_mk gU_s (by rw [gU_n (by omega)]; exact h2) (by rw [List.length_take, Nat.min_eq_left (by omega)]) (by rw [List.length_take]; omega) h4 ?_
          intro i hx
          rw [List.getElem_take]
          exact h5 i _
    · have hi := gIn_t c_1 c_9 hn
      refine gx_aload_n C dX5_cutTo_12 rfl ?_
      refine gx_iload_n C dX5_cutTo_13 rfl ?_
      refine gx_put C fd_X5_cutTo_13 tyX5_ok nmX5 rfl rfl rfl (hG := h1) (hl := by exact Nat.le_of_ble_eq_true rfl) dX5_cutTo_14 ?_
      refine gx_vret (mc := 0) C ?_ dX5_cutTo_17
      first
        | exact ⟨rfl, by rw [lcut, hi]; exact hr, gOut_rf⟩
        | obtain ⟨j, hj, rfl⟩ := gIn_ex hi hn
          refine ⟨rfl, ?_, gOut_up gOut_rf (by omega)⟩
          rw [lcut, if_pos hi, nI_clamp (by omega)]
          refine gRow_mk gU_s (by rw [gU_n (by omega)]; exact h2) (by rw [List.length_take, Nat.min_eq_left (by omega)]) (by rw [List.length_take]; omega) h4 ?_
          intro i hx
          rw [List.getElem_take]
          exact h5 i _
set_option maxHeartbeats 4000000 in
set_option maxRecDepth 100000 in
/-- Row.placeOf -/
theorem k5_placeOf (l : Launch) (D : gD) (A : Nat → Prop) (hs : Nat) {G : gH} {r cap : Nat} {xs : List Int32} (v : Int32) (hr : gRow D G r cap xs) : gM l yX5_placeOf wsX5_placeOf (gR 2) D A hs 0 0 [.ref r, .int v] G (gPi fun x G' => x = lidx xs v ∧ G' = G) := by
  refine gM_intro (by decide) rfl rfl (Nat.le_of_ble_eq_true rfl) ?_
  intro p e s m args below meth c C
  obtain ⟨f, h1, h2, h3, h4, h5⟩ := id hr
  have hn : xs.length < 2 ^ 31 := by omega
  have hloop : ∀ (n j : Nat), xs.length < j + n → j ≤ xs.length → (∀ a, a < j → ¬ xs.getD a 0 = v) → gX p l e (gR 2) s m args below meth c D A 3 hs 0 0 (MQ below (gQ D A hs 0 (gPi fun x G' => x = lidx xs v ∧ G' = G)) args s 0 0 A) G [some (.ref r), some (.int v), some (.int (nI j))] 2 [] := by
    intro n
    induction n with
    | zero => intro j hm hj0 hI; exact absurd hm (by omega)
    | succ n ih =>
      intro j hm hj0 hI
      refine gx_iload_n C dX5_placeOf_2 rfl ?_
      refine gx_aload_n C dX5_placeOf_3 rfl ?_
      refine gx_get C fd_X5_placeOf_13 (hG := h1) (hv := by rfl) dX5_placeOf_4 ?_
      refine gx_icmp_ge (tgt := 27) C dX5_placeOf_7 (by decide) (fun c_7 => ?_) (fun c_7 => ?_)
      · have hj : ¬ j < xs.length := fun q => nI_ge q (by omega) c_7
        refine gx_iconst (v := (-1)) C dX5_placeOf_27 (by decide) ?_
        refine gx_zret (mc := 0) C rfl ?_ dX5_placeOf_28
        exact ⟨_, rfl, gz_idn (by omega) hI, rfl⟩
      · have hj : j < xs.length := by
          rcases Nat.lt_or_ge j xs.length with q | q
          · exact q
          · exact absurd (nI_le q (by omega)) c_7
        refine gx_aload_n C dX5_placeOf_10 rfl ?_
        refine gx_iload_n C dX5_placeOf_11 rfl ?_
        refine gx_callV (ci := 4) (T := TX5) (N := 2) C (k5_get l D A hs (nI j) hr) cb_X5_placeOf__X5_get gX5_placeOf_X5_get rfl (hG := h1) rfl rfl (Nat.le_of_ble_eq_true rfl) ⟨Nat.le_refl _, Nat.le_refl _⟩ dX5_placeOf_12 (gx_ki fun r_12 G_12 h_12 => ?_)
        obtain ⟨rfl, rfl⟩ := h_12
        refine gx_iload_n C dX5_placeOf_15 rfl ?_
        refine gx_icmp_ne (tgt := 21) C dX5_placeOf_16 (by decide) (fun c_16 => ?_) (fun c_16 => ?_)
        · rw [lget_nI (by omega)] at c_16
          first | refine gx_iincN C dX5_placeOf_21 rfl (by decide) ?_ | refine gx_iinc1 C dX5_placeOf_21 rfl (by decide) ?_
          refine gx_goto (tgt := 2) C dX5_placeOf_24 (by decide) ?_
          exact ih (j + 1) (by omega) (by omega) (fun a ha => by
            rcases Nat.lt_or_ge a j with q | q
            · exact hI a q
            · have e2 : a = j := by omega
              subst e2; exact c_16)
        · rw [lget_nI (by omega)] at c_16
          refine gx_iload_n C dX5_placeOf_19 rfl ?_
          refine gx_zret (mc := 0) C rfl ?_ dX5_placeOf_20
          exact ⟨_, rfl, gz_idx hj c_16 hI, rfl⟩
  refine gx_iconst (v := 0) C dX5_placeOf_0 (by decide) ?_
  refine gx_istore_n C dX5_placeOf_1 (by decide) ?_
  exact hloop (xs.length + 1) 0 (by omega) (by omega) (fun a ha => absurd ha (by omega))
end
section
theorem dX1_codeOf_0 : decode cX1_codeOf 0 = .ok (.iload_n 0, 1) := by decide +kernel
theorem dX1_codeOf_1 : decode cX1_codeOf 1 = .ok (.bipush 24, 2) := by decide +kernel
theorem dX1_codeOf_3 : decode cX1_codeOf 3 = .ok (.ishl, 1) := by decide +kernel
theorem dX1_codeOf_4 : decode cX1_codeOf 4 = .ok (.iload_n 1, 1) := by decide +kernel
theorem dX1_codeOf_5 : decode cX1_codeOf 5 = .ok (.bipush 16, 2) := by decide +kernel
theorem dX1_codeOf_7 : decode cX1_codeOf 7 = .ok (.ishl, 1) := by decide +kernel
theorem dX1_codeOf_8 : decode cX1_codeOf 8 = .ok (.ior, 1) := by decide +kernel
theorem dX1_codeOf_9 : decode cX1_codeOf 9 = .ok (.iload_n 2, 1) := by decide +kernel
theorem dX1_codeOf_10 : decode cX1_codeOf 10 = .ok (.bipush 8, 2) := by decide +kernel
theorem dX1_codeOf_12 : decode cX1_codeOf 12 = .ok (.ishl, 1) := by decide +kernel
theorem dX1_codeOf_13 : decode cX1_codeOf 13 = .ok (.ior, 1) := by decide +kernel
theorem dX1_codeOf_14 : decode cX1_codeOf 14 = .ok (.iload_n 3, 1) := by decide +kernel
theorem dX1_codeOf_15 : decode cX1_codeOf 15 = .ok (.ior, 1) := by decide +kernel
theorem dX1_codeOf_16 : decode cX1_codeOf 16 = .ok (.ireturn, 1) := by decide +kernel
theorem dX1_kindOf_0 : decode cX1_kindOf 0 = .ok (.iload_n 0, 1) := by decide +kernel
theorem dX1_kindOf_1 : decode cX1_kindOf 1 = .ok (.bipush 24, 2) := by decide +kernel
theorem dX1_kindOf_3 : decode cX1_kindOf 3 = .ok (.ishr, 1) := by decide +kernel
theorem dX1_kindOf_4 : decode cX1_kindOf 4 = .ok (.ireturn, 1) := by decide +kernel
theorem dX1_firstOf_0 : decode cX1_firstOf 0 = .ok (.iload_n 0, 1) := by decide +kernel
theorem dX1_firstOf_1 : decode cX1_firstOf 1 = .ok (.bipush 16, 2) := by decide +kernel
theorem dX1_firstOf_3 : decode cX1_firstOf 3 = .ok (.ishr, 1) := by decide +kernel
theorem dX1_firstOf_4 : decode cX1_firstOf 4 = .ok (.sipush 255, 3) := by decide +kernel
theorem dX1_firstOf_7 : decode cX1_firstOf 7 = .ok (.iand, 1) := by decide +kernel
theorem dX1_firstOf_8 : decode cX1_firstOf 8 = .ok (.ireturn, 1) := by decide +kernel
theorem dX1_secondOf_0 : decode cX1_secondOf 0 = .ok (.iload_n 0, 1) := by decide +kernel
theorem dX1_secondOf_1 : decode cX1_secondOf 1 = .ok (.bipush 8, 2) := by decide +kernel
theorem dX1_secondOf_3 : decode cX1_secondOf 3 = .ok (.ishr, 1) := by decide +kernel
theorem dX1_secondOf_4 : decode cX1_secondOf 4 = .ok (.sipush 255, 3) := by decide +kernel
theorem dX1_secondOf_7 : decode cX1_secondOf 7 = .ok (.iand, 1) := by decide +kernel
theorem dX1_secondOf_8 : decode cX1_secondOf 8 = .ok (.ireturn, 1) := by decide +kernel
theorem dX1_characterOf_0 : decode cX1_characterOf 0 = .ok (.iload_n 0, 1) := by decide +kernel
theorem dX1_characterOf_1 : decode cX1_characterOf 1 = .ok (.sipush 255, 3) := by decide +kernel
theorem dX1_characterOf_4 : decode cX1_characterOf 4 = .ok (.iand, 1) := by decide +kernel
theorem dX1_characterOf_5 : decode cX1_characterOf 5 = .ok (.ireturn, 1) := by decide +kernel
theorem dX1_takesCharacter_0 : decode cX1_takesCharacter 0 = .ok (.iload_n 0, 1) := by decide +kernel
theorem dX1_takesCharacter_1 : decode cX1_takesCharacter 1 = .ok (.iconst 1, 1) := by decide +kernel
theorem dX1_takesCharacter_2 : decode cX1_takesCharacter 2 = .ok (.if_icmp .eq 8, 3) := by decide +kernel
theorem dX1_takesCharacter_5 : decode cX1_takesCharacter 5 = .ok (.iload_n 0, 1) := by decide +kernel
theorem dX1_takesCharacter_6 : decode cX1_takesCharacter 6 = .ok (.iconst 2, 1) := by decide +kernel
theorem dX1_takesCharacter_7 : decode cX1_takesCharacter 7 = .ok (.if_icmp .ne 7, 3) := by decide +kernel
theorem dX1_takesCharacter_10 : decode cX1_takesCharacter 10 = .ok (.iconst 1, 1) := by decide +kernel
theorem dX1_takesCharacter_11 : decode cX1_takesCharacter 11 = .ok (.goto 4, 3) := by decide +kernel
theorem dX1_takesCharacter_14 : decode cX1_takesCharacter 14 = .ok (.iconst 0, 1) := by decide +kernel
theorem dX1_takesCharacter_15 : decode cX1_takesCharacter 15 = .ok (.ireturn, 1) := by decide +kernel
set_option maxRecDepth 20000 in
theorem ggX1_partOf_X1_kindOf : GoodIn wsX1_partOf wsX1_kindOf := goodIn_r _ [4] (by decide +kernel) (by decide +kernel)
set_option maxRecDepth 20000 in
theorem gX1_partOf_X1_kindOf : GoodIn wsX1_partOf (va_wsS RX1 9 yX1_kindOf wsX1_kindOf) := goodIn_app (goodIn_of _ (by decide +kernel)) ggX1_partOf_X1_kindOf
set_option maxRecDepth 20000 in
theorem ggX1_partOf_X1_firstOf : GoodIn wsX1_partOf wsX1_firstOf := goodIn_r _ [7] (by decide +kernel) (by decide +kernel)
set_option maxRecDepth 20000 in
theorem gX1_partOf_X1_firstOf : GoodIn wsX1_partOf (va_wsS RX1 15 yX1_firstOf wsX1_firstOf) := goodIn_app (goodIn_of _ (by decide +kernel)) ggX1_partOf_X1_firstOf
set_option maxRecDepth 20000 in
theorem ggX1_partOf_X1_secondOf : GoodIn wsX1_partOf wsX1_secondOf := goodIn_r _ [10] (by decide +kernel) (by decide +kernel)
set_option maxRecDepth 20000 in
theorem gX1_partOf_X1_secondOf : GoodIn wsX1_partOf (va_wsS RX1 18 yX1_secondOf wsX1_secondOf) := goodIn_app (goodIn_of _ (by decide +kernel)) ggX1_partOf_X1_secondOf
set_option maxRecDepth 20000 in
theorem ggX1_partOf_X1_takesCharacter : GoodIn wsX1_partOf wsX1_takesCharacter := goodIn_r _ [13] (by decide +kernel) (by decide +kernel)
set_option maxRecDepth 20000 in
theorem gX1_partOf_X1_takesCharacter : GoodIn wsX1_partOf (va_wsS RX1 21 yX1_takesCharacter wsX1_takesCharacter) := goodIn_app (goodIn_of _ (by decide +kernel)) ggX1_partOf_X1_takesCharacter
set_option maxRecDepth 20000 in
theorem ggX1_partOf_X1_characterOf : GoodIn wsX1_partOf wsX1_characterOf := goodIn_r _ [16] (by decide +kernel) (by decide +kernel)
set_option maxRecDepth 20000 in
theorem gX1_partOf_X1_characterOf : GoodIn wsX1_partOf (va_wsS RX1 25 yX1_characterOf wsX1_characterOf) := goodIn_app (goodIn_of _ (by decide +kernel)) ggX1_partOf_X1_characterOf
theorem dX1_partOf_0 : decode cX1_partOf 0 = .ok (.iload_n 1, 1) := by decide +kernel
theorem dX1_partOf_1 : decode cX1_partOf 1 = .ok (.tableswitch 54 0 2 #[27, 32, 37], 27) := by decide +kernel
theorem dX1_partOf_28 : decode cX1_partOf 28 = .ok (.iload_n 0, 1) := by decide +kernel
theorem dX1_partOf_29 : decode cX1_partOf 29 = .ok (.invokestatic 9, 3) := by decide +kernel
theorem dX1_partOf_32 : decode cX1_partOf 32 = .ok (.ireturn, 1) := by decide +kernel
theorem dX1_partOf_33 : decode cX1_partOf 33 = .ok (.iload_n 0, 1) := by decide +kernel
theorem dX1_partOf_34 : decode cX1_partOf 34 = .ok (.invokestatic 15, 3) := by decide +kernel
theorem dX1_partOf_37 : decode cX1_partOf 37 = .ok (.ireturn, 1) := by decide +kernel
theorem dX1_partOf_38 : decode cX1_partOf 38 = .ok (.iload_n 0, 1) := by decide +kernel
theorem dX1_partOf_39 : decode cX1_partOf 39 = .ok (.invokestatic 9, 3) := by decide +kernel
theorem dX1_partOf_42 : decode cX1_partOf 42 = .ok (.ifCond .ne 10, 3) := by decide +kernel
theorem dX1_partOf_45 : decode cX1_partOf 45 = .ok (.iload_n 0, 1) := by decide +kernel
theorem dX1_partOf_46 : decode cX1_partOf 46 = .ok (.invokestatic 18, 3) := by decide +kernel
theorem dX1_partOf_49 : decode cX1_partOf 49 = .ok (.goto 5, 3) := by decide +kernel
theorem dX1_partOf_52 : decode cX1_partOf 52 = .ok (.bipush (-4), 2) := by decide +kernel
theorem dX1_partOf_54 : decode cX1_partOf 54 = .ok (.ireturn, 1) := by decide +kernel
theorem dX1_partOf_55 : decode cX1_partOf 55 = .ok (.iload_n 0, 1) := by decide +kernel
theorem dX1_partOf_56 : decode cX1_partOf 56 = .ok (.invokestatic 9, 3) := by decide +kernel
theorem dX1_partOf_59 : decode cX1_partOf 59 = .ok (.invokestatic 21, 3) := by decide +kernel
theorem dX1_partOf_62 : decode cX1_partOf 62 = .ok (.ifCond .eq 10, 3) := by decide +kernel
theorem dX1_partOf_65 : decode cX1_partOf 65 = .ok (.iload_n 0, 1) := by decide +kernel
theorem dX1_partOf_66 : decode cX1_partOf 66 = .ok (.invokestatic 25, 3) := by decide +kernel
theorem dX1_partOf_69 : decode cX1_partOf 69 = .ok (.goto 5, 3) := by decide +kernel
theorem dX1_partOf_72 : decode cX1_partOf 72 = .ok (.bipush (-4), 2) := by decide +kernel
theorem dX1_partOf_74 : decode cX1_partOf 74 = .ok (.ireturn, 1) := by decide +kernel
theorem dX1_isPossible_0 : decode cX1_isPossible 0 = .ok (.iload_n 0, 1) := by decide +kernel
theorem dX1_isPossible_1 : decode cX1_isPossible 1 = .ok (.tableswitch 71 0 3 #[31, 47, 71, 58], 31) := by decide +kernel
theorem dX1_isPossible_32 : decode cX1_isPossible 32 = .ok (.iload_n 1, 1) := by decide +kernel
theorem dX1_isPossible_33 : decode cX1_isPossible 33 = .ok (.iload_n 2, 1) := by decide +kernel
theorem dX1_isPossible_34 : decode cX1_isPossible 34 = .ok (.if_icmp .ge 12, 3) := by decide +kernel
theorem dX1_isPossible_37 : decode cX1_isPossible 37 = .ok (.iload_n 2, 1) := by decide +kernel
theorem dX1_isPossible_38 : decode cX1_isPossible 38 = .ok (.iload_n 3, 1) := by decide +kernel
theorem dX1_isPossible_39 : decode cX1_isPossible 39 = .ok (.if_icmp .gt 7, 3) := by decide +kernel
theorem dX1_isPossible_42 : decode cX1_isPossible 42 = .ok (.iconst 1, 1) := by decide +kernel
theorem dX1_isPossible_43 : decode cX1_isPossible 43 = .ok (.goto 4, 3) := by decide +kernel
theorem dX1_isPossible_46 : decode cX1_isPossible 46 = .ok (.iconst 0, 1) := by decide +kernel
theorem dX1_isPossible_47 : decode cX1_isPossible 47 = .ok (.ireturn, 1) := by decide +kernel
theorem dX1_isPossible_48 : decode cX1_isPossible 48 = .ok (.iload_n 1, 1) := by decide +kernel
theorem dX1_isPossible_49 : decode cX1_isPossible 49 = .ok (.iload_n 3, 1) := by decide +kernel
theorem dX1_isPossible_50 : decode cX1_isPossible 50 = .ok (.if_icmp .gt 7, 3) := by decide +kernel
theorem dX1_isPossible_53 : decode cX1_isPossible 53 = .ok (.iconst 1, 1) := by decide +kernel
theorem dX1_isPossible_54 : decode cX1_isPossible 54 = .ok (.goto 4, 3) := by decide +kernel
theorem dX1_isPossible_57 : decode cX1_isPossible 57 = .ok (.iconst 0, 1) := by decide +kernel
theorem dX1_isPossible_58 : decode cX1_isPossible 58 = .ok (.ireturn, 1) := by decide +kernel
theorem dX1_isPossible_59 : decode cX1_isPossible 59 = .ok (.iload_n 1, 1) := by decide +kernel
theorem dX1_isPossible_60 : decode cX1_isPossible 60 = .ok (.iconst 1, 1) := by decide +kernel
theorem dX1_isPossible_61 : decode cX1_isPossible 61 = .ok (.iadd, 1) := by decide +kernel
theorem dX1_isPossible_62 : decode cX1_isPossible 62 = .ok (.iload_n 3, 1) := by decide +kernel
theorem dX1_isPossible_63 : decode cX1_isPossible 63 = .ok (.if_icmp .ge 7, 3) := by decide +kernel
theorem dX1_isPossible_66 : decode cX1_isPossible 66 = .ok (.iconst 1, 1) := by decide +kernel
theorem dX1_isPossible_67 : decode cX1_isPossible 67 = .ok (.goto 4, 3) := by decide +kernel
theorem dX1_isPossible_70 : decode cX1_isPossible 70 = .ok (.iconst 0, 1) := by decide +kernel
theorem dX1_isPossible_71 : decode cX1_isPossible 71 = .ok (.ireturn, 1) := by decide +kernel
theorem dX1_isPossible_72 : decode cX1_isPossible 72 = .ok (.iload_n 1, 1) := by decide +kernel
theorem dX1_isPossible_73 : decode cX1_isPossible 73 = .ok (.iload_n 3, 1) := by decide +kernel
theorem dX1_isPossible_74 : decode cX1_isPossible 74 = .ok (.if_icmp .ge 7, 3) := by decide +kernel
theorem dX1_isPossible_77 : decode cX1_isPossible 77 = .ok (.iconst 1, 1) := by decide +kernel
theorem dX1_isPossible_78 : decode cX1_isPossible 78 = .ok (.goto 4, 3) := by decide +kernel
theorem dX1_isPossible_81 : decode cX1_isPossible 81 = .ok (.iconst 0, 1) := by decide +kernel
theorem dX1_isPossible_82 : decode cX1_isPossible 82 = .ok (.ireturn, 1) := by decide +kernel
set_option maxRecDepth 20000 in
theorem ggX1_endOf_X1_kindOf : GoodIn wsX1_endOf wsX1_kindOf := goodIn_r _ [4] (by decide +kernel) (by decide +kernel)
set_option maxRecDepth 20000 in
theorem gX1_endOf_X1_kindOf : GoodIn wsX1_endOf (va_wsS RX1 9 yX1_kindOf wsX1_kindOf) := goodIn_app (goodIn_of _ (by decide +kernel)) ggX1_endOf_X1_kindOf
set_option maxRecDepth 20000 in
theorem ggX1_endOf_X1_secondOf : GoodIn wsX1_endOf wsX1_secondOf := goodIn_r _ [7] (by decide +kernel) (by decide +kernel)
set_option maxRecDepth 20000 in
theorem gX1_endOf_X1_secondOf : GoodIn wsX1_endOf (va_wsS RX1 18 yX1_secondOf wsX1_secondOf) := goodIn_app (goodIn_of _ (by decide +kernel)) ggX1_endOf_X1_secondOf
set_option maxRecDepth 20000 in
theorem ggX1_endOf_X1_firstOf : GoodIn wsX1_endOf wsX1_firstOf := goodIn_r _ [10] (by decide +kernel) (by decide +kernel)
set_option maxRecDepth 20000 in
theorem gX1_endOf_X1_firstOf : GoodIn wsX1_endOf (va_wsS RX1 15 yX1_firstOf wsX1_firstOf) := goodIn_app (goodIn_of _ (by decide +kernel)) ggX1_endOf_X1_firstOf
theorem dX1_endOf_0 : decode cX1_endOf 0 = .ok (.iload_n 0, 1) := by decide +kernel
theorem dX1_endOf_1 : decode cX1_endOf 1 = .ok (.invokestatic 9, 3) := by decide +kernel
theorem dX1_endOf_4 : decode cX1_endOf 4 = .ok (.tableswitch 49 0 3 #[32, 37, 49, 42], 32) := by decide +kernel
theorem dX1_endOf_36 : decode cX1_endOf 36 = .ok (.iload_n 0, 1) := by decide +kernel
theorem dX1_endOf_37 : decode cX1_endOf 37 = .ok (.invokestatic 18, 3) := by decide +kernel
theorem dX1_endOf_40 : decode cX1_endOf 40 = .ok (.ireturn, 1) := by decide +kernel
theorem dX1_endOf_41 : decode cX1_endOf 41 = .ok (.iload_n 0, 1) := by decide +kernel
theorem dX1_endOf_42 : decode cX1_endOf 42 = .ok (.invokestatic 15, 3) := by decide +kernel
theorem dX1_endOf_45 : decode cX1_endOf 45 = .ok (.ireturn, 1) := by decide +kernel
theorem dX1_endOf_46 : decode cX1_endOf 46 = .ok (.iload_n 0, 1) := by decide +kernel
theorem dX1_endOf_47 : decode cX1_endOf 47 = .ok (.invokestatic 15, 3) := by decide +kernel
theorem dX1_endOf_50 : decode cX1_endOf 50 = .ok (.iconst 2, 1) := by decide +kernel
theorem dX1_endOf_51 : decode cX1_endOf 51 = .ok (.iadd, 1) := by decide +kernel
theorem dX1_endOf_52 : decode cX1_endOf 52 = .ok (.ireturn, 1) := by decide +kernel
theorem dX1_endOf_53 : decode cX1_endOf 53 = .ok (.iload_n 0, 1) := by decide +kernel
theorem dX1_endOf_54 : decode cX1_endOf 54 = .ok (.invokestatic 15, 3) := by decide +kernel
theorem dX1_endOf_57 : decode cX1_endOf 57 = .ok (.iconst 1, 1) := by decide +kernel
theorem dX1_endOf_58 : decode cX1_endOf 58 = .ok (.iadd, 1) := by decide +kernel
theorem dX1_endOf_59 : decode cX1_endOf 59 = .ok (.ireturn, 1) := by decide +kernel
set_option maxRecDepth 20000 in
theorem ggX1_areOpposed_X1_kindOf : GoodIn wsX1_areOpposed wsX1_kindOf := goodIn_r _ [4] (by decide +kernel) (by decide +kernel)
set_option maxRecDepth 20000 in
theorem gX1_areOpposed_X1_kindOf : GoodIn wsX1_areOpposed (va_wsS RX1 9 yX1_kindOf wsX1_kindOf) := goodIn_app (goodIn_of _ (by decide +kernel)) ggX1_areOpposed_X1_kindOf
set_option maxRecDepth 20000 in
theorem ggX1_areOpposed_X1_firstOf : GoodIn wsX1_areOpposed wsX1_firstOf := goodIn_r _ [7] (by decide +kernel) (by decide +kernel)
set_option maxRecDepth 20000 in
theorem gX1_areOpposed_X1_firstOf : GoodIn wsX1_areOpposed (va_wsS RX1 15 yX1_firstOf wsX1_firstOf) := goodIn_app (goodIn_of _ (by decide +kernel)) ggX1_areOpposed_X1_firstOf
set_option maxRecDepth 20000 in
theorem ggX1_areOpposed_X1_endOf : GoodIn wsX1_areOpposed wsX1_endOf := goodIn_r _ [10, 1, 2, 3, 4, 11, 12, 13, 5, 6, 7] (by decide +kernel) (by decide +kernel)
set_option maxRecDepth 20000 in
theorem gX1_areOpposed_X1_endOf : GoodIn wsX1_areOpposed (va_wsS RX1 28 yX1_endOf wsX1_endOf) := goodIn_app (goodIn_of _ (by decide +kernel)) ggX1_areOpposed_X1_endOf
theorem dX1_areOpposed_0 : decode cX1_areOpposed 0 = .ok (.iload_n 0, 1) := by decide +kernel
theorem dX1_areOpposed_1 : decode cX1_areOpposed 1 = .ok (.invokestatic 9, 3) := by decide +kernel
theorem dX1_areOpposed_4 : decode cX1_areOpposed 4 = .ok (.istore_n 2, 1) := by decide +kernel
theorem dX1_areOpposed_5 : decode cX1_areOpposed 5 = .ok (.iload_n 1, 1) := by decide +kernel
theorem dX1_areOpposed_6 : decode cX1_areOpposed 6 = .ok (.invokestatic 9, 3) := by decide +kernel
theorem dX1_areOpposed_9 : decode cX1_areOpposed 9 = .ok (.istore_n 3, 1) := by decide +kernel
theorem dX1_areOpposed_10 : decode cX1_areOpposed 10 = .ok (.iload_n 0, 1) := by decide +kernel
theorem dX1_areOpposed_11 : decode cX1_areOpposed 11 = .ok (.iload_n 1, 1) := by decide +kernel
theorem dX1_areOpposed_12 : decode cX1_areOpposed 12 = .ok (.if_icmp .eq 13, 3) := by decide +kernel
theorem dX1_areOpposed_15 : decode cX1_areOpposed 15 = .ok (.iload_n 2, 1) := by decide +kernel
theorem dX1_areOpposed_16 : decode cX1_areOpposed 16 = .ok (.iconst 5, 1) := by decide +kernel
theorem dX1_areOpposed_17 : decode cX1_areOpposed 17 = .ok (.if_icmp .eq 8, 3) := by decide +kernel
theorem dX1_areOpposed_20 : decode cX1_areOpposed 20 = .ok (.iload_n 3, 1) := by decide +kernel
theorem dX1_areOpposed_21 : decode cX1_areOpposed 21 = .ok (.iconst 5, 1) := by decide +kernel
theorem dX1_areOpposed_22 : decode cX1_areOpposed 22 = .ok (.if_icmp .ne 5, 3) := by decide +kernel
theorem dX1_areOpposed_25 : decode cX1_areOpposed 25 = .ok (.iconst 0, 1) := by decide +kernel
theorem dX1_areOpposed_26 : decode cX1_areOpposed 26 = .ok (.ireturn, 1) := by decide +kernel
theorem dX1_areOpposed_27 : decode cX1_areOpposed 27 = .ok (.iload_n 2, 1) := by decide +kernel
theorem dX1_areOpposed_28 : decode cX1_areOpposed 28 = .ok (.iconst 1, 1) := by decide +kernel
theorem dX1_areOpposed_29 : decode cX1_areOpposed 29 = .ok (.if_icmp .ne 25, 3) := by decide +kernel
theorem dX1_areOpposed_32 : decode cX1_areOpposed 32 = .ok (.iload_n 3, 1) := by decide +kernel
theorem dX1_areOpposed_33 : decode cX1_areOpposed 33 = .ok (.iconst 1, 1) := by decide +kernel
theorem dX1_areOpposed_34 : decode cX1_areOpposed 34 = .ok (.if_icmp .ne 20, 3) := by decide +kernel
theorem dX1_areOpposed_37 : decode cX1_areOpposed 37 = .ok (.iload_n 0, 1) := by decide +kernel
theorem dX1_areOpposed_38 : decode cX1_areOpposed 38 = .ok (.invokestatic 15, 3) := by decide +kernel
theorem dX1_areOpposed_41 : decode cX1_areOpposed 41 = .ok (.iload_n 1, 1) := by decide +kernel
theorem dX1_areOpposed_42 : decode cX1_areOpposed 42 = .ok (.invokestatic 15, 3) := by decide +kernel
theorem dX1_areOpposed_45 : decode cX1_areOpposed 45 = .ok (.if_icmp .ne 7, 3) := by decide +kernel
theorem dX1_areOpposed_48 : decode cX1_areOpposed 48 = .ok (.iconst 1, 1) := by decide +kernel
theorem dX1_areOpposed_49 : decode cX1_areOpposed 49 = .ok (.goto 4, 3) := by decide +kernel
theorem dX1_areOpposed_52 : decode cX1_areOpposed 52 = .ok (.iconst 0, 1) := by decide +kernel
theorem dX1_areOpposed_53 : decode cX1_areOpposed 53 = .ok (.ireturn, 1) := by decide +kernel
theorem dX1_areOpposed_54 : decode cX1_areOpposed 54 = .ok (.iload_n 0, 1) := by decide +kernel
theorem dX1_areOpposed_55 : decode cX1_areOpposed 55 = .ok (.invokestatic 15, 3) := by decide +kernel
theorem dX1_areOpposed_58 : decode cX1_areOpposed 58 = .ok (.iload_n 1, 1) := by decide +kernel
theorem dX1_areOpposed_59 : decode cX1_areOpposed 59 = .ok (.invokestatic 28, 3) := by decide +kernel
theorem dX1_areOpposed_62 : decode cX1_areOpposed 62 = .ok (.if_icmp .ge 18, 3) := by decide +kernel
theorem dX1_areOpposed_65 : decode cX1_areOpposed 65 = .ok (.iload_n 1, 1) := by decide +kernel
theorem dX1_areOpposed_66 : decode cX1_areOpposed 66 = .ok (.invokestatic 15, 3) := by decide +kernel
theorem dX1_areOpposed_69 : decode cX1_areOpposed 69 = .ok (.iload_n 0, 1) := by decide +kernel
theorem dX1_areOpposed_70 : decode cX1_areOpposed 70 = .ok (.invokestatic 28, 3) := by decide +kernel
theorem dX1_areOpposed_73 : decode cX1_areOpposed 73 = .ok (.if_icmp .ge 7, 3) := by decide +kernel
theorem dX1_areOpposed_76 : decode cX1_areOpposed 76 = .ok (.iconst 1, 1) := by decide +kernel
theorem dX1_areOpposed_77 : decode cX1_areOpposed 77 = .ok (.goto 4, 3) := by decide +kernel
theorem dX1_areOpposed_80 : decode cX1_areOpposed 80 = .ok (.iconst 0, 1) := by decide +kernel
theorem dX1_areOpposed_81 : decode cX1_areOpposed 81 = .ok (.ireturn, 1) := by decide +kernel
theorem dX8_isOutside_0 : decode cX8_isOutside 0 = .ok (.iload_n 0, 1) := by decide +kernel
theorem dX8_isOutside_1 : decode cX8_isOutside 1 = .ok (.iload_n 1, 1) := by decide +kernel
theorem dX8_isOutside_2 : decode cX8_isOutside 2 = .ok (.if_icmp .lt 8, 3) := by decide +kernel
theorem dX8_isOutside_5 : decode cX8_isOutside 5 = .ok (.iload_n 0, 1) := by decide +kernel
theorem dX8_isOutside_6 : decode cX8_isOutside 6 = .ok (.iload_n 2, 1) := by decide +kernel
theorem dX8_isOutside_7 : decode cX8_isOutside 7 = .ok (.if_icmp .le 7, 3) := by decide +kernel
theorem dX8_isOutside_10 : decode cX8_isOutside 10 = .ok (.iconst 1, 1) := by decide +kernel
theorem dX8_isOutside_11 : decode cX8_isOutside 11 = .ok (.goto 4, 3) := by decide +kernel
theorem dX8_isOutside_14 : decode cX8_isOutside 14 = .ok (.iconst 0, 1) := by decide +kernel
theorem dX8_isOutside_15 : decode cX8_isOutside 15 = .ok (.ireturn, 1) := by decide +kernel
end
section
/-! MARKS AS NUMBERS -/
def pCode (k a b c : Int32) : Int32 := k <<< ((24 : Int32) &&& 31) ||| a <<< ((16 : Int32) &&& 31) ||| b <<< ((8 : Int32) &&& 31) ||| c
def pKind (c : Int32) : Int32 := c >>> ((24 : Int32) &&& 31)
def pFirst (c : Int32) : Int32 := c >>> ((16 : Int32) &&& 31) &&& 255
def pSecond (c : Int32) : Int32 := c >>> ((8 : Int32) &&& 31) &&& 255
def pSign (c : Int32) : Int32 := c &&& 255
def pTakes (k : Int32) : Int32 := if k = 1 ∨ k = 2 then 1 else 0
def pPart (c w : Int32) : Int32 := if w = 0 then pKind c else if w = 1 then pFirst c else if w = 2 then (if pKind c = 0 then pSecond c else -4) else if pTakes (pKind c) = 0 then -4 else pSign c
def pOk (k a b n : Int32) : Int32 := if k = 0 then (if a < b ∧ b ≤ n then 1 else 0) else if k = 1 then (if a ≤ n then 1 else 0) else if k = 3 then (if a + 1 < n then 1 else 0) else (if a < n then 1 else 0)
def pEnd (c : Int32) : Int32 := if pKind c = 0 then pSecond c else if pKind c = 1 then pFirst c else if pKind c = 3 then pFirst c + 2 else pFirst c + 1
def pOpp (a b : Int32) : Int32 := if a = b ∨ pKind a = 5 ∨ pKind b = 5 then 0 else if pKind a = 1 ∧ pKind b = 1 then (if pFirst a = pFirst b then 1 else 0) else if pFirst a < pEnd b ∧ pFirst b < pEnd a then 1 else 0
def pOut (v a b : Int32) : Int32 := if v < a ∨ b < v then 1 else 0
theorem gz_ltn {x y : Int32} : x < y ↔ ¬ y ≤ x := Int32.not_le.symm
theorem gz_ok0 {P : Prop} (h : P) : P := h
theorem gz_le {x y : Int32} : ¬ x ≤ y ↔ y < x := Int32.not_le
theorem gz_lt {x y : Int32} : ¬ x < y ↔ y ≤ x := Int32.not_lt
theorem cb_X1_partOf__X1_kindOf : gCb yX1_kindOf cX1_kindOf 1 (some .int) wsX1_kindOf (gR 0) (gR 1) 0 0 1 := ⟨rfl, rfl, rfl, by decide +kernel, by decide⟩
theorem cb_X1_partOf__X1_firstOf : gCb yX1_firstOf cX1_firstOf 1 (some .int) wsX1_firstOf (gR 0) (gR 1) 0 0 1 := ⟨rfl, rfl, rfl, by decide +kernel, by decide⟩
theorem cb_X1_partOf__X1_secondOf : gCb yX1_secondOf cX1_secondOf 1 (some .int) wsX1_secondOf (gR 0) (gR 1) 0 0 1 := ⟨rfl, rfl, rfl, by decide +kernel, by decide⟩
theorem cb_X1_partOf__X1_takesCharacter : gCb yX1_takesCharacter cX1_takesCharacter 1 (some .boolean) wsX1_takesCharacter (gR 0) (gR 1) 0 0 1 := ⟨rfl, rfl, rfl, by decide +kernel, by decide⟩
theorem cb_X1_partOf__X1_characterOf : gCb yX1_characterOf cX1_characterOf 1 (some .int) wsX1_characterOf (gR 0) (gR 1) 0 0 1 := ⟨rfl, rfl, rfl, by decide +kernel, by decide⟩
theorem cb_X1_endOf__X1_kindOf : gCb yX1_kindOf cX1_kindOf 1 (some .int) wsX1_kindOf (gR 0) (gR 1) 0 0 1 := ⟨rfl, rfl, rfl, by decide +kernel, by decide⟩
theorem cb_X1_endOf__X1_secondOf : gCb yX1_secondOf cX1_secondOf 1 (some .int) wsX1_secondOf (gR 0) (gR 1) 0 0 1 := ⟨rfl, rfl, rfl, by decide +kernel, by decide⟩
theorem cb_X1_endOf__X1_firstOf : gCb yX1_firstOf cX1_firstOf 1 (some .int) wsX1_firstOf (gR 0) (gR 1) 0 0 1 := ⟨rfl, rfl, rfl, by decide +kernel, by decide⟩
theorem cb_X1_areOpposed__X1_kindOf : gCb yX1_kindOf cX1_kindOf 1 (some .int) wsX1_kindOf (gR 0) (gR 2) 0 0 1 := ⟨rfl, rfl, rfl, by decide +kernel, by decide⟩
theorem cb_X1_areOpposed__X1_firstOf : gCb yX1_firstOf cX1_firstOf 1 (some .int) wsX1_firstOf (gR 0) (gR 2) 0 0 1 := ⟨rfl, rfl, rfl, by decide +kernel, by decide⟩
theorem cb_X1_areOpposed__X1_endOf : gCb yX1_endOf cX1_endOf 1 (some .int) wsX1_endOf (gR 1) (gR 2) 0 0 1 := ⟨rfl, rfl, rfl, by decide +kernel, by decide⟩
set_option maxHeartbeats 4000000 in
set_option maxRecDepth 100000 in
/-- X1_codeOf -/
theorem k1_codeOf (l : Launch) (D : gD) (A : Nat → Prop) (hs : Nat) {G : gH} (k a b z : Int32) : gM l yX1_codeOf wsX1_codeOf (gR 0) D A hs 0 0 [.int k, .int a, .int b, .int z] G (gPi fun x G' => x = pCode k a b z ∧ G' = G) := by
  refine gM_intro (by decide) rfl rfl (Nat.le_of_ble_eq_true rfl) ?_
  intro p e s m args below meth c C
  refine gx_iload_n C dX1_codeOf_0 rfl ?_
  refine gx_bipush (v := 24) C dX1_codeOf_1 (by decide) ?_
  refine gx_ishl C dX1_codeOf_3 ?_
  refine gx_iload_n C dX1_codeOf_4 rfl ?_
  refine gx_bipush (v := 16) C dX1_codeOf_5 (by decide) ?_
  refine gx_ishl C dX1_codeOf_7 ?_
  refine gx_ior C dX1_codeOf_8 ?_
  refine gx_iload_n C dX1_codeOf_9 rfl ?_
  refine gx_bipush (v := 8) C dX1_codeOf_10 (by decide) ?_
  refine gx_ishl C dX1_codeOf_12 ?_
  refine gx_ior C dX1_codeOf_13 ?_
  refine gx_iload_n C dX1_codeOf_14 rfl ?_
  refine gx_ior C dX1_codeOf_15 ?_
  refine gx_zret (mc := 0) C rfl ?_ dX1_codeOf_16
  exact ⟨_, rfl, rfl, rfl⟩
set_option maxHeartbeats 4000000 in
set_option maxRecDepth 100000 in
/-- X1_kindOf -/
theorem k1_kindOf (l : Launch) (D : gD) (A : Nat → Prop) (hs : Nat) {G : gH} (z : Int32) : gM l yX1_kindOf wsX1_kindOf (gR 0) D A hs 0 0 [.int z] G (gPi fun x G' => x = pKind z ∧ G' = G) := by
  refine gM_intro (by decide) rfl rfl (Nat.le_of_ble_eq_true rfl) ?_
  intro p e s m args below meth c C
  refine gx_iload_n C dX1_kindOf_0 rfl ?_
  refine gx_bipush (v := 24) C dX1_kindOf_1 (by decide) ?_
  refine gx_ishr C dX1_kindOf_3 ?_
  refine gx_zret (mc := 0) C rfl ?_ dX1_kindOf_4
  exact ⟨_, rfl, rfl, rfl⟩
set_option maxHeartbeats 4000000 in
set_option maxRecDepth 100000 in
/-- X1_firstOf -/
theorem k1_firstOf (l : Launch) (D : gD) (A : Nat → Prop) (hs : Nat) {G : gH} (z : Int32) : gM l yX1_firstOf wsX1_firstOf (gR 0) D A hs 0 0 [.int z] G (gPi fun x G' => x = pFirst z ∧ G' = G) := by
  refine gM_intro (by decide) rfl rfl (Nat.le_of_ble_eq_true rfl) ?_
  intro p e s m args below meth c C
  refine gx_iload_n C dX1_firstOf_0 rfl ?_
  refine gx_bipush (v := 16) C dX1_firstOf_1 (by decide) ?_
  refine gx_ishr C dX1_firstOf_3 ?_
  refine gx_sipush (v := 255) C dX1_firstOf_4 (by decide) ?_
  refine gx_iand C dX1_firstOf_7 ?_
  refine gx_zret (mc := 0) C rfl ?_ dX1_firstOf_8
  exact ⟨_, rfl, rfl, rfl⟩
set_option maxHeartbeats 4000000 in
set_option maxRecDepth 100000 in
/-- X1_secondOf -/
theorem k1_secondOf (l : Launch) (D : gD) (A : Nat → Prop) (hs : Nat) {G : gH} (z : Int32) : gM l yX1_secondOf wsX1_secondOf (gR 0) D A hs 0 0 [.int z] G (gPi fun x G' => x = pSecond z ∧ G' = G) := by
  refine gM_intro (by decide) rfl rfl (Nat.le_of_ble_eq_true rfl) ?_
  intro p e s m args below meth c C
  refine gx_iload_n C dX1_secondOf_0 rfl ?_
  refine gx_bipush (v := 8) C dX1_secondOf_1 (by decide) ?_
  refine gx_ishr C dX1_secondOf_3 ?_
  refine gx_sipush (v := 255) C dX1_secondOf_4 (by decide) ?_
  refine gx_iand C dX1_secondOf_7 ?_
  refine gx_zret (mc := 0) C rfl ?_ dX1_secondOf_8
  exact ⟨_, rfl, rfl, rfl⟩
set_option maxHeartbeats 4000000 in
set_option maxRecDepth 100000 in
/-- X1_characterOf -/
theorem k1_characterOf (l : Launch) (D : gD) (A : Nat → Prop) (hs : Nat) {G : gH} (z : Int32) : gM l yX1_characterOf wsX1_characterOf (gR 0) D A hs 0 0 [.int z] G (gPi fun x G' => x = pSign z ∧ G' = G) := by
  refine gM_intro (by decide) rfl rfl (Nat.le_of_ble_eq_true rfl) ?_
  intro p e s m args below meth c C
  refine gx_iload_n C dX1_characterOf_0 rfl ?_
  refine gx_sipush (v := 255) C dX1_characterOf_1 (by decide) ?_
  refine gx_iand C dX1_characterOf_4 ?_
  refine gx_zret (mc := 0) C rfl ?_ dX1_characterOf_5
  exact ⟨_, rfl, rfl, rfl⟩
set_option maxHeartbeats 4000000 in
set_option maxRecDepth 100000 in
/-- X1_takesCharacter -/
theorem k1_takesCharacter (l : Launch) (D : gD) (A : Nat → Prop) (hs : Nat) {G : gH} (k : Int32) : gM l yX1_takesCharacter wsX1_takesCharacter (gR 0) D A hs 0 0 [.int k] G (gPi fun x G' => x = pTakes k ∧ G' = G) := by
  refine gM_intro (by decide) rfl rfl (Nat.le_of_ble_eq_true rfl) ?_
  intro p e s m args below meth c C
  refine gx_iload_n C dX1_takesCharacter_0 rfl ?_
  refine gx_iconst (v := 1) C dX1_takesCharacter_1 (by decide) ?_
  refine gx_icmp_eq (tgt := 10) C dX1_takesCharacter_2 (by decide) (fun c_2 => ?_) (fun c_2 => ?_)
  · refine gx_iconst (v := 1) C dX1_takesCharacter_10 (by decide) ?_
    refine gx_goto (tgt := 15) C dX1_takesCharacter_11 (by decide) ?_
    refine gx_zret (mc := 0) C rfl ?_ dX1_takesCharacter_15
    exact ⟨_, rfl, by simp [pTakes, c_2], rfl⟩
  · refine gx_iload_n C dX1_takesCharacter_5 rfl ?_
    refine gx_iconst (v := 2) C dX1_takesCharacter_6 (by decide) ?_
    refine gx_icmp_ne (tgt := 14) C dX1_takesCharacter_7 (by decide) (fun c_7 => ?_) (fun c_7 => ?_)
    · refine gx_iconst (v := 0) C dX1_takesCharacter_14 (by decide) ?_
      refine gx_zret (mc := 0) C rfl ?_ dX1_takesCharacter_15
      exact ⟨_, rfl, by simp [pTakes, c_2, c_7], rfl⟩
    · refine gx_iconst (v := 1) C dX1_takesCharacter_10 (by decide) ?_
      refine gx_goto (tgt := 15) C dX1_takesCharacter_11 (by decide) ?_
      refine gx_zret (mc := 0) C rfl ?_ dX1_takesCharacter_15
      exact ⟨_, rfl, by simp [pTakes, c_2, c_7], rfl⟩
set_option maxHeartbeats 4000000 in
set_option maxRecDepth 100000 in
/-- X1_partOf -/
theorem k1_partOf (l : Launch) (D : gD) (A : Nat → Prop) (hs : Nat) {G : gH} (z w : Int32) : gM l yX1_partOf wsX1_partOf (gR 1) D A hs 0 0 [.int z, .int w] G (gPi fun x G' => x = pPart z w ∧ G' = G) := by
  refine gM_intro (by decide) rfl rfl (Nat.le_of_ble_eq_true rfl) ?_
  intro p e s m args below meth c C
  refine gx_iload_n C dX1_partOf_0 rfl ?_
  refine gx_split 0 (fun c_1_0 => ?_) (fun c_1_0 => ?_)
  · refine gx_tableIn (off := 27) (tgt := 28) C dX1_partOf_1 (by rw [c_1_0]; decide) (by rw [c_1_0]; decide) (by rw [c_1_0]; rfl) (by decide) ?_
    refine gx_iload_n C dX1_partOf_28 rfl ?_
    refine gx_callS C (k1_kindOf l D A hs z) cb_X1_partOf__X1_kindOf gX1_partOf_X1_kindOf rfl rfl (Nat.le_of_ble_eq_true rfl) ⟨Nat.le_refl _, Nat.le_refl _⟩ dX1_partOf_29 (gx_ki fun r_29 G_29 h_29 => ?_)
    obtain ⟨rfl, rfl⟩ := h_29
    refine gx_zret (mc := 0) C rfl ?_ dX1_partOf_32
    exact ⟨_, rfl, by simp [pPart, c_1_0], rfl⟩
  -- else
  refine gx_split 1 (fun c_1_1 => ?_) (fun c_1_1 => ?_)
  · refine gx_tableIn (off := 32) (tgt := 33) C dX1_partOf_1 (by rw [c_1_1]; decide) (by rw [c_1_1]; decide) (by rw [c_1_1]; rfl) (by decide) ?_
    refine gx_iload_n C dX1_partOf_33 rfl ?_
    refine gx_callS C (k1_firstOf l D A hs z) cb_X1_partOf__X1_firstOf gX1_partOf_X1_firstOf rfl rfl (Nat.le_of_ble_eq_true rfl) ⟨Nat.le_refl _, Nat.le_refl _⟩ dX1_partOf_34 (gx_ki fun r_34 G_34 h_34 => ?_)
    obtain ⟨rfl, rfl⟩ := h_34
    refine gx_zret (mc := 0) C rfl ?_ dX1_partOf_37
    exact ⟨_, rfl, by simp [pPart, c_1_0, c_1_1], rfl⟩
  -- else
  refine gx_split 2 (fun c_1_2 => ?_) (fun c_1_2 => ?_)
  · refine gx_tableIn (off := 37) (tgt := 38) C dX1_partOf_1 (by rw [c_1_2]; decide) (by rw [c_1_2]; decide) (by rw [c_1_2]; rfl) (by decide) ?_
    refine gx_iload_n C dX1_partOf_38 rfl ?_
    refine gx_callS C (k1_kindOf l D A hs z) cb_X1_partOf__X1_kindOf gX1_partOf_X1_kindOf rfl rfl (Nat.le_of_ble_eq_true rfl) ⟨Nat.le_refl _, Nat.le_refl _⟩ dX1_partOf_39 (gx_ki fun r_39 G_39 h_39 => ?_)
    obtain ⟨rfl, rfl⟩ := h_39
    refine gx_if_ne (tgt := 52) C dX1_partOf_42 (by decide) (fun c_42 => ?_) (fun c_42 => ?_)
    · refine gx_bipush (v := (-4)) C dX1_partOf_52 (by decide) ?_
      refine gx_zret (mc := 0) C rfl ?_ dX1_partOf_54
      exact ⟨_, rfl, by simp [pPart, c_1_0, c_1_1, c_1_2, c_42], rfl⟩
    · refine gx_iload_n C dX1_partOf_45 rfl ?_
      refine gx_callS C (k1_secondOf l D A hs z) cb_X1_partOf__X1_secondOf gX1_partOf_X1_secondOf rfl rfl (Nat.le_of_ble_eq_true rfl) ⟨Nat.le_refl _, Nat.le_refl _⟩ dX1_partOf_46 (gx_ki fun r_46 G_46 h_46 => ?_)
      obtain ⟨rfl, rfl⟩ := h_46
      refine gx_goto (tgt := 54) C dX1_partOf_49 (by decide) ?_
      refine gx_zret (mc := 0) C rfl ?_ dX1_partOf_54
      exact ⟨_, rfl, by simp [pPart, c_1_0, c_1_1, c_1_2, c_42], rfl⟩
  -- else
  refine gx_tableOut (tgt := 55) C dX1_partOf_1 (by have q_0 := gz_ne (n := 0) (by decide) c_1_0; have q_1 := gz_ne (n := 1) (by decide) c_1_1; have q_2 := gz_ne (n := 2) (by decide) c_1_2; omega) (by decide) ?_
  refine gx_iload_n C dX1_partOf_55 rfl ?_
  refine gx_callS C (k1_kindOf l D A hs z) cb_X1_partOf__X1_kindOf gX1_partOf_X1_kindOf rfl rfl (Nat.le_of_ble_eq_true rfl) ⟨Nat.le_refl _, Nat.le_refl _⟩ dX1_partOf_56 (gx_ki fun r_56 G_56 h_56 => ?_)
  obtain ⟨rfl, rfl⟩ := h_56
  refine gx_callS C (k1_takesCharacter l D A hs (pKind z)) cb_X1_partOf__X1_takesCharacter gX1_partOf_X1_takesCharacter rfl rfl (Nat.le_of_ble_eq_true rfl) ⟨Nat.le_refl _, Nat.le_refl _⟩ dX1_partOf_59 (gx_ki fun r_59 G_59 h_59 => ?_)
  obtain ⟨rfl, rfl⟩ := h_59
  refine gx_if_eq (tgt := 72) C dX1_partOf_62 (by decide) (fun c_62 => ?_) (fun c_62 => ?_)
  · refine gx_bipush (v := (-4)) C dX1_partOf_72 (by decide) ?_
    refine gx_zret (mc := 0) C rfl ?_ dX1_partOf_74
    exact ⟨_, rfl, by simp [pPart, c_1_0, c_1_1, c_1_2, c_62], rfl⟩
  · refine gx_iload_n C dX1_partOf_65 rfl ?_
    refine gx_callS C (k1_characterOf l D A hs z) cb_X1_partOf__X1_characterOf gX1_partOf_X1_characterOf rfl rfl (Nat.le_of_ble_eq_true rfl) ⟨Nat.le_refl _, Nat.le_refl _⟩ dX1_partOf_66 (gx_ki fun r_66 G_66 h_66 => ?_)
    obtain ⟨rfl, rfl⟩ := h_66
    refine gx_goto (tgt := 74) C dX1_partOf_69 (by decide) ?_
    refine gx_zret (mc := 0) C rfl ?_ dX1_partOf_74
    exact ⟨_, rfl, by simp [pPart, c_1_0, c_1_1, c_1_2, c_62], rfl⟩
set_option maxHeartbeats 4000000 in
set_option maxRecDepth 100000 in
/-- X1_isPossible -/
theorem k1_isPossible (l : Launch) (D : gD) (A : Nat → Prop) (hs : Nat) {G : gH} (k a b n : Int32) : gM l yX1_isPossible wsX1_isPossible (gR 0) D A hs 0 0 [.int k, .int a, .int b, .int n] G (gPi fun x G' => x = pOk k a b n ∧ G' = G) := by
  refine gM_intro (by decide) rfl rfl (Nat.le_of_ble_eq_true rfl) ?_
  intro p e s m args below meth c C
  refine gx_iload_n C dX1_isPossible_0 rfl ?_
  refine gx_split 0 (fun c_1_0 => ?_) (fun c_1_0 => ?_)
  · refine gx_tableIn (off := 31) (tgt := 32) C dX1_isPossible_1 (by rw [c_1_0]; decide) (by rw [c_1_0]; decide) (by rw [c_1_0]; rfl) (by decide) ?_
    refine gx_iload_n C dX1_isPossible_32 rfl ?_
    refine gx_iload_n C dX1_isPossible_33 rfl ?_
    refine gx_icmp_ge (tgt := 46) C dX1_isPossible_34 (by decide) (fun c_34 => ?_) (fun c_34 => ?_)
    · refine gx_iconst (v := 0) C dX1_isPossible_46 (by decide) ?_
      refine gx_zret (mc := 0) C rfl ?_ dX1_isPossible_47
      exact ⟨_, rfl, (by first | (simp [pOk, gz_le, gz_lt, c_1_0, c_34]; done) | (simp [pOk, gz_le, gz_lt, c_1_0, c_34]; exact fun h => (Int32.lt_irrefl (Int32.lt_of_lt_of_le h (by assumption))).elim)), rfl⟩
    · refine gx_iload_n C dX1_isPossible_37 rfl ?_
      refine gx_iload_n C dX1_isPossible_38 rfl ?_
      refine gx_icmp_gt (tgt := 46) C dX1_isPossible_39 (by decide) (fun c_39 => ?_) (fun c_39 => ?_)
      · refine gx_iconst (v := 0) C dX1_isPossible_46 (by decide) ?_
        refine gx_zret (mc := 0) C rfl ?_ dX1_isPossible_47
        exact ⟨_, rfl, (by first | (simp [pOk, gz_le, gz_lt, c_1_0, c_34, c_39]; done) | (simp [pOk, gz_le, gz_lt, c_1_0, c_34, c_39]; exact fun h => (Int32.lt_irrefl (Int32.lt_of_lt_of_le h (by assumption))).elim)), rfl⟩
      · refine gx_iconst (v := 1) C dX1_isPossible_42 (by decide) ?_
        refine gx_goto (tgt := 47) C dX1_isPossible_43 (by decide) ?_
        refine gx_zret (mc := 0) C rfl ?_ dX1_isPossible_47
        exact ⟨_, rfl, (by first | (simp [pOk, gz_le, gz_lt, c_1_0, c_34, c_39]; done) | (simp [pOk, gz_le, gz_lt, c_1_0, c_34, c_39]; exact fun h => (Int32.lt_irrefl (Int32.lt_of_lt_of_le h (by assumption))).elim)), rfl⟩
  -- else
  refine gx_split 1 (fun c_1_1 => ?_) (fun c_1_1 => ?_)
  · refine gx_tableIn (off := 47) (tgt := 48) C dX1_isPossible_1 (by rw [c_1_1]; decide) (by rw [c_1_1]; decide) (by rw [c_1_1]; rfl) (by decide) ?_
    refine gx_iload_n C dX1_isPossible_48 rfl ?_
    refine gx_iload_n C dX1_isPossible_49 rfl ?_
    refine gx_icmp_gt (tgt := 57) C dX1_isPossible_50 (by decide) (fun c_50 => ?_) (fun c_50 => ?_)
    · refine gx_iconst (v := 0) C dX1_isPossible_57 (by decide) ?_
      refine gx_zret (mc := 0) C rfl ?_ dX1_isPossible_58
      exact ⟨_, rfl, (by first | (simp [pOk, gz_le, gz_lt, c_1_0, c_1_1, c_50]; done) | (simp [pOk, gz_le, gz_lt, c_1_0, c_1_1, c_50]; exact fun h => (Int32.lt_irrefl (Int32.lt_of_lt_of_le h (by assumption))).elim)), rfl⟩
    · refine gx_iconst (v := 1) C dX1_isPossible_53 (by decide) ?_
      refine gx_goto (tgt := 58) C dX1_isPossible_54 (by decide) ?_
      refine gx_zret (mc := 0) C rfl ?_ dX1_isPossible_58
      exact ⟨_, rfl, (by first | (simp [pOk, gz_le, gz_lt, c_1_0, c_1_1, c_50]; done) | (simp [pOk, gz_le, gz_lt, c_1_0, c_1_1, c_50]; exact fun h => (Int32.lt_irrefl (Int32.lt_of_lt_of_le h (by assumption))).elim)), rfl⟩
  -- else
  refine gx_split 2 (fun c_1_2 => ?_) (fun c_1_2 => ?_)
  · refine gx_tableIn (off := 71) (tgt := 72) C dX1_isPossible_1 (by rw [c_1_2]; decide) (by rw [c_1_2]; decide) (by rw [c_1_2]; rfl) (by decide) ?_
    refine gx_iload_n C dX1_isPossible_72 rfl ?_
    refine gx_iload_n C dX1_isPossible_73 rfl ?_
    refine gx_icmp_ge (tgt := 81) C dX1_isPossible_74 (by decide) (fun c_74 => ?_) (fun c_74 => ?_)
    · refine gx_iconst (v := 0) C dX1_isPossible_81 (by decide) ?_
      refine gx_zret (mc := 0) C rfl ?_ dX1_isPossible_82
      exact ⟨_, rfl, (by first | (simp [pOk, gz_le, gz_lt, c_1_0, c_1_1, c_1_2, c_74]; done) | (simp [pOk, gz_le, gz_lt, c_1_0, c_1_1, c_1_2, c_74]; exact fun h => (Int32.lt_irrefl (Int32.lt_of_lt_of_le h (by assumption))).elim)), rfl⟩
    · refine gx_iconst (v := 1) C dX1_isPossible_77 (by decide) ?_
      refine gx_goto (tgt := 82) C dX1_isPossible_78 (by decide) ?_
      refine gx_zret (mc := 0) C rfl ?_ dX1_isPossible_82
      exact ⟨_, rfl, (by first | (simp [pOk, gz_le, gz_lt, c_1_0, c_1_1, c_1_2, c_74]; done) | (simp [pOk, gz_le, gz_lt, c_1_0, c_1_1, c_1_2, c_74]; exact fun h => (Int32.lt_irrefl (Int32.lt_of_lt_of_le h (by assumption))).elim)), rfl⟩
  -- else
  refine gx_split 3 (fun c_1_3 => ?_) (fun c_1_3 => ?_)
  · refine gx_tableIn (off := 58) (tgt := 59) C dX1_isPossible_1 (by rw [c_1_3]; decide) (by rw [c_1_3]; decide) (by rw [c_1_3]; rfl) (by decide) ?_
    refine gx_iload_n C dX1_isPossible_59 rfl ?_
    refine gx_iconst (v := 1) C dX1_isPossible_60 (by decide) ?_
    refine gx_iadd C dX1_isPossible_61 ?_
    refine gx_iload_n C dX1_isPossible_62 rfl ?_
    refine gx_icmp_ge (tgt := 70) C dX1_isPossible_63 (by decide) (fun c_63 => ?_) (fun c_63 => ?_)
    · refine gx_iconst (v := 0) C dX1_isPossible_70 (by decide) ?_
      refine gx_zret (mc := 0) C rfl ?_ dX1_isPossible_71
      exact ⟨_, rfl, (by first | (simp [pOk, gz_le, gz_lt, c_1_0, c_1_1, c_1_2, c_1_3, c_63]; done) | (simp [pOk, gz_le, gz_lt, c_1_0, c_1_1, c_1_2, c_1_3, c_63]; exact fun h => (Int32.lt_irrefl (Int32.lt_of_lt_of_le h (by assumption))).elim)), rfl⟩
    · refine gx_iconst (v := 1) C dX1_isPossible_66 (by decide) ?_
      refine gx_goto (tgt := 71) C dX1_isPossible_67 (by decide) ?_
      refine gx_zret (mc := 0) C rfl ?_ dX1_isPossible_71
      exact ⟨_, rfl, (by first | (simp [pOk, gz_le, gz_lt, c_1_0, c_1_1, c_1_2, c_1_3, c_63]; done) | (simp [pOk, gz_le, gz_lt, c_1_0, c_1_1, c_1_2, c_1_3, c_63]; exact fun h => (Int32.lt_irrefl (Int32.lt_of_lt_of_le h (by assumption))).elim)), rfl⟩
  -- else
  refine gx_tableOut (tgt := 72) C dX1_isPossible_1 (by have q_0 := gz_ne (n := 0) (by decide) c_1_0; have q_1 := gz_ne (n := 1) (by decide) c_1_1; have q_2 := gz_ne (n := 2) (by decide) c_1_2; have q_3 := gz_ne (n := 3) (by decide) c_1_3; omega) (by decide) ?_
  refine gx_iload_n C dX1_isPossible_72 rfl ?_
  refine gx_iload_n C dX1_isPossible_73 rfl ?_
  refine gx_icmp_ge (tgt := 81) C dX1_isPossible_74 (by decide) (fun c_74 => ?_) (fun c_74 => ?_)
  · refine gx_iconst (v := 0) C dX1_isPossible_81 (by decide) ?_
    refine gx_zret (mc := 0) C rfl ?_ dX1_isPossible_82
    exact ⟨_, rfl, (by first | (simp [pOk, gz_le, gz_lt, c_1_0, c_1_1, c_1_2, c_1_3, c_74]; done) | (simp [pOk, gz_le, gz_lt, c_1_0, c_1_1, c_1_2, c_1_3, c_74]; exact fun h => (Int32.lt_irrefl (Int32.lt_of_lt_of_le h (by assumption))).elim)), rfl⟩
  · refine gx_iconst (v := 1) C dX1_isPossible_77 (by decide) ?_
    refine gx_goto (tgt := 82) C dX1_isPossible_78 (by decide) ?_
    refine gx_zret (mc := 0) C rfl ?_ dX1_isPossible_82
    exact ⟨_, rfl, (by first | (simp [pOk, gz_le, gz_lt, c_1_0, c_1_1, c_1_2, c_1_3, c_74]; done) | (simp [pOk, gz_le, gz_lt, c_1_0, c_1_1, c_1_2, c_1_3, c_74]; exact fun h => (Int32.lt_irrefl (Int32.lt_of_lt_of_le h (by assumption))).elim)), rfl⟩
set_option maxHeartbeats 4000000 in
set_option maxRecDepth 100000 in
/-- X1_endOf -/
theorem k1_endOf (l : Launch) (D : gD) (A : Nat → Prop) (hs : Nat) {G : gH} (z : Int32) : gM l yX1_endOf wsX1_endOf (gR 1) D A hs 0 0 [.int z] G (gPi fun x G' => x = pEnd z ∧ G' = G) := by
  refine gM_intro (by decide) rfl rfl (Nat.le_of_ble_eq_true rfl) ?_
  intro p e s m args below meth c C
  refine gx_iload_n C dX1_endOf_0 rfl ?_
  refine gx_callS C (k1_kindOf l D A hs z) cb_X1_endOf__X1_kindOf gX1_endOf_X1_kindOf rfl rfl (Nat.le_of_ble_eq_true rfl) ⟨Nat.le_refl _, Nat.le_refl _⟩ dX1_endOf_1 (gx_ki fun r_1 G_1 h_1 => ?_)
  obtain ⟨rfl, rfl⟩ := h_1
  refine gx_split 0 (fun c_4_0 => ?_) (fun c_4_0 => ?_)
  · refine gx_tableIn (off := 32) (tgt := 36) C dX1_endOf_4 (by rw [c_4_0]; decide) (by rw [c_4_0]; decide) (by rw [c_4_0]; rfl) (by decide) ?_
    refine gx_iload_n C dX1_endOf_36 rfl ?_
    refine gx_callS C (k1_secondOf l D A hs z) cb_X1_endOf__X1_secondOf gX1_endOf_X1_secondOf rfl rfl (Nat.le_of_ble_eq_true rfl) ⟨Nat.le_refl _, Nat.le_refl _⟩ dX1_endOf_37 (gx_ki fun r_37 G_37 h_37 => ?_)
    obtain ⟨rfl, rfl⟩ := h_37
    refine gx_zret (mc := 0) C rfl ?_ dX1_endOf_40
    exact ⟨_, rfl, by simp [pEnd, c_4_0], rfl⟩
  -- else
  refine gx_split 1 (fun c_4_1 => ?_) (fun c_4_1 => ?_)
  · refine gx_tableIn (off := 37) (tgt := 41) C dX1_endOf_4 (by rw [c_4_1]; decide) (by rw [c_4_1]; decide) (by rw [c_4_1]; rfl) (by decide) ?_
    refine gx_iload_n C dX1_endOf_41 rfl ?_
    refine gx_callS C (k1_firstOf l D A hs z) cb_X1_endOf__X1_firstOf gX1_endOf_X1_firstOf rfl rfl (Nat.le_of_ble_eq_true rfl) ⟨Nat.le_refl _, Nat.le_refl _⟩ dX1_endOf_42 (gx_ki fun r_42 G_42 h_42 => ?_)
    obtain ⟨rfl, rfl⟩ := h_42
    refine gx_zret (mc := 0) C rfl ?_ dX1_endOf_45
    exact ⟨_, rfl, by simp [pEnd, c_4_0, c_4_1], rfl⟩
  -- else
  refine gx_split 2 (fun c_4_2 => ?_) (fun c_4_2 => ?_)
  · refine gx_tableIn (off := 49) (tgt := 53) C dX1_endOf_4 (by rw [c_4_2]; decide) (by rw [c_4_2]; decide) (by rw [c_4_2]; rfl) (by decide) ?_
    refine gx_iload_n C dX1_endOf_53 rfl ?_
    refine gx_callS C (k1_firstOf l D A hs z) cb_X1_endOf__X1_firstOf gX1_endOf_X1_firstOf rfl rfl (Nat.le_of_ble_eq_true rfl) ⟨Nat.le_refl _, Nat.le_refl _⟩ dX1_endOf_54 (gx_ki fun r_54 G_54 h_54 => ?_)
    obtain ⟨rfl, rfl⟩ := h_54
    refine gx_iconst (v := 1) C dX1_endOf_57 (by decide) ?_
    refine gx_iadd C dX1_endOf_58 ?_
    refine gx_zret (mc := 0) C rfl ?_ dX1_endOf_59
    exact ⟨_, rfl, by simp [pEnd, c_4_0, c_4_1, c_4_2], rfl⟩
  -- else
  refine gx_split 3 (fun c_4_3 => ?_) (fun c_4_3 => ?_)
  · refine gx_tableIn (off := 42) (tgt := 46) C dX1_endOf_4 (by rw [c_4_3]; decide) (by rw [c_4_3]; decide) (by rw [c_4_3]; rfl) (by decide) ?_
    refine gx_iload_n C dX1_endOf_46 rfl ?_
    refine gx_callS C (k1_firstOf l D A hs z) cb_X1_endOf__X1_firstOf gX1_endOf_X1_firstOf rfl rfl (Nat.le_of_ble_eq_true rfl) ⟨Nat.le_refl _, Nat.le_refl _⟩ dX1_endOf_47 (gx_ki fun r_47 G_47 h_47 => ?_)
    obtain ⟨rfl, rfl⟩ := h_47
    refine gx_iconst (v := 2) C dX1_endOf_50 (by decide) ?_
    refine gx_iadd C dX1_endOf_51 ?_
    refine gx_zret (mc := 0) C rfl ?_ dX1_endOf_52
    exact ⟨_, rfl, by simp [pEnd, c_4_0, c_4_1, c_4_2, c_4_3], rfl⟩
  -- else
  refine gx_tableOut (tgt := 53) C dX1_endOf_4 (by have q_0 := gz_ne (n := 0) (by decide) c_4_0; have q_1 := gz_ne (n := 1) (by decide) c_4_1; have q_2 := gz_ne (n := 2) (by decide) c_4_2; have q_3 := gz_ne (n := 3) (by decide) c_4_3; omega) (by decide) ?_
  refine gx_iload_n C dX1_endOf_53 rfl ?_
  refine gx_callS C (k1_firstOf l D A hs z) cb_X1_endOf__X1_firstOf gX1_endOf_X1_firstOf rfl rfl (Nat.le_of_ble_eq_true rfl) ⟨Nat.le_refl _, Nat.le_refl _⟩ dX1_endOf_54 (gx_ki fun r_54 G_54 h_54 => ?_)
  obtain ⟨rfl, rfl⟩ := h_54
  refine gx_iconst (v := 1) C dX1_endOf_57 (by decide) ?_
  refine gx_iadd C dX1_endOf_58 ?_
  refine gx_zret (mc := 0) C rfl ?_ dX1_endOf_59
  exact ⟨_, rfl, by simp [pEnd, c_4_0, c_4_1, c_4_2, c_4_3], rfl⟩
set_option maxHeartbeats 4000000 in
set_option maxRecDepth 100000 in
/-- X1_areOpposed -/
theorem k1_areOpposed (l : Launch) (D : gD) (A : Nat → Prop) (hs : Nat) {G : gH} (z w : Int32) : gM l yX1_areOpposed wsX1_areOpposed (gR 2) D A hs 0 0 [.int z, .int w] G (gPi fun x G' => x = pOpp z w ∧ G' = G) := by
  refine gM_intro (by decide) rfl rfl (Nat.le_of_ble_eq_true rfl) ?_
  intro p e s m args below meth c C
  refine gx_iload_n C dX1_areOpposed_0 rfl ?_
  refine gx_callS C (k1_kindOf l D A hs z) cb_X1_areOpposed__X1_kindOf gX1_areOpposed_X1_kindOf rfl rfl (Nat.le_of_ble_eq_true rfl) ⟨Nat.le_refl _, Nat.le_refl _⟩ dX1_areOpposed_1 (gx_ki fun r_1 G_1 h_1 => ?_)
  obtain ⟨rfl, rfl⟩ := h_1
  refine gx_istore_n C dX1_areOpposed_4 (by decide) ?_
  refine gx_iload_n C dX1_areOpposed_5 rfl ?_
  refine gx_callS C (k1_kindOf l D A hs w) cb_X1_areOpposed__X1_kindOf gX1_areOpposed_X1_kindOf rfl rfl (Nat.le_of_ble_eq_true rfl) ⟨Nat.le_refl _, Nat.le_refl _⟩ dX1_areOpposed_6 (gx_ki fun r_6 G_6 h_6 => ?_)
  obtain ⟨rfl, rfl⟩ := h_6
  refine gx_istore_n C dX1_areOpposed_9 (by decide) ?_
  refine gx_iload_n C dX1_areOpposed_10 rfl ?_
  refine gx_iload_n C dX1_areOpposed_11 rfl ?_
  refine gx_icmp_eq (tgt := 25) C dX1_areOpposed_12 (by decide) (fun c_12 => ?_) (fun c_12 => ?_)
  · refine gx_iconst (v := 0) C dX1_areOpposed_25 (by decide) ?_
    refine gx_zret (mc := 0) C rfl ?_ dX1_areOpposed_26
    exact ⟨_, rfl, by first | (simp [pOpp, gz_le, gz_lt, c_12]; done) | (simp [pOpp, gz_le, gz_lt, c_12]; exact fun h => (Int32.lt_irrefl (Int32.lt_of_lt_of_le h (by assumption))).elim), rfl⟩
  · refine gx_iload_n C dX1_areOpposed_15 rfl ?_
    refine gx_iconst (v := 5) C dX1_areOpposed_16 (by decide) ?_
    refine gx_icmp_eq (tgt := 25) C dX1_areOpposed_17 (by decide) (fun c_17 => ?_) (fun c_17 => ?_)
    · refine gx_iconst (v := 0) C dX1_areOpposed_25 (by decide) ?_
      refine gx_zret (mc := 0) C rfl ?_ dX1_areOpposed_26
      exact ⟨_, rfl, by first | (simp [pOpp, gz_le, gz_lt, c_12, c_17]; done) | (simp [pOpp, gz_le, gz_lt, c_12, c_17]; exact fun h => (Int32.lt_irrefl (Int32.lt_of_lt_of_le h (by assumption))).elim), rfl⟩
    · refine gx_iload_n C dX1_areOpposed_20 rfl ?_
      refine gx_iconst (v := 5) C dX1_areOpposed_21 (by decide) ?_
      refine gx_icmp_ne (tgt := 27) C dX1_areOpposed_22 (by decide) (fun c_22 => ?_) (fun c_22 => ?_)
      · refine gx_iload_n C dX1_areOpposed_27 rfl ?_
        refine gx_iconst (v := 1) C dX1_areOpposed_28 (by decide) ?_
        refine gx_icmp_ne (tgt := 54) C dX1_areOpposed_29 (by decide) (fun c_29 => ?_) (fun c_29 => ?_)
        · refine gx_iload_n C dX1_areOpposed_54 rfl ?_
          refine gx_callS C (k1_firstOf l D A hs z) cb_X1_areOpposed__X1_firstOf gX1_areOpposed_X1_firstOf rfl rfl (Nat.le_of_ble_eq_true rfl) ⟨Nat.le_refl _, Nat.le_refl _⟩ dX1_areOpposed_55 (gx_ki fun r_55 G_55 h_55 => ?_)
          obtain ⟨rfl, rfl⟩ := h_55
          refine gx_iload_n C dX1_areOpposed_58 rfl ?_
          refine gx_callS C (k1_endOf l D A hs w) cb_X1_areOpposed__X1_endOf gX1_areOpposed_X1_endOf rfl rfl (Nat.le_of_ble_eq_true rfl) ⟨Nat.le_refl _, Nat.le_refl _⟩ dX1_areOpposed_59 (gx_ki fun r_59 G_59 h_59 => ?_)
          obtain ⟨rfl, rfl⟩ := h_59
          refine gx_icmp_ge (tgt := 80) C dX1_areOpposed_62 (by decide) (fun c_62 => ?_) (fun c_62 => ?_)
          · refine gx_iconst (v := 0) C dX1_areOpposed_80 (by decide) ?_
            refine gx_zret (mc := 0) C rfl ?_ dX1_areOpposed_81
            exact ⟨_, rfl, by first | (simp [pOpp, gz_le, gz_lt, c_12, c_17, c_22, c_29, c_62]; done) | (simp [pOpp, gz_le, gz_lt, c_12, c_17, c_22, c_29, c_62]; exact fun h => (Int32.lt_irrefl (Int32.lt_of_lt_of_le h (by assumption))).elim), rfl⟩
          · refine gx_iload_n C dX1_areOpposed_65 rfl ?_
            refine gx_callS C (k1_firstOf l D A hs w) cb_X1_areOpposed__X1_firstOf gX1_areOpposed_X1_firstOf rfl rfl (Nat.le_of_ble_eq_true rfl) ⟨Nat.le_refl _, Nat.le_refl _⟩ dX1_areOpposed_66 (gx_ki fun r_66 G_66 h_66 => ?_)
            obtain ⟨rfl, rfl⟩ := h_66
            refine gx_iload_n C dX1_areOpposed_69 rfl ?_
            refine gx_callS C (k1_endOf l D A hs z) cb_X1_areOpposed__X1_endOf gX1_areOpposed_X1_endOf rfl rfl (Nat.le_of_ble_eq_true rfl) ⟨Nat.le_refl _, Nat.le_refl _⟩ dX1_areOpposed_70 (gx_ki fun r_70 G_70 h_70 => ?_)
            obtain ⟨rfl, rfl⟩ := h_70
            refine gx_icmp_ge (tgt := 80) C dX1_areOpposed_73 (by decide) (fun c_73 => ?_) (fun c_73 => ?_)
            · refine gx_iconst (v := 0) C dX1_areOpposed_80 (by decide) ?_
              refine gx_zret (mc := 0) C rfl ?_ dX1_areOpposed_81
              exact ⟨_, rfl, by first | (simp [pOpp, gz_le, gz_lt, c_12, c_17, c_22, c_29, c_62, c_73]; done) | (simp [pOpp, gz_le, gz_lt, c_12, c_17, c_22, c_29, c_62, c_73]; exact fun h => (Int32.lt_irrefl (Int32.lt_of_lt_of_le h (by assumption))).elim), rfl⟩
            · refine gx_iconst (v := 1) C dX1_areOpposed_76 (by decide) ?_
              refine gx_goto (tgt := 81) C dX1_areOpposed_77 (by decide) ?_
              refine gx_zret (mc := 0) C rfl ?_ dX1_areOpposed_81
              exact ⟨_, rfl, by first | (simp [pOpp, gz_le, gz_lt, c_12, c_17, c_22, c_29, c_62, c_73]; done) | (simp [pOpp, gz_le, gz_lt, c_12, c_17, c_22, c_29, c_62, c_73]; exact fun h => (Int32.lt_irrefl (Int32.lt_of_lt_of_le h (by assumption))).elim), rfl⟩
        · refine gx_iload_n C dX1_areOpposed_32 rfl ?_
          refine gx_iconst (v := 1) C dX1_areOpposed_33 (by decide) ?_
          refine gx_icmp_ne (tgt := 54) C dX1_areOpposed_34 (by decide) (fun c_34 => ?_) (fun c_34 => ?_)
          · refine gx_iload_n C dX1_areOpposed_54 rfl ?_
            refine gx_callS C (k1_firstOf l D A hs z) cb_X1_areOpposed__X1_firstOf gX1_areOpposed_X1_firstOf rfl rfl (Nat.le_of_ble_eq_true rfl) ⟨Nat.le_refl _, Nat.le_refl _⟩ dX1_areOpposed_55 (gx_ki fun r_55 G_55 h_55 => ?_)
            obtain ⟨rfl, rfl⟩ := h_55
            refine gx_iload_n C dX1_areOpposed_58 rfl ?_
            refine gx_callS C (k1_endOf l D A hs w) cb_X1_areOpposed__X1_endOf gX1_areOpposed_X1_endOf rfl rfl (Nat.le_of_ble_eq_true rfl) ⟨Nat.le_refl _, Nat.le_refl _⟩ dX1_areOpposed_59 (gx_ki fun r_59 G_59 h_59 => ?_)
            obtain ⟨rfl, rfl⟩ := h_59
            refine gx_icmp_ge (tgt := 80) C dX1_areOpposed_62 (by decide) (fun c_62 => ?_) (fun c_62 => ?_)
            · refine gx_iconst (v := 0) C dX1_areOpposed_80 (by decide) ?_
              refine gx_zret (mc := 0) C rfl ?_ dX1_areOpposed_81
              exact ⟨_, rfl, by first | (simp [pOpp, gz_le, gz_lt, c_12, c_17, c_22, c_29, c_34, c_62]; done) | (simp [pOpp, gz_le, gz_lt, c_12, c_17, c_22, c_29, c_34, c_62]; exact fun h => (Int32.lt_irrefl (Int32.lt_of_lt_of_le h (by assumption))).elim), rfl⟩
            · refine gx_iload_n C dX1_areOpposed_65 rfl ?_
              refine gx_callS C (k1_firstOf l D A hs w) cb_X1_areOpposed__X1_firstOf gX1_areOpposed_X1_firstOf rfl rfl (Nat.le_of_ble_eq_true rfl) ⟨Nat.le_refl _, Nat.le_refl _⟩ dX1_areOpposed_66 (gx_ki fun r_66 G_66 h_66 => ?_)
              obtain ⟨rfl, rfl⟩ := h_66
              refine gx_iload_n C dX1_areOpposed_69 rfl ?_
              refine gx_callS C (k1_endOf l D A hs z) cb_X1_areOpposed__X1_endOf gX1_areOpposed_X1_endOf rfl rfl (Nat.le_of_ble_eq_true rfl) ⟨Nat.le_refl _, Nat.le_refl _⟩ dX1_areOpposed_70 (gx_ki fun r_70 G_70 h_70 => ?_)
              obtain ⟨rfl, rfl⟩ := h_70
              refine gx_icmp_ge (tgt := 80) C dX1_areOpposed_73 (by decide) (fun c_73 => ?_) (fun c_73 => ?_)
              · refine gx_iconst (v := 0) C dX1_areOpposed_80 (by decide) ?_
                refine gx_zret (mc := 0) C rfl ?_ dX1_areOpposed_81
                exact ⟨_, rfl, by first | (simp [pOpp, gz_le, gz_lt, c_12, c_17, c_22, c_29, c_34, c_62, c_73]; done) | (simp [pOpp, gz_le, gz_lt, c_12, c_17, c_22, c_29, c_34, c_62, c_73]; exact fun h => (Int32.lt_irrefl (Int32.lt_of_lt_of_le h (by assumption))).elim), rfl⟩
              · refine gx_iconst (v := 1) C dX1_areOpposed_76 (by decide) ?_
                refine gx_goto (tgt := 81) C dX1_areOpposed_77 (by decide) ?_
                refine gx_zret (mc := 0) C rfl ?_ dX1_areOpposed_81
                exact ⟨_, rfl, by first | (simp [pOpp, gz_le, gz_lt, c_12, c_17, c_22, c_29, c_34, c_62, c_73]; done) | (simp [pOpp, gz_le, gz_lt, c_12, c_17, c_22, c_29, c_34, c_62, c_73]; exact fun h => (Int32.lt_irrefl (Int32.lt_of_lt_of_le h (by assumption))).elim), rfl⟩
          · refine gx_iload_n C dX1_areOpposed_37 rfl ?_
            refine gx_callS C (k1_firstOf l D A hs z) cb_X1_areOpposed__X1_firstOf gX1_areOpposed_X1_firstOf rfl rfl (Nat.le_of_ble_eq_true rfl) ⟨Nat.le_refl _, Nat.le_refl _⟩ dX1_areOpposed_38 (gx_ki fun r_38 G_38 h_38 => ?_)
            obtain ⟨rfl, rfl⟩ := h_38
            refine gx_iload_n C dX1_areOpposed_41 rfl ?_
            refine gx_callS C (k1_firstOf l D A hs w) cb_X1_areOpposed__X1_firstOf gX1_areOpposed_X1_firstOf rfl rfl (Nat.le_of_ble_eq_true rfl) ⟨Nat.le_refl _, Nat.le_refl _⟩ dX1_areOpposed_42 (gx_ki fun r_42 G_42 h_42 => ?_)
            obtain ⟨rfl, rfl⟩ := h_42
            refine gx_icmp_ne (tgt := 52) C dX1_areOpposed_45 (by decide) (fun c_45 => ?_) (fun c_45 => ?_)
            · refine gx_iconst (v := 0) C dX1_areOpposed_52 (by decide) ?_
              refine gx_zret (mc := 0) C rfl ?_ dX1_areOpposed_53
              exact ⟨_, rfl, by first | (simp [pOpp, gz_le, gz_lt, c_12, c_17, c_22, c_29, c_34, c_45]; done) | (simp [pOpp, gz_le, gz_lt, c_12, c_17, c_22, c_29, c_34, c_45]; exact fun h => (Int32.lt_irrefl (Int32.lt_of_lt_of_le h (by assumption))).elim), rfl⟩
            · refine gx_iconst (v := 1) C dX1_areOpposed_48 (by decide) ?_
              refine gx_goto (tgt := 53) C dX1_areOpposed_49 (by decide) ?_
              refine gx_zret (mc := 0) C rfl ?_ dX1_areOpposed_53
              exact ⟨_, rfl, by first | (simp [pOpp, gz_le, gz_lt, c_12, c_17, c_22, c_29, c_34, c_45]; done) | (simp [pOpp, gz_le, gz_lt, c_12, c_17, c_22, c_29, c_34, c_45]; exact fun h => (Int32.lt_irrefl (Int32.lt_of_lt_of_le h (by assumption))).elim), rfl⟩
      · refine gx_iconst (v := 0) C dX1_areOpposed_25 (by decide) ?_
        refine gx_zret (mc := 0) C rfl ?_ dX1_areOpposed_26
        exact ⟨_, rfl, by first | (simp [pOpp, gz_le, gz_lt, c_12, c_17, c_22]; done) | (simp [pOpp, gz_le, gz_lt, c_12, c_17, c_22]; exact fun h => (Int32.lt_irrefl (Int32.lt_of_lt_of_le h (by assumption))).elim), rfl⟩
set_option maxHeartbeats 4000000 in
set_option maxRecDepth 100000 in
/-- X8_isOutside -/
theorem k8_isOutside (l : Launch) (D : gD) (A : Nat → Prop) (hs : Nat) {G : gH} (z a b : Int32) : gM l yX8_isOutside wsX8_isOutside (gR 0) D A hs 0 0 [.int z, .int a, .int b] G (gPi fun x G' => x = pOut z a b ∧ G' = G) := by
  refine gM_intro (by decide) rfl rfl (Nat.le_of_ble_eq_true rfl) ?_
  intro p e s m args below meth c C
  refine gx_iload_n C dX8_isOutside_0 rfl ?_
  refine gx_iload_n C dX8_isOutside_1 rfl ?_
  refine gx_icmp_lt (tgt := 10) C dX8_isOutside_2 (by decide) (fun c_2 => ?_) (fun c_2 => ?_)
  · refine gx_iconst (v := 1) C dX8_isOutside_10 (by decide) ?_
    refine gx_goto (tgt := 15) C dX8_isOutside_11 (by decide) ?_
    refine gx_zret (mc := 0) C rfl ?_ dX8_isOutside_15
    exact ⟨_, rfl, by first | (simp [pOut, gz_le, gz_lt, c_2]; done) | (simp [pOut, gz_le, gz_lt, c_2]; exact fun h => (Int32.lt_irrefl (Int32.lt_of_lt_of_le h (by assumption))).elim), rfl⟩
  · refine gx_iload_n C dX8_isOutside_5 rfl ?_
    refine gx_iload_n C dX8_isOutside_6 rfl ?_
    refine gx_icmp_le (tgt := 14) C dX8_isOutside_7 (by decide) (fun c_7 => ?_) (fun c_7 => ?_)
    · refine gx_iconst (v := 0) C dX8_isOutside_14 (by decide) ?_
      refine gx_zret (mc := 0) C rfl ?_ dX8_isOutside_15
      exact ⟨_, rfl, by first | (simp [pOut, gz_le, gz_lt, c_2, c_7]; done) | (simp [pOut, gz_le, gz_lt, c_2, c_7]; exact fun h => (Int32.lt_irrefl (Int32.lt_of_lt_of_le h (by assumption))).elim), rfl⟩
    · refine gx_iconst (v := 1) C dX8_isOutside_10 (by decide) ?_
      refine gx_goto (tgt := 15) C dX8_isOutside_11 (by decide) ?_
      refine gx_zret (mc := 0) C rfl ?_ dX8_isOutside_15
      exact ⟨_, rfl, by first | (simp [pOut, gz_le, gz_lt, c_2, c_7]; done) | (simp [pOut, gz_le, gz_lt, c_2, c_7]; exact fun h => (Int32.lt_irrefl (Int32.lt_of_lt_of_le h (by assumption))).elim), rfl⟩
end
section
/-! ROW: the walks with loops -/
theorem gz_pred {n : Nat} (h : 1 ≤ n) : nI n - 1 = nI (n - 1) := pk_sub (a := n) (b := 1) h
theorem cb_X5_fill__X5_append : gCb yX5_append cX5_append 2 none wsX5_append (gR 0) (gR 1) 0 0 1 := ⟨rfl, rfl, rfl, by decide +kernel, by decide⟩
set_option maxRecDepth 20000 in
theorem in_X5_fill_X5 : ∀ w ∈ wsX50, w ∈ wsX5_fill := by decide +kernel
set_option maxRecDepth 20000 in
theorem fd_X5_fill_13 : gFd wsX5_fill RX5 13 4 RX5 TX5 2 1 := ⟨in_X5_fill_X5, rfl, by decide, by decide +kernel⟩
set_option maxRecDepth 20000 in
theorem in_X5_copyFrom_X5 : ∀ w ∈ wsX50, w ∈ wsX5_copyFrom := by decide +kernel
set_option maxRecDepth 20000 in
theorem fd_X5_copyFrom_13 : gFd wsX5_copyFrom RX5 13 4 RX5 TX5 2 1 := ⟨in_X5_copyFrom_X5, rfl, by decide, by decide +kernel⟩
set_option maxRecDepth 20000 in
theorem fd_X5_copyFrom_7 : gFd wsX5_copyFrom RX5 7 4 RX5 TX5 2 0 := ⟨in_X5_copyFrom_X5, rfl, by decide, by decide +kernel⟩
set_option maxRecDepth 20000 in
theorem in_X5_remove_X5 : ∀ w ∈ wsX50, w ∈ wsX5_remove := by decide +kernel
set_option maxRecDepth 20000 in
theorem fd_X5_remove_13 : gFd wsX5_remove RX5 13 4 RX5 TX5 2 1 := ⟨in_X5_remove_X5, rfl, by decide, by decide +kernel⟩
theorem cb_X5_remove__X5_get : gCb yX5_get cX5_get 2 (some .int) wsX5_get (gR 1) (gR 2) 0 0 1 := ⟨rfl, rfl, rfl, by decide +kernel, by decide⟩
theorem cb_X5_remove__X5_set : gCb yX5_set cX5_set 3 none wsX5_set (gR 1) (gR 2) 0 0 2 := ⟨rfl, rfl, rfl, by decide +kernel, by decide⟩
theorem cb_X5_remove__X5_hasNot : gCb yX5_hasNot cX5_hasNot 2 (some .boolean) wsX5_hasNot (gR 0) (gR 2) 0 0 1 := ⟨rfl, rfl, rfl, by decide +kernel, by decide⟩
theorem cb_X5_insert__X5_set : gCb yX5_set cX5_set 3 none wsX5_set (gR 1) (gR 2) 0 0 2 := ⟨rfl, rfl, rfl, by decide +kernel, by decide⟩
theorem cb_X5_insert__X5_get : gCb yX5_get cX5_get 2 (some .int) wsX5_get (gR 1) (gR 2) 0 0 1 := ⟨rfl, rfl, rfl, by decide +kernel, by decide⟩
set_option maxRecDepth 20000 in
theorem in_X5_insert_X5 : ∀ w ∈ wsX50, w ∈ wsX5_insert := by decide +kernel
set_option maxRecDepth 20000 in
theorem fd_X5_insert_13 : gFd wsX5_insert RX5 13 4 RX5 TX5 2 1 := ⟨in_X5_insert_X5, rfl, by decide, by decide +kernel⟩
set_option maxRecDepth 20000 in
theorem fd_X5_insert_7 : gFd wsX5_insert RX5 7 4 RX5 TX5 2 0 := ⟨in_X5_insert_X5, rfl, by decide, by decide +kernel⟩
theorem cb_X5_insert__X5_append : gCb yX5_append cX5_append 2 none wsX5_append (gR 0) (gR 2) 0 0 1 := ⟨rfl, rfl, rfl, by decide +kernel, by decide⟩
set_option maxHeartbeats 4000000 in
set_option maxRecDepth 100000 in
/-- Row.fill -/
theorem k5_fill (l : Launch) (D : gD) (A : Nat → Prop) (hs : Nat) {G : gH} {r cap : Nat} {xs : List Int32} (mn : Nat) (v : Int32) (hr : gRow D G r cap xs) (hm : mn ≤ cap) : gM l yX5_fill wsX5_fill (gR 1) D A hs 0 0 [.ref r, .int (nI mn), .int v] G (gPv fun G' => gRow D G' r cap (List.replicate mn v) ∧ gOut r 2 G G') := by
  refine gM_intro (by decide) rfl rfl (Nat.le_of_ble_eq_true rfl) ?_
  intro p e s m args below meth c C
  obtain ⟨f, h1, h2, h3, h4, h5⟩ := id hr
  have hloop : ∀ (n j : Nat) (G1 : gH), mn < j + n → j ≤ mn → gRow D G1 r cap (List.replicate j v) ∧ gOut r 2 G G1 → gX p l e (gR 1) s m args below meth c D A 4 hs 0 0 (MQ below (gQ D A hs 0 (gPv fun G' => gRow D G' r cap (List.replicate mn v) ∧ gOut r 2 G G')) args s 0 0 A) G1 [some (.ref r), some (.int (nI mn)), some (.int v), some (.int (nI j))] 7 [] := by
    intro n
    induction n with
    | zero => intro j G1 hm hj0 hI; exact absurd hm (by omega)
    | succ n ih =>
      intro j G1 hm hj0 hI
      refine gx_iload_n C dX5_fill_7 rfl ?_
      refine gx_iload_n C dX5_fill_8 rfl ?_
      refine gx_icmp_ge (tgt := 23) C dX5_fill_9 (by decide) (fun c_9 => ?_) (fun c_9 => ?_)
      · have hj : ¬ j < mn := fun q => nI_ge q (by omega) c_9
        refine gx_vret (mc := 0) C ?_ dX5_fill_23
        have e : j = mn := by omega
        subst e
        exact ⟨rfl, hI⟩
      · have hj : j < mn := by
          rcases Nat.lt_or_ge (j) (mn) with q | q
          · exact q
          · exact absurd (nI_le q (by omega)) c_9
        refine gx_aload_n C dX5_fill_12 rfl ?_
        refine gx_iload_n C dX5_fill_13 rfl ?_
        refine gx_callV (ci := 4) (T := TX5) (N := 2) C (k5_append l D A hs v hI.1) cb_X5_fill__X5_append gX5_fill_X5_append rfl (hG := (gRow_ob hI.1)) rfl rfl (Nat.le_of_ble_eq_true rfl) ⟨Nat.le_refl _, Nat.le_refl _⟩ dX5_fill_14 (gx_kv fun G_14 h_14 => ?_)
        first | refine gx_iincN C dX5_fill_17 rfl (by decide) ?_ | refine gx_iinc1 C dX5_fill_17 rfl (by decide) ?_
        refine gx_goto (tgt := 7) C dX5_fill_20 (by decide) ?_
        have h := h_14.1
        rw [lapp, if_pos (by rw [List.length_replicate]; omega)] at h
        refine gx_V ?_ (ih (j + 1) G_14 (by omega) (by omega) ⟨?_, gOut_tr hI.2 h_14.2⟩)
        · simp [List.set, ← nI_1]
        · rw [List.replicate_succ']
          exact h
  refine gx_aload_n C dX5_fill_0 rfl ?_
  refine gx_iconst (v := 0) C dX5_fill_1 (by decide) ?_
  refine gx_put C fd_X5_fill_13 tyX5_ok nmX5 rfl rfl rfl (hG := h1) (hl := by exact Nat.le_of_ble_eq_true rfl) dX5_fill_2 ?_
  refine gx_iconst (v := 0) C dX5_fill_5 (by decide) ?_
  refine gx_istore_n C dX5_fill_6 (by decide) ?_
  exact hloop (mn + 1) 0 _ (by omega) (by omega) ⟨gRow_mk gU_s (by rw [gU_n (by omega)]; exact h2) rfl (Nat.zero_le _) h4 (fun i h => absurd h (by simp)), gOut_up gOut_rf (by omega)⟩
set_option maxHeartbeats 4000000 in
set_option maxRecDepth 100000 in
/-- Row.copyFrom -/
theorem k5_copyFrom (l : Launch) (D : gD) (A : Nat → Prop) (hs : Nat) {G : gH} {r cap r2 cap2 : Nat} {xs ys : List Int32} (hr : gRow D G r cap xs) (hr2 : gRow D G r2 cap2 ys) (hd : r2 + 2 ≤ r ∨ r + 2 ≤ r2) (hl : ys.length ≤ cap) : gM l yX5_copyFrom wsX5_copyFrom (gR 0) D A hs 0 0 [.ref r, .ref r2] G (gPv fun G' => gRow D G' r cap ys ∧ gOut r 2 G G') := by
  refine gM_intro (by decide) rfl rfl (Nat.le_of_ble_eq_true rfl) ?_
  intro p e s m args below meth c C
  obtain ⟨f, h1, h2, h3, h4, h5⟩ := id hr
  have hb2 := gRow_le hr2
  have hloop : ∀ (n j : Nat) (G1 : gH), ys.length < j + n → j ≤ ys.length → gRow D G1 r cap (ys.take j) ∧ gOut r 2 G G1 → gX p l e (gR 0) s m args below meth c D A 3 hs 0 0 (MQ below (gQ D A hs 0 (gPv fun G' => gRow D G' r cap ys ∧ gOut r 2 G G')) args s 0 0 A) G1 [some (.ref r), some (.ref r2), some (.int (nI j))] 7 [] := by
    intro n
    induction n with
    | zero => intro j G1 hm hj0 hI; exact absurd hm (by omega)
    | succ n ih =>
      intro j G1 hm hj0 hI
      refine gx_iload_n C dX5_copyFrom_7 rfl ?_
      have hs2 := gRow_fr hr2 hI.2 hd
      obtain ⟨f2, e1, e2, e3, e4, e5⟩ := id hs2
      obtain ⟨f1, d1, d2, d3, d4, d5⟩ := id hI.1
      refine gx_aload_n C dX5_copyFrom_8 rfl ?_
      refine gx_get C fd_X5_copyFrom_13 (hG := (gRow_ob hs2)) (hv := by rfl) dX5_copyFrom_9 ?_
      refine gx_icmp_ge (tgt := 58) C dX5_copyFrom_12 (by decide) (fun c_12 => ?_) (fun c_12 => ?_)
      · have hj : ¬ j < ys.length := fun q => nI_ge q (by omega) c_12
        refine gx_vret (mc := 0) C ?_ dX5_copyFrom_58
        have e : j = ys.length := by omega
        exact ⟨rfl, by rw [e, List.take_length] at hI; exact hI⟩
      · have hj : j < ys.length := by
          rcases Nat.lt_or_ge (j) (ys.length) with q | q
          · exact q
          · exact absurd (nI_le q (by omega)) c_12
        refine gx_iload_n C dX5_copyFrom_15 rfl ?_
        refine gx_aload_n C dX5_copyFrom_16 rfl ?_
        refine gx_get C fd_X5_copyFrom_7 (hG := e1) (hv := by rfl) dX5_copyFrom_17 ?_
        refine gx_alen (t0 := 0) C (hG := e2) (ht := by rfl) (hv := by rfl) dX5_copyFrom_20 ?_
        refine gx_icmp_ge (tgt := 58) C dX5_copyFrom_21 (by decide) (fun c_21 => ?_) (fun c_21 => ?_)
        · exact absurd c_21 (nI_ge (by omega) (by omega))
        · refine gx_iload_n C dX5_copyFrom_24 rfl ?_
          refine gx_aload_n C dX5_copyFrom_25 rfl ?_
          refine gx_get C fd_X5_copyFrom_7 (hG := d1) (hv := by rfl) dX5_copyFrom_26 ?_
          refine gx_alen (t0 := 0) C (hG := d2) (ht := by rfl) (hv := by rfl) dX5_copyFrom_29 ?_
          refine gx_icmp_ge (tgt := 58) C dX5_copyFrom_30 (by decide) (fun c_30 => ?_) (fun c_30 => ?_)
          · exact absurd c_30 (nI_ge (by omega) (by omega))
          · refine gx_aload_n C dX5_copyFrom_33 rfl ?_
            refine gx_get C fd_X5_copyFrom_7 (hG := d1) (hv := by rfl) dX5_copyFrom_34 ?_
            refine gx_iload_n C dX5_copyFrom_37 rfl ?_
            refine gx_aload_n C dX5_copyFrom_38 rfl ?_
            refine gx_get C fd_X5_copyFrom_7 (hG := e1) (hv := by rfl) dX5_copyFrom_39 ?_
            refine gx_iload_n C dX5_copyFrom_42 rfl ?_
            refine gx_iald C (hG := e2) (hin := vp_in_nI (by omega) (by omega)) dX5_copyFrom_43 ?_
            refine gx_iast C (hG := d2) (hin := vp_in_nI (by omega) (by omega)) dX5_copyFrom_44 ?_
            refine gx_aload_n C dX5_copyFrom_45 rfl ?_
            refine gx_iload_n C dX5_copyFrom_46 rfl ?_
            refine gx_iconst (v := 1) C dX5_copyFrom_47 (by decide) ?_
            refine gx_iadd C dX5_copyFrom_48 ?_
            refine gx_put C fd_X5_copyFrom_13 tyX5_ok nmX5 rfl rfl rfl (hG := (by rw [gU_n (by omega)]; exact d1)) (hl := by exact Nat.le_of_ble_eq_true rfl) dX5_copyFrom_49 ?_
            first | refine gx_iincN C dX5_copyFrom_52 rfl (by decide) ?_ | refine gx_iinc1 C dX5_copyFrom_52 rfl (by decide) ?_
            refine gx_goto (tgt := 7) C dX5_copyFrom_55 (by decide) ?_
            refine gx_V ?_ (ih (j + 1) _ (by omega) (by omega) ⟨?_, gOut_tr hI.2 (gOut_up (gOut_up gOut_rf (by omega)) (by omega))⟩)
            · simp [List.set, ← nI_1]
            · refine gRow_mk gU_s (by rw [gU_n (by omega)]; exact gU_s) (by rw [List.length_take, Nat.min_eq_left (by omega)]; exact nI_1 j) (by rw [List.length_take]; omega) h4 ?_
              intro i hx
              rw [List.length_take] at hx
              rw [List.getElem_take, nI_clamp (by omega)]
              by_cases q : i = j
              · subst q
                rw [← e5 i hj]; simp [upd]
              · have q3 : i < (ys.take j).length := by rw [List.length_take]; omega
                have q2 := d5 i q3
                rw [List.getElem_take] at q2
                rw [← q2]; simp [upd, q]
  refine gx_aload_n C dX5_copyFrom_0 rfl ?_
  refine gx_iconst (v := 0) C dX5_copyFrom_1 (by decide) ?_
  refine gx_put C fd_X5_copyFrom_13 tyX5_ok nmX5 rfl rfl rfl (hG := h1) (hl := by exact Nat.le_of_ble_eq_true rfl) dX5_copyFrom_2 ?_
  refine gx_iconst (v := 0) C dX5_copyFrom_5 (by decide) ?_
  refine gx_istore_n C dX5_copyFrom_6 (by decide) ?_
  exact hloop (ys.length + 1) 0 _ (by omega) (by omega) ⟨gRow_mk gU_s (by rw [gU_n (by omega)]; exact h2) rfl (Nat.zero_le _) h4 (fun i h => absurd h (by simp)), gOut_up gOut_rf (by omega)⟩
set_option maxHeartbeats 4000000 in
set_option maxRecDepth 100000 in
/-- Row.remove -/
theorem k5_remove (l : Launch) (D : gD) (A : Nat → Prop) (hs : Nat) {G : gH} {r cap : Nat} {xs : List Int32} (i : Nat) (hr : gRow D G r cap xs) (hi : i < xs.length) : gM l yX5_remove wsX5_remove (gR 2) D A hs 0 0 [.ref r, .int (nI i)] G (gPv fun G' => gRow D G' r cap (lrem xs (nI i)) ∧ gOut r 2 G G') := by
  refine gM_intro (by decide) rfl rfl (Nat.le_of_ble_eq_true rfl) ?_
  intro p e s m args below meth c C
  obtain ⟨f, h1, h2, h3, h4, h5⟩ := id hr
  have hloop : ∀ (n j : Nat) (G1 : gH) (ys : List Int32), xs.length < j + n → j ≤ xs.length ∧ i ≤ j → (gRow D G1 r cap ys ∧ gOut r 2 G G1) ∧ ys.length = xs.length ∧ (∀ (a : Nat) (ha : a < ys.length), (a < i ∨ j ≤ a → ys[a] = xs.getD a 0) ∧ (i ≤ a → a < j → ys[a] = xs.getD (a + 1) 0)) → gX p l e (gR 2) s m args below meth c D A 3 hs 0 0 (MQ below (gQ D A hs 0 (gPv fun G' => gRow D G' r cap (lrem xs (nI i)) ∧ gOut r 2 G G')) args s 0 0 A) G1 [some (.ref r), some (.int (nI i)), some (.int (nI j))] 11 [] := by
    intro n
    induction n with
    | zero => intro j G1 ys hm hj0 hI; exact absurd hm (by omega)
    | succ n ih =>
      intro j G1 ys hm hj0 hI
      refine gx_iload_n C dX5_remove_11 rfl ?_
      refine gx_aload_n C dX5_remove_12 rfl ?_
      refine gx_get C fd_X5_remove_13 (hG := (gRow_ob hI.1.1)) (hv := by rfl) dX5_remove_13 ?_
      refine gx_iconst (v := 1) C dX5_remove_16 (by decide) ?_
      refine gx_isub C dX5_remove_17 ?_
      refine gx_icmp_ge (tgt := 39) C dX5_remove_18 (by decide) (fun c_18 => ?_) (fun c_18 => ?_)
      · rw [hI.2.1] at c_18
        have hj : ¬ j + 1 < xs.length := fun q => by
          rw [show (nI xs.length - 1 : Int32) = nI (xs.length - 1) from gz_pred (by omega)] at c_18
          exact nI_ge (by omega) (by omega) c_18
        refine gx_aload_n C dX5_remove_39 rfl ?_
        refine gx_dup C dX5_remove_40 rfl ?_
        refine gx_get C fd_X5_remove_13 (hG := (gRow_ob hI.1.1)) (hv := by rfl) dX5_remove_41 ?_
        refine gx_iconst (v := 1) C dX5_remove_44 (by decide) ?_
        refine gx_isub C dX5_remove_45 ?_
        refine gx_put C fd_X5_remove_13 tyX5_ok nmX5 rfl rfl rfl (hG := (gRow_ob hI.1.1)) (hl := by exact Nat.le_of_ble_eq_true rfl) dX5_remove_46 ?_
        refine gx_vret (mc := 0) C ?_ dX5_remove_49
        obtain ⟨⟨hI1, hI2⟩, hz, hv⟩ := hI
        obtain ⟨f1, d1, d2, d3, d4, d5⟩ := id hI1
        refine ⟨rfl, ?_, gOut_up hI2 (by omega)⟩
        have hlen : (xs.eraseIdx i).length = xs.length - 1 := by rw [List.length_eraseIdx, if_pos hi]
        rw [lrem, gIn_nI (by omega), if_pos (by simpa using hi), nI_clamp (by omega)]
        refine gRow_mk gU_s (by rw [gU_n (by omega)]; exact d2) (by rw [hlen, hz]; exact gz_pred (by omega)) (by omega) h4 ?_
        intro a ha
        rw [hlen] at ha
        rw [d5 a (by omega)]
        have := hv a (by omega)
        rw [List.getElem_eraseIdx]
        by_cases q : a < i
        · rw [dif_pos q, this.1 (by omega)]; simp [show a < xs.length by omega]
        · rw [dif_neg q, this.2 (by omega) (by omega)]; simp [show a + 1 < xs.length by omega]
      · rw [hI.2.1] at c_18
        have hj : j + 1 < xs.length := by
          rcases Nat.lt_or_ge (j + 1) xs.length with q | q
          · exact q
          · rw [show (nI xs.length - 1 : Int32) = nI (xs.length - 1) from gz_pred (by omega)] at c_18
            exact absurd (nI_le (by omega) (by omega)) c_18
        refine gx_aload_n C dX5_remove_21 rfl ?_
        refine gx_iload_n C dX5_remove_22 rfl ?_
        refine gx_aload_n C dX5_remove_23 rfl ?_
        refine gx_iload_n C dX5_remove_24 rfl ?_
        refine gx_iconst (v := 1) C dX5_remove_25 (by decide) ?_
        refine gx_iadd C dX5_remove_26 ?_
        refine gx_top (nI_1 j) ?_
        refine gx_callV (ci := 4) (T := TX5) (N := 2) C (k5_get l D A hs (nI (j + 1)) hI.1.1) cb_X5_remove__X5_get gX5_remove_X5_get rfl (hG := (gRow_ob hI.1.1)) rfl rfl (Nat.le_of_ble_eq_true rfl) ⟨Nat.le_refl _, Nat.le_refl _⟩ dX5_remove_27 (gx_ki fun r_27 G_27 h_27 => ?_)
        obtain ⟨rfl, rfl⟩ := h_27
        refine gx_callV (ci := 4) (T := TX5) (N := 2) C (k5_set l D A hs (nI j) (lget ys (nI (j + 1))) hI.1.1) cb_X5_remove__X5_set gX5_remove_X5_set rfl (hG := (gRow_ob hI.1.1)) rfl rfl (Nat.le_of_ble_eq_true rfl) ⟨Nat.le_refl _, Nat.le_refl _⟩ dX5_remove_30 (gx_kv fun G_30 h_30 => ?_)
        first | refine gx_iincN C dX5_remove_33 rfl (by decide) ?_ | refine gx_iinc1 C dX5_remove_33 rfl (by decide) ?_
        refine gx_goto (tgt := 11) C dX5_remove_36 (by decide) ?_
        have hd := h_30
        rw [lget_nI (by omega), lset_nI (by omega)] at hd
        obtain ⟨⟨hI1, hI2⟩, hz, hv⟩ := hI
        refine gx_V ?_ (ih (j + 1) _ _ (by omega) (by omega) ⟨⟨hd.1, gOut_tr hI2 hd.2⟩, by rw [List.length_set]; exact hz, ?_⟩)
        · simp [List.set, ← nI_1]
        · intro a ha
          rw [List.length_set] at ha
          constructor
          · intro q
            rw [List.getElem_set_ne (by omega)]
            exact (hv a (by omega)).1 (by omega)
          · intro q1 q2
            by_cases q : j = a
            · subst q
              rw [List.getElem_set_self]
              have h2 := (hv (j + 1) (by omega)).1 (by omega)
              simp [hz, hj, h2]
            · rw [List.getElem_set_ne q]
              exact (hv a (by omega)).2 (by omega) (by omega)
  refine gx_aload_n C dX5_remove_0 rfl ?_
  refine gx_iload_n C dX5_remove_1 rfl ?_
  refine gx_callV (ci := 4) (T := TX5) (N := 2) C (k5_hasNot l D A hs (nI i) hr) cb_X5_remove__X5_hasNot gX5_remove_X5_hasNot rfl (hG := h1) rfl rfl (Nat.le_of_ble_eq_true rfl) ⟨Nat.le_refl _, Nat.le_refl _⟩ dX5_remove_2 (gx_ki fun r_2 G_2 h_2 => ?_)
  obtain ⟨rfl, rfl⟩ := h_2
  refine gx_if_eq (tgt := 9) C dX5_remove_5 (by decide) (fun c_5 => ?_) (fun c_5 => ?_)
  · refine gx_iload_n C dX5_remove_9 rfl ?_
    refine gx_istore_n C dX5_remove_10 (by decide) ?_
    exact hloop (xs.length + 1) i _ _ (by omega) (by omega) ⟨⟨hr, gOut_rf⟩, rfl, fun a ha => ⟨fun _ => by simp [ha], fun q1 q2 => absurd q1 (by omega)⟩⟩
  · exact absurd (by rw [gIn_nI (by omega), if_pos (by simpa using hi)]) c_5
set_option maxHeartbeats 4000000 in
set_option maxRecDepth 100000 in
/-- Row.insert -/
theorem k5_insert (l : Launch) (D : gD) (A : Nat → Prop) (hs : Nat) {G : gH} {r cap : Nat} {xs : List Int32} (i : Nat) (v : Int32) (hr : gRow D G r cap xs) (hi : i ≤ xs.length) (hf : xs.length < cap) : gM l yX5_insert wsX5_insert (gR 2) D A hs 0 0 [.ref r, .int (nI i), .int v] G (gPv fun G' => gRow D G' r cap (xs.insertIdx i v) ∧ gOut r 2 G G') := by
  refine gM_intro (by decide) rfl rfl (Nat.le_of_ble_eq_true rfl) ?_
  intro p e s m args below meth c C
  obtain ⟨f, h1, h2, h3, h4, h5⟩ := id hr
  have hloop : ∀ (n j : Nat) (G1 : gH) (ys : List Int32), xs.length < j + n → j + i ≤ xs.length → (gRow D G1 r cap ys ∧ gOut r 2 G G1) ∧ ys.length = xs.length + 1 ∧ (∀ (a : Nat) (ha : a < ys.length), (a ≤ xs.length - j → a < xs.length → ys[a] = xs.getD a 0) ∧ (xs.length - j < a → ys[a] = xs.getD (a - 1) 0)) → gX p l e (gR 2) s m args below meth c D A 4 hs 0 0 (MQ below (gQ D A hs 0 (gPv fun G' => gRow D G' r cap (xs.insertIdx i v) ∧ gOut r 2 G G')) args s 0 0 A) G1 [some (.ref r), some (.int (nI i)), some (.int v), some (.int (nI (xs.length - j)))] 37 [] := by
    intro n
    induction n with
    | zero => intro j G1 ys hm hj0 hI; exact absurd hm (by omega)
    | succ n ih =>
      intro j G1 ys hm hj0 hI
      refine gx_iload_n C dX5_insert_37 rfl ?_
      refine gx_iload_n C dX5_insert_38 rfl ?_
      refine gx_icmp_le (tgt := 60) C dX5_insert_39 (by decide) (fun c_39 => ?_) (fun c_39 => ?_)
      · have hj : ¬ i < xs.length - j := fun q => nI_ge q (by omega) c_39
        refine gx_aload_n C dX5_insert_60 rfl ?_
        refine gx_iload_n C dX5_insert_61 rfl ?_
        refine gx_iload_n C dX5_insert_62 rfl ?_
        refine gx_callV (ci := 4) (T := TX5) (N := 2) C (k5_set l D A hs (nI i) v hI.1.1) cb_X5_insert__X5_set gX5_insert_X5_set rfl (hG := (gRow_ob hI.1.1)) rfl rfl (Nat.le_of_ble_eq_true rfl) ⟨Nat.le_refl _, Nat.le_refl _⟩ dX5_insert_63 (gx_kv fun G_63 h_63 => ?_)
        refine gx_vret (mc := 0) C ?_ dX5_insert_66
        obtain ⟨⟨hI1, hI2⟩, hz, hv⟩ := hI
        have hd := h_63
        rw [lset_nI (by omega)] at hd
        have e : ys.set i v = xs.insertIdx i v := by
          have hlen : (xs.insertIdx i v).length = xs.length + 1 := by rw [List.length_insertIdx, if_pos hi]
          refine List.ext_getElem (by rw [List.length_set, hz, hlen]) (fun a ha hb => ?_)
          rw [List.length_set] at ha
          have h9 := hv a ha
          rw [List.getElem_set, List.getElem_insertIdx]
          by_cases q : a < i
          · rw [if_neg (by omega), dif_pos q, h9.1 (by omega) (by omega)]; simp [show a < xs.length by omega]
          · by_cases q2 : i = a
            · subst q2
              rw [if_pos rfl, dif_neg q, dif_pos rfl]
            · rw [if_neg q2, dif_neg q, dif_neg (by omega), h9.2 (by omega)]; simp [show a - 1 < xs.length by omega]
        rw [e] at hd
        exact ⟨rfl, hd.1, gOut_tr hI2 hd.2⟩
      · have hj : i < xs.length - j := by
          rcases Nat.lt_or_ge i (xs.length - j) with q | q
          · exact q
          · exact absurd (nI_le q (by omega)) c_39
        refine gx_aload_n C dX5_insert_42 rfl ?_
        refine gx_iload_n C dX5_insert_43 rfl ?_
        refine gx_aload_n C dX5_insert_44 rfl ?_
        refine gx_iload_n C dX5_insert_45 rfl ?_
        refine gx_iconst (v := 1) C dX5_insert_46 (by decide) ?_
        refine gx_isub C dX5_insert_47 ?_
        refine gx_callV (ci := 4) (T := TX5) (N := 2) C (k5_get l D A hs (nI (xs.length - j) - 1) hI.1.1) cb_X5_insert__X5_get gX5_insert_X5_get rfl (hG := (gRow_ob hI.1.1)) rfl rfl (Nat.le_of_ble_eq_true rfl) ⟨Nat.le_refl _, Nat.le_refl _⟩ dX5_insert_48 (gx_ki fun r_48 G_48 h_48 => ?_)
        obtain ⟨rfl, rfl⟩ := h_48
        refine gx_callV (ci := 4) (T := TX5) (N := 2) C (k5_set l D A hs (nI (xs.length - j)) (lget ys (nI (xs.length - j) - 1)) hI.1.1) cb_X5_insert__X5_set gX5_insert_X5_set rfl (hG := (gRow_ob hI.1.1)) rfl rfl (Nat.le_of_ble_eq_true rfl) ⟨Nat.le_refl _, Nat.le_refl _⟩ dX5_insert_51 (gx_kv fun G_51 h_51 => ?_)
        refine gx_iincm C dX5_insert_54 rfl (by decide) ?_
        refine gx_goto (tgt := 37) C dX5_insert_57 (by decide) ?_
        have hd := h_51
        rw [show (nI (xs.length - j) - 1 : Int32) = nI (xs.length - j - 1) from gz_pred (by omega), lget_nI (by omega), lset_nI (by omega)] at hd
        obtain ⟨⟨hI1, hI2⟩, hz, hv⟩ := hI
        refine gx_V ?_ (ih (j + 1) _ _ (by omega) (by omega) ⟨⟨hd.1, gOut_tr hI2 hd.2⟩, by rw [List.length_set]; exact hz, ?_⟩)
        · have e : nI (xs.length - j) + (-1 : Int32) = nI (xs.length - (j + 1)) := by
            rw [show xs.length - j = (xs.length - (j + 1)) + 1 by omega]; exact pk_m1 _
          simp [List.set, e]
        · intro a ha
          rw [List.length_set] at ha
          constructor
          · intro q q'
            rw [List.getElem_set_ne (by omega)]
            exact (hv a (by omega)).1 (by omega) (by omega)
          · intro q1
            by_cases q : xs.length - j = a
            · rw [List.getElem_set, if_pos q]
              have h2 := (hv (a - 1) (by omega)).1 (by omega) (by omega)
              rw [show xs.length - j - 1 = a - 1 by omega]
              simp [show a - 1 < ys.length by omega, h2]
            · rw [List.getElem_set_ne q]
              exact (hv a (by omega)).2 (by omega)
  refine gx_iload_n C dX5_insert_0 rfl ?_
  refine gx_if_lt (tgt := 24) C dX5_insert_1 (by decide) (fun c_1 => ?_) (fun c_1 => ?_)
  · exact absurd c_1 (nI_pos (by omega))
  · refine gx_iload_n C dX5_insert_4 rfl ?_
    refine gx_aload_n C dX5_insert_5 rfl ?_
    refine gx_get C fd_X5_insert_13 (hG := h1) (hv := by rfl) dX5_insert_6 ?_
    refine gx_icmp_gt (tgt := 24) C dX5_insert_9 (by decide) (fun c_9 => ?_) (fun c_9 => ?_)
    · exact absurd c_9 (nI_nlt hi (by omega))
    · refine gx_aload_n C dX5_insert_12 rfl ?_
      refine gx_get C fd_X5_insert_13 (hG := h1) (hv := by rfl) dX5_insert_13 ?_
      refine gx_aload_n C dX5_insert_16 rfl ?_
      refine gx_get C fd_X5_insert_7 (hG := h1) (hv := by rfl) dX5_insert_17 ?_
      refine gx_alen (t0 := 0) C (hG := h2) (ht := by rfl) (hv := by rfl) dX5_insert_20 ?_
      refine gx_icmp_lt (tgt := 25) C dX5_insert_21 (by decide) (fun c_21 => ?_) (fun c_21 => ?_)
      · refine gx_aload_n C dX5_insert_25 rfl ?_
        refine gx_iload_n C dX5_insert_26 rfl ?_
        refine gx_callV (ci := 4) (T := TX5) (N := 2) C (k5_append l D A hs v hr) cb_X5_insert__X5_append gX5_insert_X5_append rfl (hG := h1) rfl rfl (Nat.le_of_ble_eq_true rfl) ⟨Nat.le_refl _, Nat.le_refl _⟩ dX5_insert_27 (gx_kv fun G_27 h_27 => ?_)
        rw [lapp, if_pos hf] at h_27
        refine gx_aload_n C dX5_insert_30 rfl ?_
        refine gx_get C fd_X5_insert_13 (hG := (gRow_ob h_27.1)) (hv := by rfl) dX5_insert_31 ?_
        refine gx_iconst (v := 1) C dX5_insert_34 (by decide) ?_
        refine gx_isub C dX5_insert_35 ?_
        refine gx_istore_n C dX5_insert_36 (by decide) ?_
        have e : (nI (xs ++ [v]).length - 1 : Int32) = nI (xs.length - 0) := by
          rw [List.length_append]; exact gz_pred (by simp)
        refine gx_V ?_ (hloop (xs.length + 1) 0 _ _ (by omega) (by omega) ⟨h_27, by simp, fun a ha => ⟨fun q1 q2 => ?_, fun q => ?_⟩⟩)
        · simp only [List.set, e]; rfl
        · rw [List.getElem_append_left q2]; simp [q2]
        · rw [List.length_append] at ha; simp at ha; omega
      · exact absurd (nI_lt hf (by omega)) c_21
end
section
/-! WHAT THE CELLS OF THE CLASS HOLD: a sheet, a list, a state, as plain values -/
abbrev SH : Type := Int32 × Int32 × List Int32
abbrev ML : Type := List Int32 × List Int32 × List Int32 × List Int32
abbrev SV : Type := List Int32 × Int32 × List SH × ML × ML
def gRf (f : Nat → Option Nat) (n : Nat) : vp_A := (n, .inr (.inr (.inr (.inr f))))
def gSheet (D : gD) (G : gH) (a : Nat) (v : SH) : Prop := G a = some (.inr (5, [.ref (a + 1), .int v.1, .int v.2.1])) ∧ gRow D G (a + 1) 8 v.2.2
def gList (D : gD) (G : gH) (a : Nat) (v : ML) : Prop := G a = some (.inr (1, [.ref (a + 1), .ref (a + 3), .ref (a + 5), .ref (a + 7)])) ∧ gRow D G (a + 1) 64 v.1 ∧ gRow D G (a + 3) 64 v.2.1 ∧ gRow D G (a + 5) 64 v.2.2.1 ∧ gRow D G (a + 7) 64 v.2.2.2
def gAcc (D : gD) (G : gH) (a : Nat) (v : ML) : Prop := gRow D G a 5 v.1 ∧ gRow D G (a + 2) 6 v.2.1 ∧ gRow D G (a + 4) 6 v.2.2.1 ∧ gRow D G (a + 6) 6 v.2.2.2
def gShs (D : gD) (G : gH) (a : Nat) (sh : List SH) : Prop := sh.length ≤ 8 ∧ ∀ i : Nat, i < 8 → ∃ c : SH, gSheet D G (a + 3 * i) c ∧ ∀ h : i < sh.length, c = sh[i]
def gSv (D : gD) (G : gH) (S : Nat) (v : SV) : Prop :=
  G S = some (.inr (6, [.ref (S + 1), .ref (S + 3), .ref (S + 4), .ref (S + 13), .ref (S + 15), .ref (S + 17), .ref (S + 19), .int v.2.1, .int (nI v.2.2.1.length)])) ∧
  (∃ f : Nat → Option Nat, G (S + 3) = some (.inl (D.1.1 101, gRf f 8)) ∧ ∀ i : Nat, i < 8 → f i = some (S + 21 + 3 * i)) ∧
  gRow D G (S + 1) 100 v.1 ∧ gList D G (S + 4) v.2.2.2.1 ∧ gAcc D G (S + 13) v.2.2.2.2 ∧ gShs D G (S + 21) v.2.2.1
theorem gSheet_fr {D : gD} {G G' : gH} {a b n : Nat} {v : SH} (h : gSheet D G a v) (ho : gOut b n G G') (hd : a + 3 ≤ b ∨ b + n ≤ a) : gSheet D G' a v :=
  ⟨by rw [ho a (by omega)]; exact h.1, gRow_fr h.2 ho (by omega)⟩
theorem gList_fr {D : gD} {G G' : gH} {a b n : Nat} {v : ML} (h : gList D G a v) (ho : gOut b n G G') (hd : a + 9 ≤ b ∨ b + n ≤ a) : gList D G' a v :=
  ⟨by rw [ho a (by omega)]; exact h.1, gRow_fr h.2.1 ho (by omega), gRow_fr h.2.2.1 ho (by omega), gRow_fr h.2.2.2.1 ho (by omega), gRow_fr h.2.2.2.2 ho (by omega)⟩
theorem gAcc_fr {D : gD} {G G' : gH} {a b n : Nat} {v : ML} (h : gAcc D G a v) (ho : gOut b n G G') (hd : a + 8 ≤ b ∨ b + n ≤ a) : gAcc D G' a v :=
  ⟨gRow_fr h.1 ho (by omega), gRow_fr h.2.1 ho (by omega), gRow_fr h.2.2.1 ho (by omega), gRow_fr h.2.2.2 ho (by omega)⟩
theorem gShs_fr {D : gD} {G G' : gH} {a b n : Nat} {sh : List SH} (h : gShs D G a sh) (ho : gOut b n G G') (hd : a + 24 ≤ b ∨ b + n ≤ a) : gShs D G' a sh := by
  refine ⟨h.1, fun i hi => ?_⟩
  obtain ⟨c, h1, h2⟩ := h.2 i hi
  exact ⟨c, gSheet_fr h1 ho (by omega), h2⟩
theorem gSv_fr {D : gD} {G G' : gH} {S b n : Nat} {v : SV} (h : gSv D G S v) (ho : gOut b n G G') (hd : S + 45 ≤ b ∨ b + n ≤ S) : gSv D G' S v := by
  obtain ⟨h1, ⟨f, h2, h3⟩, h4, h5, h6, h7⟩ := h
  exact ⟨by rw [ho S (by omega)]; exact h1, ⟨f, by rw [ho (S + 3) (by omega)]; exact h2, h3⟩, gRow_fr h4 ho (by omega), gList_fr h5 ho (by omega), gAcc_fr h6 ho (by omega), gShs_fr h7 ho (by omega)⟩
theorem gSv_ob {D : gD} {G : gH} {S : Nat} {v : SV} (h : gSv D G S v) : G S = some (.inr (6, [.ref (S + 1), .ref (S + 3), .ref (S + 4), .ref (S + 13), .ref (S + 15), .ref (S + 17), .ref (S + 19), .int v.2.1, .int (nI v.2.2.1.length)])) := h.1
theorem gSv_tx {D : gD} {G : gH} {S : Nat} {v : SV} (h : gSv D G S v) : gRow D G (S + 1) 100 v.1 := h.2.2.1
theorem gSv_li {D : gD} {G : gH} {S : Nat} {v : SV} (h : gSv D G S v) : gList D G (S + 4) v.2.2.2.1 := h.2.2.2.1
theorem gSv_ac {D : gD} {G : gH} {S : Nat} {v : SV} (h : gSv D G S v) : gAcc D G (S + 13) v.2.2.2.2 := h.2.2.2.2.1
theorem gSv_sh {D : gD} {G : gH} {S : Nat} {v : SV} (h : gSv D G S v) : gShs D G (S + 21) v.2.2.1 := h.2.2.2.2.2
theorem gSv_at {D : gD} {G : gH} {S i : Nat} {v : SV} (h : gSv D G S v) (hi : i < v.2.2.1.length) : gSheet D G (S + 21 + 3 * i) v.2.2.1[i] := by
  obtain ⟨h1, h2⟩ := gSv_sh h
  obtain ⟨c, h3, h4⟩ := h2 i (by omega)
  rw [h4 hi] at h3
  exact h3
/-- one part of a state is another -/
theorem gSv_tx' {D : gD} {G G' : gH} {S : Nat} {v : SV} {xs : List Int32} (h : gSv D G S v) (hr : gRow D G' (S + 1) 100 xs) (ho : gOut (S + 1) 2 G G') : gSv D G' S (xs, v.2) := by
  obtain ⟨h1, ⟨f, h2, h3⟩, h4, h5, h6, h7⟩ := h
  exact ⟨by rw [ho S (by omega)]; exact h1, ⟨f, by rw [ho (S + 3) (by omega)]; exact h2, h3⟩, hr, gList_fr h5 ho (by omega), gAcc_fr h6 ho (by omega), gShs_fr h7 ho (by omega)⟩
theorem gSv_li' {D : gD} {G G' : gH} {S : Nat} {v : SV} {w : ML} (h : gSv D G S v) (hr : gList D G' (S + 4) w) (ho : gOut (S + 4) 9 G G') : gSv D G' S (v.1, v.2.1, v.2.2.1, w, v.2.2.2.2) := by
  obtain ⟨h1, ⟨f, h2, h3⟩, h4, h5, h6, h7⟩ := h
  exact ⟨by rw [ho S (by omega)]; exact h1, ⟨f, by rw [ho (S + 3) (by omega)]; exact h2, h3⟩, gRow_fr h4 ho (by omega), hr, gAcc_fr h6 ho (by omega), gShs_fr h7 ho (by omega)⟩
theorem gSv_ac' {D : gD} {G G' : gH} {S : Nat} {v : SV} {w : ML} (h : gSv D G S v) (hr : gAcc D G' (S + 13) w) (ho : gOut (S + 13) 8 G G') : gSv D G' S (v.1, v.2.1, v.2.2.1, v.2.2.2.1, w) := by
  obtain ⟨h1, ⟨f, h2, h3⟩, h4, h5, h6, h7⟩ := h
  exact ⟨by rw [ho S (by omega)]; exact h1, ⟨f, by rw [ho (S + 3) (by omega)]; exact h2, h3⟩, gRow_fr h4 ho (by omega), gList_fr h5 ho (by omega), hr, gShs_fr h7 ho (by omega)⟩
theorem gAcc_0 {D : gD} {G G' : gH} {a : Nat} {v : ML} {xs : List Int32} (h : gAcc D G a v) (hr : gRow D G' a 5 xs) (ho : gOut a 2 G G') : gAcc D G' a (xs, v.2) :=
  ⟨hr, gRow_fr h.2.1 ho (by omega), gRow_fr h.2.2.1 ho (by omega), gRow_fr h.2.2.2 ho (by omega)⟩
theorem gAcc_1 {D : gD} {G G' : gH} {a : Nat} {v : ML} {xs : List Int32} (h : gAcc D G a v) (hr : gRow D G' (a + 2) 6 xs) (ho : gOut (a + 2) 2 G G') : gAcc D G' a (v.1, xs, v.2.2) :=
  ⟨gRow_fr h.1 ho (by omega), hr, gRow_fr h.2.2.1 ho (by omega), gRow_fr h.2.2.2 ho (by omega)⟩
theorem gAcc_2 {D : gD} {G G' : gH} {a : Nat} {v : ML} {xs : List Int32} (h : gAcc D G a v) (hr : gRow D G' (a + 4) 6 xs) (ho : gOut (a + 4) 2 G G') : gAcc D G' a (v.1, v.2.1, xs, v.2.2.2) :=
  ⟨gRow_fr h.1 ho (by omega), gRow_fr h.2.1 ho (by omega), hr, gRow_fr h.2.2.2 ho (by omega)⟩
theorem gAcc_3 {D : gD} {G G' : gH} {a : Nat} {v : ML} {xs : List Int32} (h : gAcc D G a v) (hr : gRow D G' (a + 6) 6 xs) (ho : gOut (a + 6) 2 G G') : gAcc D G' a (v.1, v.2.1, v.2.2.1, xs) :=
  ⟨gRow_fr h.1 ho (by omega), gRow_fr h.2.1 ho (by omega), gRow_fr h.2.2.1 ho (by omega), hr⟩
theorem gList_0 {D : gD} {G G' : gH} {a : Nat} {v : ML} {xs : List Int32} (h : gList D G a v) (hr : gRow D G' (a + 1) 64 xs) (ho : gOut (a + 1) 2 G G') : gList D G' a (xs, v.2) :=
  ⟨by rw [ho a (by omega)]; exact h.1, hr, gRow_fr h.2.2.1 ho (by omega), gRow_fr h.2.2.2.1 ho (by omega), gRow_fr h.2.2.2.2 ho (by omega)⟩
theorem gList_1 {D : gD} {G G' : gH} {a : Nat} {v : ML} {xs : List Int32} (h : gList D G a v) (hr : gRow D G' (a + 3) 64 xs) (ho : gOut (a + 3) 2 G G') : gList D G' a (v.1, xs, v.2.2) :=
  ⟨by rw [ho a (by omega)]; exact h.1, gRow_fr h.2.1 ho (by omega), hr, gRow_fr h.2.2.2.1 ho (by omega), gRow_fr h.2.2.2.2 ho (by omega)⟩
theorem gList_2 {D : gD} {G G' : gH} {a : Nat} {v : ML} {xs : List Int32} (h : gList D G a v) (hr : gRow D G' (a + 5) 64 xs) (ho : gOut (a + 5) 2 G G') : gList D G' a (v.1, v.2.1, xs, v.2.2.2) :=
  ⟨by rw [ho a (by omega)]; exact h.1, gRow_fr h.2.1 ho (by omega), gRow_fr h.2.2.1 ho (by omega), hr, gRow_fr h.2.2.2.2 ho (by omega)⟩
theorem gList_3 {D : gD} {G G' : gH} {a : Nat} {v : ML} {xs : List Int32} (h : gList D G a v) (hr : gRow D G' (a + 7) 64 xs) (ho : gOut (a + 7) 2 G G') : gList D G' a (v.1, v.2.1, v.2.2.1, xs) :=
  ⟨by rw [ho a (by omega)]; exact h.1, gRow_fr h.2.1 ho (by omega), gRow_fr h.2.2.1 ho (by omega), gRow_fr h.2.2.2.1 ho (by omega), hr⟩
theorem gSheet_ms {D : gD} {G G' : gH} {a : Nat} {v : SH} {xs : List Int32} (h : gSheet D G a v) (hr : gRow D G' (a + 1) 8 xs) (ho : gOut (a + 1) 2 G G') : gSheet D G' a (v.1, v.2.1, xs) :=
  ⟨by rw [ho a (by omega)]; exact h.1, hr⟩
/-- one sheet is another, of those in use -/
theorem gShs_set {D : gD} {G G' : gH} {a i : Nat} {sh : List SH} {c : SH} (h : gShs D G a sh) (hi : i < sh.length) (hr : gSheet D G' (a + 3 * i) c) (ho : gOut (a + 3 * i) 3 G G') : gShs D G' a (sh.set i c) := by
  refine ⟨by rw [List.length_set]; exact h.1, fun j hj => ?_⟩
  by_cases q : j = i
  · subst q
    exact ⟨c, hr, fun _ => by simp⟩
  · obtain ⟨c2, h1, h2⟩ := h.2 j hj
    refine ⟨c2, gSheet_fr h1 ho (by omega), fun hl => ?_⟩
    rw [List.length_set] at hl
    rw [List.getElem_set_ne (Ne.symm q)]
    exact h2 hl
theorem gSv_sh' {D : gD} {G G' : gH} {S i : Nat} {v : SV} {c : SH} (h : gSv D G S v) (hi : i < v.2.2.1.length) (hr : gSheet D G' (S + 21 + 3 * i) c) (ho : gOut (S + 21 + 3 * i) 3 G G') : gSv D G' S (v.1, v.2.1, v.2.2.1.set i c, v.2.2.2) := by
  have h8 := h.2.2.2.2.2.1
  obtain ⟨h1, ⟨f, h2, h3⟩, h4, h5, h6, h7⟩ := h
  exact ⟨by rw [ho S (by omega), List.length_set]; exact h1, ⟨f, by rw [ho (S + 3) (by omega)]; exact h2, h3⟩, gRow_fr h4 ho (by omega), gList_fr h5 ho (by omega), gAcc_fr h6 ho (by omega), gShs_set h7 hi hr ho⟩
end
section
set_option maxRecDepth 20000 in
theorem ggX2_init_X5_init : GoodIn wsX2_init wsX5_init := goodIn_r _ [13, 14, 2, 3, 15, 16, 17, 18] (by decide +kernel) (by decide +kernel)
set_option maxRecDepth 20000 in
theorem gX2_init_X5_init : GoodIn wsX2_init (wsX5_init) := ggX2_init_X5_init
theorem dX2_init_0 : decode cX2_init 0 = .ok (.aload_n 0, 1) := by decide +kernel
theorem dX2_init_1 : decode cX2_init 1 = .ok (.invokespecial 3, 3) := by decide +kernel
theorem dX2_init_4 : decode cX2_init 4 = .ok (.aload_n 0, 1) := by decide +kernel
theorem dX2_init_5 : decode cX2_init 5 = .ok (.new 9, 3) := by decide +kernel
theorem dX2_init_8 : decode cX2_init 8 = .ok (.dup, 1) := by decide +kernel
theorem dX2_init_9 : decode cX2_init 9 = .ok (.bipush 64, 2) := by decide +kernel
theorem dX2_init_11 : decode cX2_init 11 = .ok (.invokespecial 11, 3) := by decide +kernel
theorem dX2_init_14 : decode cX2_init 14 = .ok (.putfield 14, 3) := by decide +kernel
theorem dX2_init_17 : decode cX2_init 17 = .ok (.aload_n 0, 1) := by decide +kernel
theorem dX2_init_18 : decode cX2_init 18 = .ok (.new 9, 3) := by decide +kernel
theorem dX2_init_21 : decode cX2_init 21 = .ok (.dup, 1) := by decide +kernel
theorem dX2_init_22 : decode cX2_init 22 = .ok (.bipush 64, 2) := by decide +kernel
theorem dX2_init_24 : decode cX2_init 24 = .ok (.invokespecial 11, 3) := by decide +kernel
theorem dX2_init_27 : decode cX2_init 27 = .ok (.putfield 20, 3) := by decide +kernel
theorem dX2_init_30 : decode cX2_init 30 = .ok (.aload_n 0, 1) := by decide +kernel
theorem dX2_init_31 : decode cX2_init 31 = .ok (.new 9, 3) := by decide +kernel
theorem dX2_init_34 : decode cX2_init 34 = .ok (.dup, 1) := by decide +kernel
theorem dX2_init_35 : decode cX2_init 35 = .ok (.bipush 64, 2) := by decide +kernel
theorem dX2_init_37 : decode cX2_init 37 = .ok (.invokespecial 11, 3) := by decide +kernel
theorem dX2_init_40 : decode cX2_init 40 = .ok (.putfield 23, 3) := by decide +kernel
theorem dX2_init_43 : decode cX2_init 43 = .ok (.aload_n 0, 1) := by decide +kernel
theorem dX2_init_44 : decode cX2_init 44 = .ok (.new 9, 3) := by decide +kernel
theorem dX2_init_47 : decode cX2_init 47 = .ok (.dup, 1) := by decide +kernel
theorem dX2_init_48 : decode cX2_init 48 = .ok (.bipush 64, 2) := by decide +kernel
theorem dX2_init_50 : decode cX2_init 50 = .ok (.invokespecial 11, 3) := by decide +kernel
theorem dX2_init_53 : decode cX2_init 53 = .ok (.putfield 26, 3) := by decide +kernel
theorem dX2_init_56 : decode cX2_init 56 = .ok (.return_, 1) := by decide +kernel
set_option maxRecDepth 20000 in
theorem ggX2_empty_X5_cutTo : GoodIn wsX2_empty wsX5_cutTo := goodIn_r _ [9, 10, 15, 16] (by decide +kernel) (by decide +kernel)
set_option maxRecDepth 20000 in
theorem gX2_empty_X5_cutTo : GoodIn wsX2_empty (wsV RX2 29 RX5 yX5_cutTo wsX5_cutTo) := goodIn_app (goodIn_of _ (by decide +kernel)) ggX2_empty_X5_cutTo
theorem dX2_empty_0 : decode cX2_empty 0 = .ok (.aload_n 0, 1) := by decide +kernel
theorem dX2_empty_1 : decode cX2_empty 1 = .ok (.getfield 14, 3) := by decide +kernel
theorem dX2_empty_4 : decode cX2_empty 4 = .ok (.iconst 0, 1) := by decide +kernel
theorem dX2_empty_5 : decode cX2_empty 5 = .ok (.invokevirtual 29, 3) := by decide +kernel
theorem dX2_empty_8 : decode cX2_empty 8 = .ok (.aload_n 0, 1) := by decide +kernel
theorem dX2_empty_9 : decode cX2_empty 9 = .ok (.getfield 20, 3) := by decide +kernel
theorem dX2_empty_12 : decode cX2_empty 12 = .ok (.iconst 0, 1) := by decide +kernel
theorem dX2_empty_13 : decode cX2_empty 13 = .ok (.invokevirtual 29, 3) := by decide +kernel
theorem dX2_empty_16 : decode cX2_empty 16 = .ok (.aload_n 0, 1) := by decide +kernel
theorem dX2_empty_17 : decode cX2_empty 17 = .ok (.getfield 23, 3) := by decide +kernel
theorem dX2_empty_20 : decode cX2_empty 20 = .ok (.iconst 0, 1) := by decide +kernel
theorem dX2_empty_21 : decode cX2_empty 21 = .ok (.invokevirtual 29, 3) := by decide +kernel
theorem dX2_empty_24 : decode cX2_empty 24 = .ok (.aload_n 0, 1) := by decide +kernel
theorem dX2_empty_25 : decode cX2_empty 25 = .ok (.getfield 26, 3) := by decide +kernel
theorem dX2_empty_28 : decode cX2_empty 28 = .ok (.iconst 0, 1) := by decide +kernel
theorem dX2_empty_29 : decode cX2_empty 29 = .ok (.invokevirtual 29, 3) := by decide +kernel
theorem dX2_empty_32 : decode cX2_empty 32 = .ok (.return_, 1) := by decide +kernel
set_option maxRecDepth 20000 in
theorem ggX2_copyFrom_X5_copyFrom : GoodIn wsX2_copyFrom wsX5_copyFrom := goodIn_r _ [9, 10, 11, 16, 17] (by decide +kernel) (by decide +kernel)
set_option maxRecDepth 20000 in
theorem gX2_copyFrom_X5_copyFrom : GoodIn wsX2_copyFrom (wsV RX2 32 RX5 yX5_copyFrom wsX5_copyFrom) := goodIn_app (goodIn_of _ (by decide +kernel)) ggX2_copyFrom_X5_copyFrom
theorem dX2_copyFrom_0 : decode cX2_copyFrom 0 = .ok (.aload_n 0, 1) := by decide +kernel
theorem dX2_copyFrom_1 : decode cX2_copyFrom 1 = .ok (.getfield 14, 3) := by decide +kernel
theorem dX2_copyFrom_4 : decode cX2_copyFrom 4 = .ok (.aload_n 1, 1) := by decide +kernel
theorem dX2_copyFrom_5 : decode cX2_copyFrom 5 = .ok (.getfield 14, 3) := by decide +kernel
theorem dX2_copyFrom_8 : decode cX2_copyFrom 8 = .ok (.invokevirtual 32, 3) := by decide +kernel
theorem dX2_copyFrom_11 : decode cX2_copyFrom 11 = .ok (.aload_n 0, 1) := by decide +kernel
theorem dX2_copyFrom_12 : decode cX2_copyFrom 12 = .ok (.getfield 20, 3) := by decide +kernel
theorem dX2_copyFrom_15 : decode cX2_copyFrom 15 = .ok (.aload_n 1, 1) := by decide +kernel
theorem dX2_copyFrom_16 : decode cX2_copyFrom 16 = .ok (.getfield 20, 3) := by decide +kernel
theorem dX2_copyFrom_19 : decode cX2_copyFrom 19 = .ok (.invokevirtual 32, 3) := by decide +kernel
theorem dX2_copyFrom_22 : decode cX2_copyFrom 22 = .ok (.aload_n 0, 1) := by decide +kernel
theorem dX2_copyFrom_23 : decode cX2_copyFrom 23 = .ok (.getfield 23, 3) := by decide +kernel
theorem dX2_copyFrom_26 : decode cX2_copyFrom 26 = .ok (.aload_n 1, 1) := by decide +kernel
theorem dX2_copyFrom_27 : decode cX2_copyFrom 27 = .ok (.getfield 23, 3) := by decide +kernel
theorem dX2_copyFrom_30 : decode cX2_copyFrom 30 = .ok (.invokevirtual 32, 3) := by decide +kernel
theorem dX2_copyFrom_33 : decode cX2_copyFrom 33 = .ok (.aload_n 0, 1) := by decide +kernel
theorem dX2_copyFrom_34 : decode cX2_copyFrom 34 = .ok (.getfield 26, 3) := by decide +kernel
theorem dX2_copyFrom_37 : decode cX2_copyFrom 37 = .ok (.aload_n 1, 1) := by decide +kernel
theorem dX2_copyFrom_38 : decode cX2_copyFrom 38 = .ok (.getfield 26, 3) := by decide +kernel
theorem dX2_copyFrom_41 : decode cX2_copyFrom 41 = .ok (.invokevirtual 32, 3) := by decide +kernel
theorem dX2_copyFrom_44 : decode cX2_copyFrom 44 = .ok (.return_, 1) := by decide +kernel
set_option maxRecDepth 20000 in
theorem ggX2_hasNot_X5_used : GoodIn wsX2_hasNot wsX5_used := goodIn_r _ [6, 7, 15, 16] (by decide +kernel) (by decide +kernel)
set_option maxRecDepth 20000 in
theorem gX2_hasNot_X5_used : GoodIn wsX2_hasNot (wsV RX2 36 RX5 yX5_used wsX5_used) := goodIn_app (goodIn_of _ (by decide +kernel)) ggX2_hasNot_X5_used
set_option maxRecDepth 20000 in
theorem ggX2_hasNot_X8_isOutside : GoodIn wsX2_hasNot wsX8_isOutside := goodIn_r _ [10] (by decide +kernel) (by decide +kernel)
set_option maxRecDepth 20000 in
theorem gX2_hasNot_X8_isOutside_n40 : GoodIn wsX2_hasNot (wsX8_isOutside) := ggX2_hasNot_X8_isOutside
theorem dX2_hasNot_0 : decode cX2_hasNot 0 = .ok (.iload_n 1, 1) := by decide +kernel
theorem dX2_hasNot_1 : decode cX2_hasNot 1 = .ok (.iconst 0, 1) := by decide +kernel
theorem dX2_hasNot_2 : decode cX2_hasNot 2 = .ok (.aload_n 0, 1) := by decide +kernel
theorem dX2_hasNot_3 : decode cX2_hasNot 3 = .ok (.getfield 14, 3) := by decide +kernel
theorem dX2_hasNot_6 : decode cX2_hasNot 6 = .ok (.invokevirtual 36, 3) := by decide +kernel
theorem dX2_hasNot_9 : decode cX2_hasNot 9 = .ok (.iconst 1, 1) := by decide +kernel
theorem dX2_hasNot_10 : decode cX2_hasNot 10 = .ok (.isub, 1) := by decide +kernel
theorem dX2_hasNot_11 : decode cX2_hasNot 11 = .ok (.invokestatic 40, 3) := by decide +kernel
theorem dX2_hasNot_14 : decode cX2_hasNot 14 = .ok (.ireturn, 1) := by decide +kernel
set_option maxRecDepth 20000 in
theorem ggX2_take_X5_placeOf : GoodIn wsX2_take wsX5_placeOf := goodIn_r _ [13, 14, 15, 16, 17, 12, 18, 19, 20, 21, 22, 23, 42, 43] (by decide +kernel) (by decide +kernel)
set_option maxRecDepth 20000 in
theorem gX2_take_X5_placeOf : GoodIn wsX2_take (wsV RX2 44 RX5 yX5_placeOf wsX5_placeOf) := goodIn_app (goodIn_of _ (by decide +kernel)) ggX2_take_X5_placeOf
set_option maxRecDepth 20000 in
theorem ggX2_take_X5_add : GoodIn wsX2_take wsX5_add := goodIn_r _ [27, 15, 16, 17, 12, 18, 19, 20, 21, 22, 23, 14, 28, 29, 30, 31, 42, 43] (by decide +kernel) (by decide +kernel)
set_option maxRecDepth 20000 in
theorem gX2_take_X5_add : GoodIn wsX2_take (wsV RX2 48 RX5 yX5_add wsX5_add) := goodIn_app (goodIn_of _ (by decide +kernel)) ggX2_take_X5_add
set_option maxRecDepth 20000 in
theorem ggX2_take_X5_get : GoodIn wsX2_take wsX5_get := goodIn_r _ [18, 19, 20, 21, 22, 12, 23, 14, 42, 43] (by decide +kernel) (by decide +kernel)
set_option maxRecDepth 20000 in
theorem gX2_take_X5_get : GoodIn wsX2_take (wsV RX2 52 RX5 yX5_get wsX5_get) := goodIn_app (goodIn_of _ (by decide +kernel)) ggX2_take_X5_get
set_option maxRecDepth 20000 in
theorem ggX2_take_X5_set : GoodIn wsX2_take wsX5_set := goodIn_r _ [31, 19, 20, 21, 22, 12, 23, 14, 42, 43] (by decide +kernel) (by decide +kernel)
set_option maxRecDepth 20000 in
theorem gX2_take_X5_set : GoodIn wsX2_take (wsV RX2 61 RX5 yX5_set wsX5_set) := goodIn_app (goodIn_of _ (by decide +kernel)) ggX2_take_X5_set
set_option maxRecDepth 20000 in
theorem ggX2_take_X5_append : GoodIn wsX2_take wsX5_append := goodIn_r _ [37, 14, 19, 42, 43] (by decide +kernel) (by decide +kernel)
set_option maxRecDepth 20000 in
theorem gX2_take_X5_append : GoodIn wsX2_take (wsV RX2 64 RX5 yX5_append wsX5_append) := goodIn_app (goodIn_of _ (by decide +kernel)) ggX2_take_X5_append
theorem dX2_take_0 : decode cX2_take 0 = .ok (.aload_n 0, 1) := by decide +kernel
theorem dX2_take_1 : decode cX2_take 1 = .ok (.getfield 14, 3) := by decide +kernel
theorem dX2_take_4 : decode cX2_take 4 = .ok (.iload_n 1, 1) := by decide +kernel
theorem dX2_take_5 : decode cX2_take 5 = .ok (.invokevirtual 44, 3) := by decide +kernel
theorem dX2_take_8 : decode cX2_take 8 = .ok (.istore_n 3, 1) := by decide +kernel
theorem dX2_take_9 : decode cX2_take 9 = .ok (.iload_n 3, 1) := by decide +kernel
theorem dX2_take_10 : decode cX2_take 10 = .ok (.ifCond .lt 34, 3) := by decide +kernel
theorem dX2_take_13 : decode cX2_take 13 = .ok (.aload_n 0, 1) := by decide +kernel
theorem dX2_take_14 : decode cX2_take 14 = .ok (.getfield 23, 3) := by decide +kernel
theorem dX2_take_17 : decode cX2_take 17 = .ok (.iload_n 3, 1) := by decide +kernel
theorem dX2_take_18 : decode cX2_take 18 = .ok (.iconst 1, 1) := by decide +kernel
theorem dX2_take_19 : decode cX2_take 19 = .ok (.invokevirtual 48, 3) := by decide +kernel
theorem dX2_take_22 : decode cX2_take 22 = .ok (.aload_n 0, 1) := by decide +kernel
theorem dX2_take_23 : decode cX2_take 23 = .ok (.getfield 26, 3) := by decide +kernel
theorem dX2_take_26 : decode cX2_take 26 = .ok (.iload_n 3, 1) := by decide +kernel
theorem dX2_take_27 : decode cX2_take 27 = .ok (.aload_n 0, 1) := by decide +kernel
theorem dX2_take_28 : decode cX2_take 28 = .ok (.getfield 26, 3) := by decide +kernel
theorem dX2_take_31 : decode cX2_take 31 = .ok (.iload_n 3, 1) := by decide +kernel
theorem dX2_take_32 : decode cX2_take 32 = .ok (.invokevirtual 52, 3) := by decide +kernel
theorem dX2_take_35 : decode cX2_take 35 = .ok (.iload_n 2, 1) := by decide +kernel
theorem dX2_take_36 : decode cX2_take 36 = .ok (.invokestatic 55, 3) := by decide +kernel
theorem dX2_take_39 : decode cX2_take 39 = .ok (.invokevirtual 61, 3) := by decide +kernel
theorem dX2_take_42 : decode cX2_take 42 = .ok (.iconst 1, 1) := by decide +kernel
theorem dX2_take_43 : decode cX2_take 43 = .ok (.ireturn, 1) := by decide +kernel
theorem dX2_take_44 : decode cX2_take 44 = .ok (.aload_n 0, 1) := by decide +kernel
theorem dX2_take_45 : decode cX2_take 45 = .ok (.getfield 14, 3) := by decide +kernel
theorem dX2_take_48 : decode cX2_take 48 = .ok (.iload_n 1, 1) := by decide +kernel
theorem dX2_take_49 : decode cX2_take 49 = .ok (.invokevirtual 64, 3) := by decide +kernel
theorem dX2_take_52 : decode cX2_take 52 = .ok (.aload_n 0, 1) := by decide +kernel
theorem dX2_take_53 : decode cX2_take 53 = .ok (.getfield 20, 3) := by decide +kernel
theorem dX2_take_56 : decode cX2_take 56 = .ok (.iconst 0, 1) := by decide +kernel
theorem dX2_take_57 : decode cX2_take 57 = .ok (.invokevirtual 64, 3) := by decide +kernel
theorem dX2_take_60 : decode cX2_take 60 = .ok (.aload_n 0, 1) := by decide +kernel
theorem dX2_take_61 : decode cX2_take 61 = .ok (.getfield 23, 3) := by decide +kernel
theorem dX2_take_64 : decode cX2_take 64 = .ok (.iconst 1, 1) := by decide +kernel
theorem dX2_take_65 : decode cX2_take 65 = .ok (.invokevirtual 64, 3) := by decide +kernel
theorem dX2_take_68 : decode cX2_take 68 = .ok (.aload_n 0, 1) := by decide +kernel
theorem dX2_take_69 : decode cX2_take 69 = .ok (.getfield 26, 3) := by decide +kernel
theorem dX2_take_72 : decode cX2_take 72 = .ok (.iload_n 2, 1) := by decide +kernel
theorem dX2_take_73 : decode cX2_take 73 = .ok (.invokevirtual 64, 3) := by decide +kernel
theorem dX2_take_76 : decode cX2_take 76 = .ok (.iconst 0, 1) := by decide +kernel
theorem dX2_take_77 : decode cX2_take 77 = .ok (.ireturn, 1) := by decide +kernel
set_option maxRecDepth 20000 in
theorem ggX2_howManyAreOpen_X5_used : GoodIn wsX2_howManyAreOpen wsX5_used := goodIn_r _ [6, 7, 21, 22] (by decide +kernel) (by decide +kernel)
set_option maxRecDepth 20000 in
theorem gX2_howManyAreOpen_X5_used : GoodIn wsX2_howManyAreOpen (wsV RX2 36 RX5 yX5_used wsX5_used) := goodIn_app (goodIn_of _ (by decide +kernel)) ggX2_howManyAreOpen_X5_used
set_option maxRecDepth 20000 in
theorem ggX2_howManyAreOpen_X5_get : GoodIn wsX2_howManyAreOpen wsX5_get := goodIn_r _ [11, 12, 13, 14, 15, 5, 16, 7, 21, 22] (by decide +kernel) (by decide +kernel)
set_option maxRecDepth 20000 in
theorem gX2_howManyAreOpen_X5_get : GoodIn wsX2_howManyAreOpen (wsV RX2 52 RX5 yX5_get wsX5_get) := goodIn_app (goodIn_of _ (by decide +kernel)) ggX2_howManyAreOpen_X5_get
theorem dX2_howManyAreOpen_0 : decode cX2_howManyAreOpen 0 = .ok (.iconst 0, 1) := by decide +kernel
theorem dX2_howManyAreOpen_1 : decode cX2_howManyAreOpen 1 = .ok (.istore_n 1, 1) := by decide +kernel
theorem dX2_howManyAreOpen_2 : decode cX2_howManyAreOpen 2 = .ok (.iconst 0, 1) := by decide +kernel
theorem dX2_howManyAreOpen_3 : decode cX2_howManyAreOpen 3 = .ok (.istore_n 2, 1) := by decide +kernel
theorem dX2_howManyAreOpen_4 : decode cX2_howManyAreOpen 4 = .ok (.iload_n 2, 1) := by decide +kernel
theorem dX2_howManyAreOpen_5 : decode cX2_howManyAreOpen 5 = .ok (.aload_n 0, 1) := by decide +kernel
theorem dX2_howManyAreOpen_6 : decode cX2_howManyAreOpen 6 = .ok (.getfield 20, 3) := by decide +kernel
theorem dX2_howManyAreOpen_9 : decode cX2_howManyAreOpen 9 = .ok (.invokevirtual 36, 3) := by decide +kernel
theorem dX2_howManyAreOpen_12 : decode cX2_howManyAreOpen 12 = .ok (.if_icmp .ge 23, 3) := by decide +kernel
theorem dX2_howManyAreOpen_15 : decode cX2_howManyAreOpen 15 = .ok (.aload_n 0, 1) := by decide +kernel
theorem dX2_howManyAreOpen_16 : decode cX2_howManyAreOpen 16 = .ok (.getfield 20, 3) := by decide +kernel
theorem dX2_howManyAreOpen_19 : decode cX2_howManyAreOpen 19 = .ok (.iload_n 2, 1) := by decide +kernel
theorem dX2_howManyAreOpen_20 : decode cX2_howManyAreOpen 20 = .ok (.invokevirtual 52, 3) := by decide +kernel
theorem dX2_howManyAreOpen_23 : decode cX2_howManyAreOpen 23 = .ok (.ifCond .ne 6, 3) := by decide +kernel
theorem dX2_howManyAreOpen_26 : decode cX2_howManyAreOpen 26 = .ok (.iinc 1 1, 3) := by decide +kernel
theorem dX2_howManyAreOpen_29 : decode cX2_howManyAreOpen 29 = .ok (.iinc 2 1, 3) := by decide +kernel
theorem dX2_howManyAreOpen_32 : decode cX2_howManyAreOpen 32 = .ok (.goto (-28), 3) := by decide +kernel
theorem dX2_howManyAreOpen_35 : decode cX2_howManyAreOpen 35 = .ok (.iload_n 1, 1) := by decide +kernel
theorem dX2_howManyAreOpen_36 : decode cX2_howManyAreOpen 36 = .ok (.ireturn, 1) := by decide +kernel
set_option maxRecDepth 20000 in
theorem ggX2_howManyOppose_X5_used : GoodIn wsX2_howManyOppose wsX5_used := goodIn_r _ [6, 7, 37, 38] (by decide +kernel) (by decide +kernel)
set_option maxRecDepth 20000 in
theorem gX2_howManyOppose_X5_used : GoodIn wsX2_howManyOppose (wsV RX2 36 RX5 yX5_used wsX5_used) := goodIn_app (goodIn_of _ (by decide +kernel)) ggX2_howManyOppose_X5_used
set_option maxRecDepth 20000 in
theorem ggX2_howManyOppose_X5_get : GoodIn wsX2_howManyOppose wsX5_get := goodIn_r _ [11, 12, 13, 14, 15, 5, 16, 7, 37, 38] (by decide +kernel) (by decide +kernel)
set_option maxRecDepth 20000 in
theorem gX2_howManyOppose_X5_get : GoodIn wsX2_howManyOppose (wsV RX2 52 RX5 yX5_get wsX5_get) := goodIn_app (goodIn_of _ (by decide +kernel)) ggX2_howManyOppose_X5_get
set_option maxRecDepth 20000 in
theorem ggX2_howManyOppose_X1_areOpposed : GoodIn wsX2_howManyOppose wsX1_areOpposed := goodIn_r _ [20, 21, 22, 19, 23, 24, 25, 26, 27, 28, 29, 30, 31, 32] (by decide +kernel) (by decide +kernel)
set_option maxRecDepth 20000 in
theorem gX2_howManyOppose_X1_areOpposed : GoodIn wsX2_howManyOppose (va_wsS RX2 67 yX1_areOpposed wsX1_areOpposed) := goodIn_app (goodIn_of _ (by decide +kernel)) ggX2_howManyOppose_X1_areOpposed
theorem dX2_howManyOppose_0 : decode cX2_howManyOppose 0 = .ok (.iconst 0, 1) := by decide +kernel
theorem dX2_howManyOppose_1 : decode cX2_howManyOppose 1 = .ok (.istore_n 2, 1) := by decide +kernel
theorem dX2_howManyOppose_2 : decode cX2_howManyOppose 2 = .ok (.iconst 0, 1) := by decide +kernel
theorem dX2_howManyOppose_3 : decode cX2_howManyOppose 3 = .ok (.istore_n 3, 1) := by decide +kernel
theorem dX2_howManyOppose_4 : decode cX2_howManyOppose 4 = .ok (.iload_n 3, 1) := by decide +kernel
theorem dX2_howManyOppose_5 : decode cX2_howManyOppose 5 = .ok (.aload_n 0, 1) := by decide +kernel
theorem dX2_howManyOppose_6 : decode cX2_howManyOppose 6 = .ok (.getfield 14, 3) := by decide +kernel
theorem dX2_howManyOppose_9 : decode cX2_howManyOppose 9 = .ok (.invokevirtual 36, 3) := by decide +kernel
theorem dX2_howManyOppose_12 : decode cX2_howManyOppose 12 = .ok (.if_icmp .ge 27, 3) := by decide +kernel
theorem dX2_howManyOppose_15 : decode cX2_howManyOppose 15 = .ok (.iload_n 1, 1) := by decide +kernel
theorem dX2_howManyOppose_16 : decode cX2_howManyOppose 16 = .ok (.aload_n 0, 1) := by decide +kernel
theorem dX2_howManyOppose_17 : decode cX2_howManyOppose 17 = .ok (.getfield 14, 3) := by decide +kernel
theorem dX2_howManyOppose_20 : decode cX2_howManyOppose 20 = .ok (.iload_n 3, 1) := by decide +kernel
theorem dX2_howManyOppose_21 : decode cX2_howManyOppose 21 = .ok (.invokevirtual 52, 3) := by decide +kernel
theorem dX2_howManyOppose_24 : decode cX2_howManyOppose 24 = .ok (.invokestatic 67, 3) := by decide +kernel
theorem dX2_howManyOppose_27 : decode cX2_howManyOppose 27 = .ok (.ifCond .eq 6, 3) := by decide +kernel
theorem dX2_howManyOppose_30 : decode cX2_howManyOppose 30 = .ok (.iinc 2 1, 3) := by decide +kernel
theorem dX2_howManyOppose_33 : decode cX2_howManyOppose 33 = .ok (.iinc 3 1, 3) := by decide +kernel
theorem dX2_howManyOppose_36 : decode cX2_howManyOppose 36 = .ok (.goto (-32), 3) := by decide +kernel
theorem dX2_howManyOppose_39 : decode cX2_howManyOppose 39 = .ok (.iload_n 2, 1) := by decide +kernel
theorem dX2_howManyOppose_40 : decode cX2_howManyOppose 40 = .ok (.ireturn, 1) := by decide +kernel
set_option maxRecDepth 20000 in
theorem ggX2_opposedPairs_X5_used : GoodIn wsX2_opposedPairs wsX5_used := goodIn_r _ [6, 7, 42, 43] (by decide +kernel) (by decide +kernel)
set_option maxRecDepth 20000 in
theorem gX2_opposedPairs_X5_used : GoodIn wsX2_opposedPairs (wsV RX2 36 RX5 yX5_used wsX5_used) := goodIn_app (goodIn_of _ (by decide +kernel)) ggX2_opposedPairs_X5_used
set_option maxRecDepth 20000 in
theorem ggX2_opposedPairs_X5_get : GoodIn wsX2_opposedPairs wsX5_get := goodIn_r _ [11, 12, 13, 14, 15, 5, 16, 7, 42, 43] (by decide +kernel) (by decide +kernel)
set_option maxRecDepth 20000 in
theorem gX2_opposedPairs_X5_get : GoodIn wsX2_opposedPairs (wsV RX2 52 RX5 yX5_get wsX5_get) := goodIn_app (goodIn_of _ (by decide +kernel)) ggX2_opposedPairs_X5_get
set_option maxRecDepth 20000 in
theorem ggX2_opposedPairs_X2_howManyOppose : GoodIn wsX2_opposedPairs wsX2_howManyOppose := goodIn_r _ [21, 1, 2, 3, 4, 5, 6, 7, 8, 9, 10, 11, 12, 13, 14, 15, 16, 22, 23, 24, 25, 26, 27, 28, 29, 30, 31, 32, 33, 34, 35, 36, 37, 38, 39, 40, 41, 42, 43] (by decide +kernel) (by decide +kernel)
set_option maxRecDepth 20000 in
theorem gX2_opposedPairs_X2_howManyOppose : GoodIn wsX2_opposedPairs (wsV RX2 73 RX2 yX2_howManyOppose wsX2_howManyOppose) := goodIn_app (goodIn_of _ (by decide +kernel)) ggX2_opposedPairs_X2_howManyOppose
theorem dX2_opposedPairs_0 : decode cX2_opposedPairs 0 = .ok (.iconst 0, 1) := by decide +kernel
theorem dX2_opposedPairs_1 : decode cX2_opposedPairs 1 = .ok (.istore_n 1, 1) := by decide +kernel
theorem dX2_opposedPairs_2 : decode cX2_opposedPairs 2 = .ok (.iconst 0, 1) := by decide +kernel
theorem dX2_opposedPairs_3 : decode cX2_opposedPairs 3 = .ok (.istore_n 2, 1) := by decide +kernel
theorem dX2_opposedPairs_4 : decode cX2_opposedPairs 4 = .ok (.iload_n 2, 1) := by decide +kernel
theorem dX2_opposedPairs_5 : decode cX2_opposedPairs 5 = .ok (.aload_n 0, 1) := by decide +kernel
theorem dX2_opposedPairs_6 : decode cX2_opposedPairs 6 = .ok (.getfield 14, 3) := by decide +kernel
theorem dX2_opposedPairs_9 : decode cX2_opposedPairs 9 = .ok (.invokevirtual 36, 3) := by decide +kernel
theorem dX2_opposedPairs_12 : decode cX2_opposedPairs 12 = .ok (.if_icmp .ge 24, 3) := by decide +kernel
theorem dX2_opposedPairs_15 : decode cX2_opposedPairs 15 = .ok (.iload_n 1, 1) := by decide +kernel
theorem dX2_opposedPairs_16 : decode cX2_opposedPairs 16 = .ok (.aload_n 0, 1) := by decide +kernel
theorem dX2_opposedPairs_17 : decode cX2_opposedPairs 17 = .ok (.aload_n 0, 1) := by decide +kernel
theorem dX2_opposedPairs_18 : decode cX2_opposedPairs 18 = .ok (.getfield 14, 3) := by decide +kernel
theorem dX2_opposedPairs_21 : decode cX2_opposedPairs 21 = .ok (.iload_n 2, 1) := by decide +kernel
theorem dX2_opposedPairs_22 : decode cX2_opposedPairs 22 = .ok (.invokevirtual 52, 3) := by decide +kernel
theorem dX2_opposedPairs_25 : decode cX2_opposedPairs 25 = .ok (.invokevirtual 73, 3) := by decide +kernel
theorem dX2_opposedPairs_28 : decode cX2_opposedPairs 28 = .ok (.iadd, 1) := by decide +kernel
theorem dX2_opposedPairs_29 : decode cX2_opposedPairs 29 = .ok (.istore_n 1, 1) := by decide +kernel
theorem dX2_opposedPairs_30 : decode cX2_opposedPairs 30 = .ok (.iinc 2 1, 3) := by decide +kernel
theorem dX2_opposedPairs_33 : decode cX2_opposedPairs 33 = .ok (.goto (-29), 3) := by decide +kernel
theorem dX2_opposedPairs_36 : decode cX2_opposedPairs 36 = .ok (.iload_n 1, 1) := by decide +kernel
theorem dX2_opposedPairs_37 : decode cX2_opposedPairs 37 = .ok (.iconst 2, 1) := by decide +kernel
theorem dX2_opposedPairs_38 : decode cX2_opposedPairs 38 = .ok (.idiv, 1) := by decide +kernel
theorem dX2_opposedPairs_39 : decode cX2_opposedPairs 39 = .ok (.ireturn, 1) := by decide +kernel
set_option maxRecDepth 20000 in
theorem ggX2_meetsAnAccepted_X5_used : GoodIn wsX2_meetsAnAccepted wsX5_used := goodIn_r _ [7, 8, 38, 39] (by decide +kernel) (by decide +kernel)
set_option maxRecDepth 20000 in
theorem gX2_meetsAnAccepted_X5_used : GoodIn wsX2_meetsAnAccepted (wsV RX2 36 RX5 yX5_used wsX5_used) := goodIn_app (goodIn_of _ (by decide +kernel)) ggX2_meetsAnAccepted_X5_used
set_option maxRecDepth 20000 in
theorem ggX2_meetsAnAccepted_X5_get : GoodIn wsX2_meetsAnAccepted wsX5_get := goodIn_r _ [12, 13, 14, 15, 16, 6, 17, 8, 38, 39] (by decide +kernel) (by decide +kernel)
set_option maxRecDepth 20000 in
theorem gX2_meetsAnAccepted_X5_get : GoodIn wsX2_meetsAnAccepted (wsV RX2 52 RX5 yX5_get wsX5_get) := goodIn_app (goodIn_of _ (by decide +kernel)) ggX2_meetsAnAccepted_X5_get
set_option maxRecDepth 20000 in
theorem ggX2_meetsAnAccepted_X1_areOpposed : GoodIn wsX2_meetsAnAccepted wsX1_areOpposed := goodIn_r _ [21, 22, 23, 20, 24, 25, 26, 27, 28, 29, 30, 31, 32, 33] (by decide +kernel) (by decide +kernel)
set_option maxRecDepth 20000 in
theorem gX2_meetsAnAccepted_X1_areOpposed : GoodIn wsX2_meetsAnAccepted (va_wsS RX2 67 yX1_areOpposed wsX1_areOpposed) := goodIn_app (goodIn_of _ (by decide +kernel)) ggX2_meetsAnAccepted_X1_areOpposed
theorem dX2_meetsAnAccepted_0 : decode cX2_meetsAnAccepted 0 = .ok (.iconst 0, 1) := by decide +kernel
theorem dX2_meetsAnAccepted_1 : decode cX2_meetsAnAccepted 1 = .ok (.istore_n 2, 1) := by decide +kernel
theorem dX2_meetsAnAccepted_2 : decode cX2_meetsAnAccepted 2 = .ok (.iload_n 2, 1) := by decide +kernel
theorem dX2_meetsAnAccepted_3 : decode cX2_meetsAnAccepted 3 = .ok (.aload_n 0, 1) := by decide +kernel
theorem dX2_meetsAnAccepted_4 : decode cX2_meetsAnAccepted 4 = .ok (.getfield 14, 3) := by decide +kernel
theorem dX2_meetsAnAccepted_7 : decode cX2_meetsAnAccepted 7 = .ok (.invokevirtual 36, 3) := by decide +kernel
theorem dX2_meetsAnAccepted_10 : decode cX2_meetsAnAccepted 10 = .ok (.if_icmp .ge 38, 3) := by decide +kernel
theorem dX2_meetsAnAccepted_13 : decode cX2_meetsAnAccepted 13 = .ok (.aload_n 0, 1) := by decide +kernel
theorem dX2_meetsAnAccepted_14 : decode cX2_meetsAnAccepted 14 = .ok (.getfield 20, 3) := by decide +kernel
theorem dX2_meetsAnAccepted_17 : decode cX2_meetsAnAccepted 17 = .ok (.iload_n 2, 1) := by decide +kernel
theorem dX2_meetsAnAccepted_18 : decode cX2_meetsAnAccepted 18 = .ok (.invokevirtual 52, 3) := by decide +kernel
theorem dX2_meetsAnAccepted_21 : decode cX2_meetsAnAccepted 21 = .ok (.iconst 1, 1) := by decide +kernel
theorem dX2_meetsAnAccepted_22 : decode cX2_meetsAnAccepted 22 = .ok (.if_icmp .ne 20, 3) := by decide +kernel
theorem dX2_meetsAnAccepted_25 : decode cX2_meetsAnAccepted 25 = .ok (.iload_n 1, 1) := by decide +kernel
theorem dX2_meetsAnAccepted_26 : decode cX2_meetsAnAccepted 26 = .ok (.aload_n 0, 1) := by decide +kernel
theorem dX2_meetsAnAccepted_27 : decode cX2_meetsAnAccepted 27 = .ok (.getfield 14, 3) := by decide +kernel
theorem dX2_meetsAnAccepted_30 : decode cX2_meetsAnAccepted 30 = .ok (.iload_n 2, 1) := by decide +kernel
theorem dX2_meetsAnAccepted_31 : decode cX2_meetsAnAccepted 31 = .ok (.invokevirtual 52, 3) := by decide +kernel
theorem dX2_meetsAnAccepted_34 : decode cX2_meetsAnAccepted 34 = .ok (.invokestatic 67, 3) := by decide +kernel
theorem dX2_meetsAnAccepted_37 : decode cX2_meetsAnAccepted 37 = .ok (.ifCond .eq 5, 3) := by decide +kernel
theorem dX2_meetsAnAccepted_40 : decode cX2_meetsAnAccepted 40 = .ok (.iconst 1, 1) := by decide +kernel
theorem dX2_meetsAnAccepted_41 : decode cX2_meetsAnAccepted 41 = .ok (.ireturn, 1) := by decide +kernel
theorem dX2_meetsAnAccepted_42 : decode cX2_meetsAnAccepted 42 = .ok (.iinc 2 1, 3) := by decide +kernel
theorem dX2_meetsAnAccepted_45 : decode cX2_meetsAnAccepted 45 = .ok (.goto (-43), 3) := by decide +kernel
theorem dX2_meetsAnAccepted_48 : decode cX2_meetsAnAccepted 48 = .ok (.iconst 0, 1) := by decide +kernel
theorem dX2_meetsAnAccepted_49 : decode cX2_meetsAnAccepted 49 = .ok (.ireturn, 1) := by decide +kernel
set_option maxRecDepth 20000 in
theorem ggX2_canBeAccepted_X5_get : GoodIn wsX2_canBeAccepted wsX5_get := goodIn_r _ [7, 8, 9, 10, 11, 6, 12, 13, 43, 44] (by decide +kernel) (by decide +kernel)
set_option maxRecDepth 20000 in
theorem gX2_canBeAccepted_X5_get : GoodIn wsX2_canBeAccepted (wsV RX2 52 RX5 yX5_get wsX5_get) := goodIn_app (goodIn_of _ (by decide +kernel)) ggX2_canBeAccepted_X5_get
set_option maxRecDepth 20000 in
theorem ggX2_canBeAccepted_X2_meetsAnAccepted : GoodIn wsX2_canBeAccepted wsX2_meetsAnAccepted := goodIn_r _ [18, 2, 1, 19, 20, 21, 6, 22, 13, 3, 4, 5, 7, 8, 9, 10, 11, 12, 23, 24, 25, 26, 27, 28, 29, 30, 31, 32, 33, 34, 35, 36, 37, 38, 39, 40, 41, 42, 43, 44] (by decide +kernel) (by decide +kernel)
set_option maxRecDepth 20000 in
theorem gX2_canBeAccepted_X2_meetsAnAccepted : GoodIn wsX2_canBeAccepted (wsV RX2 76 RX2 yX2_meetsAnAccepted wsX2_meetsAnAccepted) := goodIn_app (goodIn_of _ (by decide +kernel)) ggX2_canBeAccepted_X2_meetsAnAccepted
theorem dX2_canBeAccepted_0 : decode cX2_canBeAccepted 0 = .ok (.aload_n 0, 1) := by decide +kernel
theorem dX2_canBeAccepted_1 : decode cX2_canBeAccepted 1 = .ok (.getfield 20, 3) := by decide +kernel
theorem dX2_canBeAccepted_4 : decode cX2_canBeAccepted 4 = .ok (.iload_n 1, 1) := by decide +kernel
theorem dX2_canBeAccepted_5 : decode cX2_canBeAccepted 5 = .ok (.invokevirtual 52, 3) := by decide +kernel
theorem dX2_canBeAccepted_8 : decode cX2_canBeAccepted 8 = .ok (.ifCond .ne 22, 3) := by decide +kernel
theorem dX2_canBeAccepted_11 : decode cX2_canBeAccepted 11 = .ok (.aload_n 0, 1) := by decide +kernel
theorem dX2_canBeAccepted_12 : decode cX2_canBeAccepted 12 = .ok (.aload_n 0, 1) := by decide +kernel
theorem dX2_canBeAccepted_13 : decode cX2_canBeAccepted 13 = .ok (.getfield 14, 3) := by decide +kernel
theorem dX2_canBeAccepted_16 : decode cX2_canBeAccepted 16 = .ok (.iload_n 1, 1) := by decide +kernel
theorem dX2_canBeAccepted_17 : decode cX2_canBeAccepted 17 = .ok (.invokevirtual 52, 3) := by decide +kernel
theorem dX2_canBeAccepted_20 : decode cX2_canBeAccepted 20 = .ok (.invokevirtual 76, 3) := by decide +kernel
theorem dX2_canBeAccepted_23 : decode cX2_canBeAccepted 23 = .ok (.ifCond .ne 7, 3) := by decide +kernel
theorem dX2_canBeAccepted_26 : decode cX2_canBeAccepted 26 = .ok (.iconst 1, 1) := by decide +kernel
theorem dX2_canBeAccepted_27 : decode cX2_canBeAccepted 27 = .ok (.goto 4, 3) := by decide +kernel
theorem dX2_canBeAccepted_30 : decode cX2_canBeAccepted 30 = .ok (.iconst 0, 1) := by decide +kernel
theorem dX2_canBeAccepted_31 : decode cX2_canBeAccepted 31 = .ok (.ireturn, 1) := by decide +kernel
set_option maxRecDepth 20000 in
theorem ggX2_howManyAreListed_X5_used : GoodIn wsX2_howManyAreListed wsX5_used := goodIn_r _ [6, 7, 26, 27] (by decide +kernel) (by decide +kernel)
set_option maxRecDepth 20000 in
theorem gX2_howManyAreListed_X5_used : GoodIn wsX2_howManyAreListed (wsV RX2 36 RX5 yX5_used wsX5_used) := goodIn_app (goodIn_of _ (by decide +kernel)) ggX2_howManyAreListed_X5_used
set_option maxRecDepth 20000 in
theorem ggX2_howManyAreListed_X5_get : GoodIn wsX2_howManyAreListed wsX5_get := goodIn_r _ [11, 12, 13, 14, 15, 5, 16, 7, 26, 27] (by decide +kernel) (by decide +kernel)
set_option maxRecDepth 20000 in
theorem gX2_howManyAreListed_X5_get : GoodIn wsX2_howManyAreListed (wsV RX2 52 RX5 yX5_get wsX5_get) := goodIn_app (goodIn_of _ (by decide +kernel)) ggX2_howManyAreListed_X5_get
set_option maxRecDepth 20000 in
theorem ggX2_howManyAreListed_X5_placeOf : GoodIn wsX2_howManyAreListed wsX5_placeOf := goodIn_r _ [20, 7, 21, 9, 10, 5, 11, 12, 13, 14, 15, 16, 26, 27] (by decide +kernel) (by decide +kernel)
set_option maxRecDepth 20000 in
theorem gX2_howManyAreListed_X5_placeOf : GoodIn wsX2_howManyAreListed (wsV RX2 44 RX5 yX5_placeOf wsX5_placeOf) := goodIn_app (goodIn_of _ (by decide +kernel)) ggX2_howManyAreListed_X5_placeOf
theorem dX2_howManyAreListed_0 : decode cX2_howManyAreListed 0 = .ok (.iconst 0, 1) := by decide +kernel
theorem dX2_howManyAreListed_1 : decode cX2_howManyAreListed 1 = .ok (.istore_n 2, 1) := by decide +kernel
theorem dX2_howManyAreListed_2 : decode cX2_howManyAreListed 2 = .ok (.iconst 0, 1) := by decide +kernel
theorem dX2_howManyAreListed_3 : decode cX2_howManyAreListed 3 = .ok (.istore_n 3, 1) := by decide +kernel
theorem dX2_howManyAreListed_4 : decode cX2_howManyAreListed 4 = .ok (.iload_n 3, 1) := by decide +kernel
theorem dX2_howManyAreListed_5 : decode cX2_howManyAreListed 5 = .ok (.aload_n 1, 1) := by decide +kernel
theorem dX2_howManyAreListed_6 : decode cX2_howManyAreListed 6 = .ok (.invokevirtual 36, 3) := by decide +kernel
theorem dX2_howManyAreListed_9 : decode cX2_howManyAreListed 9 = .ok (.if_icmp .ge 27, 3) := by decide +kernel
theorem dX2_howManyAreListed_12 : decode cX2_howManyAreListed 12 = .ok (.aload_n 0, 1) := by decide +kernel
theorem dX2_howManyAreListed_13 : decode cX2_howManyAreListed 13 = .ok (.getfield 14, 3) := by decide +kernel
theorem dX2_howManyAreListed_16 : decode cX2_howManyAreListed 16 = .ok (.aload_n 1, 1) := by decide +kernel
theorem dX2_howManyAreListed_17 : decode cX2_howManyAreListed 17 = .ok (.iload_n 3, 1) := by decide +kernel
theorem dX2_howManyAreListed_18 : decode cX2_howManyAreListed 18 = .ok (.invokevirtual 52, 3) := by decide +kernel
theorem dX2_howManyAreListed_21 : decode cX2_howManyAreListed 21 = .ok (.invokevirtual 44, 3) := by decide +kernel
theorem dX2_howManyAreListed_24 : decode cX2_howManyAreListed 24 = .ok (.ifCond .lt 6, 3) := by decide +kernel
theorem dX2_howManyAreListed_27 : decode cX2_howManyAreListed 27 = .ok (.iinc 2 1, 3) := by decide +kernel
theorem dX2_howManyAreListed_30 : decode cX2_howManyAreListed 30 = .ok (.iinc 3 1, 3) := by decide +kernel
theorem dX2_howManyAreListed_33 : decode cX2_howManyAreListed 33 = .ok (.goto (-29), 3) := by decide +kernel
theorem dX2_howManyAreListed_36 : decode cX2_howManyAreListed 36 = .ok (.iload_n 2, 1) := by decide +kernel
theorem dX2_howManyAreListed_37 : decode cX2_howManyAreListed 37 = .ok (.ireturn, 1) := by decide +kernel
set_option maxRecDepth 20000 in
theorem ggX2_howManyMeetAnAccepted_X5_used : GoodIn wsX2_howManyMeetAnAccepted wsX5_used := goodIn_r _ [5, 6, 39, 40] (by decide +kernel) (by decide +kernel)
set_option maxRecDepth 20000 in
theorem gX2_howManyMeetAnAccepted_X5_used : GoodIn wsX2_howManyMeetAnAccepted (wsV RX2 36 RX5 yX5_used wsX5_used) := goodIn_app (goodIn_of _ (by decide +kernel)) ggX2_howManyMeetAnAccepted_X5_used
set_option maxRecDepth 20000 in
theorem ggX2_howManyMeetAnAccepted_X5_get : GoodIn wsX2_howManyMeetAnAccepted wsX5_get := goodIn_r _ [10, 11, 12, 13, 14, 4, 15, 6, 39, 40] (by decide +kernel) (by decide +kernel)
set_option maxRecDepth 20000 in
theorem gX2_howManyMeetAnAccepted_X5_get : GoodIn wsX2_howManyMeetAnAccepted (wsV RX2 52 RX5 yX5_get wsX5_get) := goodIn_app (goodIn_of _ (by decide +kernel)) ggX2_howManyMeetAnAccepted_X5_get
set_option maxRecDepth 20000 in
theorem ggX2_howManyMeetAnAccepted_X2_meetsAnAccepted : GoodIn wsX2_howManyMeetAnAccepted wsX2_meetsAnAccepted := goodIn_r _ [20, 21, 22, 1, 2, 3, 4, 5, 6, 7, 8, 9, 10, 11, 12, 13, 14, 15, 23, 24, 25, 26, 27, 28, 29, 30, 31, 32, 33, 34, 35, 36, 37, 38, 41, 42, 43, 44, 39, 40] (by decide +kernel) (by decide +kernel)
set_option maxRecDepth 20000 in
theorem gX2_howManyMeetAnAccepted_X2_meetsAnAccepted : GoodIn wsX2_howManyMeetAnAccepted (wsV RX2 76 RX2 yX2_meetsAnAccepted wsX2_meetsAnAccepted) := goodIn_app (goodIn_of _ (by decide +kernel)) ggX2_howManyMeetAnAccepted_X2_meetsAnAccepted
theorem dX2_howManyMeetAnAccepted_0 : decode cX2_howManyMeetAnAccepted 0 = .ok (.iconst 0, 1) := by decide +kernel
theorem dX2_howManyMeetAnAccepted_1 : decode cX2_howManyMeetAnAccepted 1 = .ok (.istore_n 2, 1) := by decide +kernel
theorem dX2_howManyMeetAnAccepted_2 : decode cX2_howManyMeetAnAccepted 2 = .ok (.iconst 0, 1) := by decide +kernel
theorem dX2_howManyMeetAnAccepted_3 : decode cX2_howManyMeetAnAccepted 3 = .ok (.istore_n 3, 1) := by decide +kernel
theorem dX2_howManyMeetAnAccepted_4 : decode cX2_howManyMeetAnAccepted 4 = .ok (.iload_n 3, 1) := by decide +kernel
theorem dX2_howManyMeetAnAccepted_5 : decode cX2_howManyMeetAnAccepted 5 = .ok (.aload_n 1, 1) := by decide +kernel
theorem dX2_howManyMeetAnAccepted_6 : decode cX2_howManyMeetAnAccepted 6 = .ok (.invokevirtual 36, 3) := by decide +kernel
theorem dX2_howManyMeetAnAccepted_9 : decode cX2_howManyMeetAnAccepted 9 = .ok (.if_icmp .ge 24, 3) := by decide +kernel
theorem dX2_howManyMeetAnAccepted_12 : decode cX2_howManyMeetAnAccepted 12 = .ok (.aload_n 0, 1) := by decide +kernel
theorem dX2_howManyMeetAnAccepted_13 : decode cX2_howManyMeetAnAccepted 13 = .ok (.aload_n 1, 1) := by decide +kernel
theorem dX2_howManyMeetAnAccepted_14 : decode cX2_howManyMeetAnAccepted 14 = .ok (.iload_n 3, 1) := by decide +kernel
theorem dX2_howManyMeetAnAccepted_15 : decode cX2_howManyMeetAnAccepted 15 = .ok (.invokevirtual 52, 3) := by decide +kernel
theorem dX2_howManyMeetAnAccepted_18 : decode cX2_howManyMeetAnAccepted 18 = .ok (.invokevirtual 76, 3) := by decide +kernel
theorem dX2_howManyMeetAnAccepted_21 : decode cX2_howManyMeetAnAccepted 21 = .ok (.ifCond .eq 6, 3) := by decide +kernel
theorem dX2_howManyMeetAnAccepted_24 : decode cX2_howManyMeetAnAccepted 24 = .ok (.iinc 2 1, 3) := by decide +kernel
theorem dX2_howManyMeetAnAccepted_27 : decode cX2_howManyMeetAnAccepted 27 = .ok (.iinc 3 1, 3) := by decide +kernel
theorem dX2_howManyMeetAnAccepted_30 : decode cX2_howManyMeetAnAccepted 30 = .ok (.goto (-26), 3) := by decide +kernel
theorem dX2_howManyMeetAnAccepted_33 : decode cX2_howManyMeetAnAccepted 33 = .ok (.iload_n 2, 1) := by decide +kernel
theorem dX2_howManyMeetAnAccepted_34 : decode cX2_howManyMeetAnAccepted 34 = .ok (.ireturn, 1) := by decide +kernel
set_option maxRecDepth 20000 in
theorem ggX2_mostWanted_X5_used : GoodIn wsX2_mostWanted wsX5_used := goodIn_r _ [7, 8, 32, 33] (by decide +kernel) (by decide +kernel)
set_option maxRecDepth 20000 in
theorem gX2_mostWanted_X5_used : GoodIn wsX2_mostWanted (wsV RX2 36 RX5 yX5_used wsX5_used) := goodIn_app (goodIn_of _ (by decide +kernel)) ggX2_mostWanted_X5_used
set_option maxRecDepth 20000 in
theorem ggX2_mostWanted_X5_get : GoodIn wsX2_mostWanted wsX5_get := goodIn_r _ [12, 13, 14, 15, 16, 6, 17, 8, 32, 33] (by decide +kernel) (by decide +kernel)
set_option maxRecDepth 20000 in
theorem gX2_mostWanted_X5_get : GoodIn wsX2_mostWanted (wsV RX2 52 RX5 yX5_get wsX5_get) := goodIn_app (goodIn_of _ (by decide +kernel)) ggX2_mostWanted_X5_get
set_option maxRecDepth 20000 in
theorem ggX2_mostWanted_X2_isMoreWanted : GoodIn wsX2_mostWanted wsX2_isMoreWanted := goodIn_r _ [22, 23, 1, 9, 10, 11, 6, 12, 13, 14, 15, 16, 17, 8, 24, 25, 26, 27, 28, 29, 30, 31, 32, 33] (by decide +kernel) (by decide +kernel)
set_option maxRecDepth 20000 in
theorem gX2_mostWanted_X2_isMoreWanted : GoodIn wsX2_mostWanted (wsV RX2 80 RX2 yX2_isMoreWanted wsX2_isMoreWanted) := goodIn_app (goodIn_of _ (by decide +kernel)) ggX2_mostWanted_X2_isMoreWanted
theorem dX2_mostWanted_0 : decode cX2_mostWanted 0 = .ok (.iconst (-1), 1) := by decide +kernel
theorem dX2_mostWanted_1 : decode cX2_mostWanted 1 = .ok (.istore_n 1, 1) := by decide +kernel
theorem dX2_mostWanted_2 : decode cX2_mostWanted 2 = .ok (.iconst 0, 1) := by decide +kernel
theorem dX2_mostWanted_3 : decode cX2_mostWanted 3 = .ok (.istore_n 2, 1) := by decide +kernel
theorem dX2_mostWanted_4 : decode cX2_mostWanted 4 = .ok (.iload_n 2, 1) := by decide +kernel
theorem dX2_mostWanted_5 : decode cX2_mostWanted 5 = .ok (.aload_n 0, 1) := by decide +kernel
theorem dX2_mostWanted_6 : decode cX2_mostWanted 6 = .ok (.getfield 14, 3) := by decide +kernel
theorem dX2_mostWanted_9 : decode cX2_mostWanted 9 = .ok (.invokevirtual 36, 3) := by decide +kernel
theorem dX2_mostWanted_12 : decode cX2_mostWanted 12 = .ok (.if_icmp .ge 35, 3) := by decide +kernel
theorem dX2_mostWanted_15 : decode cX2_mostWanted 15 = .ok (.aload_n 0, 1) := by decide +kernel
theorem dX2_mostWanted_16 : decode cX2_mostWanted 16 = .ok (.getfield 20, 3) := by decide +kernel
theorem dX2_mostWanted_19 : decode cX2_mostWanted 19 = .ok (.iload_n 2, 1) := by decide +kernel
theorem dX2_mostWanted_20 : decode cX2_mostWanted 20 = .ok (.invokevirtual 52, 3) := by decide +kernel
theorem dX2_mostWanted_23 : decode cX2_mostWanted 23 = .ok (.ifCond .ne 18, 3) := by decide +kernel
theorem dX2_mostWanted_26 : decode cX2_mostWanted 26 = .ok (.iload_n 1, 1) := by decide +kernel
theorem dX2_mostWanted_27 : decode cX2_mostWanted 27 = .ok (.ifCond .lt 12, 3) := by decide +kernel
theorem dX2_mostWanted_30 : decode cX2_mostWanted 30 = .ok (.aload_n 0, 1) := by decide +kernel
theorem dX2_mostWanted_31 : decode cX2_mostWanted 31 = .ok (.iload_n 2, 1) := by decide +kernel
theorem dX2_mostWanted_32 : decode cX2_mostWanted 32 = .ok (.iload_n 1, 1) := by decide +kernel
theorem dX2_mostWanted_33 : decode cX2_mostWanted 33 = .ok (.invokevirtual 80, 3) := by decide +kernel
theorem dX2_mostWanted_36 : decode cX2_mostWanted 36 = .ok (.ifCond .eq 5, 3) := by decide +kernel
theorem dX2_mostWanted_39 : decode cX2_mostWanted 39 = .ok (.iload_n 2, 1) := by decide +kernel
theorem dX2_mostWanted_40 : decode cX2_mostWanted 40 = .ok (.istore_n 1, 1) := by decide +kernel
theorem dX2_mostWanted_41 : decode cX2_mostWanted 41 = .ok (.iinc 2 1, 3) := by decide +kernel
theorem dX2_mostWanted_44 : decode cX2_mostWanted 44 = .ok (.goto (-40), 3) := by decide +kernel
theorem dX2_mostWanted_47 : decode cX2_mostWanted 47 = .ok (.iload_n 1, 1) := by decide +kernel
theorem dX2_mostWanted_48 : decode cX2_mostWanted 48 = .ok (.ireturn, 1) := by decide +kernel
set_option maxRecDepth 20000 in
theorem ggX2_isMoreWanted_X5_get : GoodIn wsX2_isMoreWanted wsX5_get := goodIn_r _ [7, 8, 9, 10, 11, 6, 12, 13, 22, 23] (by decide +kernel) (by decide +kernel)
set_option maxRecDepth 20000 in
theorem gX2_isMoreWanted_X5_get : GoodIn wsX2_isMoreWanted (wsV RX2 52 RX5 yX5_get wsX5_get) := goodIn_app (goodIn_of _ (by decide +kernel)) ggX2_isMoreWanted_X5_get
set_option maxRecDepth 20000 in
theorem ggX2_isMoreWanted_X1_firstOf : GoodIn wsX2_isMoreWanted wsX1_firstOf := goodIn_r _ [17] (by decide +kernel) (by decide +kernel)
set_option maxRecDepth 20000 in
theorem gX2_isMoreWanted_X1_firstOf : GoodIn wsX2_isMoreWanted (va_wsS RX2 83 yX1_firstOf wsX1_firstOf) := goodIn_app (goodIn_of _ (by decide +kernel)) ggX2_isMoreWanted_X1_firstOf
theorem dX2_isMoreWanted_0 : decode cX2_isMoreWanted 0 = .ok (.aload_n 0, 1) := by decide +kernel
theorem dX2_isMoreWanted_1 : decode cX2_isMoreWanted 1 = .ok (.getfield 23, 3) := by decide +kernel
theorem dX2_isMoreWanted_4 : decode cX2_isMoreWanted 4 = .ok (.iload_n 1, 1) := by decide +kernel
theorem dX2_isMoreWanted_5 : decode cX2_isMoreWanted 5 = .ok (.invokevirtual 52, 3) := by decide +kernel
theorem dX2_isMoreWanted_8 : decode cX2_isMoreWanted 8 = .ok (.aload_n 0, 1) := by decide +kernel
theorem dX2_isMoreWanted_9 : decode cX2_isMoreWanted 9 = .ok (.getfield 23, 3) := by decide +kernel
theorem dX2_isMoreWanted_12 : decode cX2_isMoreWanted 12 = .ok (.iload_n 2, 1) := by decide +kernel
theorem dX2_isMoreWanted_13 : decode cX2_isMoreWanted 13 = .ok (.invokevirtual 52, 3) := by decide +kernel
theorem dX2_isMoreWanted_16 : decode cX2_isMoreWanted 16 = .ok (.if_icmp .eq 28, 3) := by decide +kernel
theorem dX2_isMoreWanted_19 : decode cX2_isMoreWanted 19 = .ok (.aload_n 0, 1) := by decide +kernel
theorem dX2_isMoreWanted_20 : decode cX2_isMoreWanted 20 = .ok (.getfield 23, 3) := by decide +kernel
theorem dX2_isMoreWanted_23 : decode cX2_isMoreWanted 23 = .ok (.iload_n 1, 1) := by decide +kernel
theorem dX2_isMoreWanted_24 : decode cX2_isMoreWanted 24 = .ok (.invokevirtual 52, 3) := by decide +kernel
theorem dX2_isMoreWanted_27 : decode cX2_isMoreWanted 27 = .ok (.aload_n 0, 1) := by decide +kernel
theorem dX2_isMoreWanted_28 : decode cX2_isMoreWanted 28 = .ok (.getfield 23, 3) := by decide +kernel
theorem dX2_isMoreWanted_31 : decode cX2_isMoreWanted 31 = .ok (.iload_n 2, 1) := by decide +kernel
theorem dX2_isMoreWanted_32 : decode cX2_isMoreWanted 32 = .ok (.invokevirtual 52, 3) := by decide +kernel
theorem dX2_isMoreWanted_35 : decode cX2_isMoreWanted 35 = .ok (.if_icmp .le 7, 3) := by decide +kernel
theorem dX2_isMoreWanted_38 : decode cX2_isMoreWanted 38 = .ok (.iconst 1, 1) := by decide +kernel
theorem dX2_isMoreWanted_39 : decode cX2_isMoreWanted 39 = .ok (.goto 4, 3) := by decide +kernel
theorem dX2_isMoreWanted_42 : decode cX2_isMoreWanted 42 = .ok (.iconst 0, 1) := by decide +kernel
theorem dX2_isMoreWanted_43 : decode cX2_isMoreWanted 43 = .ok (.ireturn, 1) := by decide +kernel
theorem dX2_isMoreWanted_44 : decode cX2_isMoreWanted 44 = .ok (.aload_n 0, 1) := by decide +kernel
theorem dX2_isMoreWanted_45 : decode cX2_isMoreWanted 45 = .ok (.getfield 14, 3) := by decide +kernel
theorem dX2_isMoreWanted_48 : decode cX2_isMoreWanted 48 = .ok (.iload_n 1, 1) := by decide +kernel
theorem dX2_isMoreWanted_49 : decode cX2_isMoreWanted 49 = .ok (.invokevirtual 52, 3) := by decide +kernel
theorem dX2_isMoreWanted_52 : decode cX2_isMoreWanted 52 = .ok (.invokestatic 83, 3) := by decide +kernel
theorem dX2_isMoreWanted_55 : decode cX2_isMoreWanted 55 = .ok (.aload_n 0, 1) := by decide +kernel
theorem dX2_isMoreWanted_56 : decode cX2_isMoreWanted 56 = .ok (.getfield 14, 3) := by decide +kernel
theorem dX2_isMoreWanted_59 : decode cX2_isMoreWanted 59 = .ok (.iload_n 2, 1) := by decide +kernel
theorem dX2_isMoreWanted_60 : decode cX2_isMoreWanted 60 = .ok (.invokevirtual 52, 3) := by decide +kernel
theorem dX2_isMoreWanted_63 : decode cX2_isMoreWanted 63 = .ok (.invokestatic 83, 3) := by decide +kernel
theorem dX2_isMoreWanted_66 : decode cX2_isMoreWanted 66 = .ok (.if_icmp .ge 7, 3) := by decide +kernel
theorem dX2_isMoreWanted_69 : decode cX2_isMoreWanted 69 = .ok (.iconst 1, 1) := by decide +kernel
theorem dX2_isMoreWanted_70 : decode cX2_isMoreWanted 70 = .ok (.goto 4, 3) := by decide +kernel
theorem dX2_isMoreWanted_73 : decode cX2_isMoreWanted 73 = .ok (.iconst 0, 1) := by decide +kernel
theorem dX2_isMoreWanted_74 : decode cX2_isMoreWanted 74 = .ok (.ireturn, 1) := by decide +kernel
end
section
/-! THE LIST OF MARKS -/
def pOppN (cs : List Int32) (c : Int32) (n : Nat) : Nat := (List.range n).countP (fun i => decide (¬ pOpp c (cs.getD i 0) = 0))
def pOpenN (as : List Int32) (n : Nat) : Nat := (List.range n).countP (fun i => decide (as.getD i 0 = 0))
def pPairS (cs : List Int32) (m : Nat) : Nat → Nat
  | 0 => 0
  | n + 1 => pPairS cs m n + pOppN cs (cs.getD n 0) m
def pHit (cs as : List Int32) (c : Int32) (i : Nat) : Bool := decide (as.getD i 0 = 1) && decide (¬ pOpp c (cs.getD i 0) = 0)
def pMeets (cs as : List Int32) (c : Int32) : Bool := (List.range cs.length).any (pHit cs as c)
def pListN (cs ms : List Int32) (n : Nat) : Nat := (List.range n).countP (fun i => decide (ms.getD i 0 ∈ cs))
def pMeetN (cs as ms : List Int32) (n : Nat) : Nat := (List.range n).countP (fun i => pMeets cs as (ms.getD i 0))
def pMore (cs ns : List Int32) (i j : Int32) : Bool := if lget ns i = lget ns j then decide (pFirst (lget cs i) < pFirst (lget cs j)) else decide (lget ns j < lget ns i)
def pBest (cs as ns : List Int32) : Nat → Option Nat
  | 0 => none
  | n + 1 => if as.getD n 0 = 0 then (match pBest cs as ns n with
      | none => some n
      | some b => if pMore cs ns (nI n) (nI b) then some n else some b) else pBest cs as ns n
def pBI (d : Int32) (o : Option Nat) : Int32 := match o with
  | none => d
  | some b => nI b
theorem pBest_lt {cs as ns : List Int32} : ∀ {n b : Nat}, pBest cs as ns n = some b → b < n := by
  intro n
  induction n with
  | zero => intro b h; cases h
  | succ n ih =>
    intro b h
    rw [pBest] at h
    split at h
    · split at h
      · cases h; omega
      · rename_i b2 hb
        split at h
        · cases h; omega
        · cases h; have := ih hb; omega
    · have := ih h; omega
theorem pBest_s {cs as ns : List Int32} {d : Int32} (hd : d < 0) {j : Nat} (hj : j < 2 ^ 31) : pBI d (pBest cs as ns (j + 1)) = if as.getD j 0 = 0 then (if pBI d (pBest cs as ns j) < 0 ∨ pMore cs ns (nI j) (pBI d (pBest cs as ns j)) = true then nI j else pBI d (pBest cs as ns j)) else pBI d (pBest cs as ns j) := by
  rw [pBest]
  by_cases h : as.getD j 0 = 0
  · rw [if_pos h, if_pos h]
    cases hb : pBest cs as ns j with
    | none =>
      rw [if_pos (Or.inl (show pBI d none < 0 from hd))]
      rfl
    | some b =>
      have hbj := pBest_lt hb
      show pBI d (if pMore cs ns (nI j) (nI b) = true then some j else some b) = if nI b < 0 ∨ pMore cs ns (nI j) (nI b) = true then nI j else nI b
      by_cases q : pMore cs ns (nI j) (nI b) = true
      · rw [if_pos q, if_pos (Or.inr q)]
        rfl
      · rw [if_neg q, if_neg (fun z => z.elim (nI_pos (by omega)) q)]
        rfl
  · rw [if_neg h, if_neg h]
theorem pC_s {f : Nat → Bool} {n : Nat} (h : f n = true) : (List.range n).countP f + 1 = (List.range (n + 1)).countP f := by
  rw [List.range_succ, List.countP_append, List.countP_singleton, if_pos h]
theorem pC_n {f : Nat → Bool} {n : Nat} (h : ¬ f n = true) : (List.range n).countP f = (List.range (n + 1)).countP f := by
  rw [List.range_succ, List.countP_append, List.countP_singleton, if_neg h]
  rfl
theorem pAny_f {f : Nat → Bool} {n : Nat} (h : ∀ a, a < n → ¬ f a = true) : (List.range n).any f = false := by
  rw [List.any_eq_false]
  intro x hx
  exact h x (List.mem_range.mp hx)
theorem pAny_t {f : Nat → Bool} {n a : Nat} (ha : a < n) (h : f a = true) : (List.range n).any f = true := List.any_eq_true.mpr ⟨a, List.mem_range.mpr ha, h⟩
theorem lidx_in {cs : List Int32} {v : Int32} (hb : cs.length < 1000) : lidx cs v < 0 ↔ ¬ v ∈ cs := by
  unfold lidx
  by_cases h : v ∈ cs
  · rw [if_pos h]
    have := List.idxOf_lt_length_iff.mpr h
    exact ⟨fun q => absurd q (nI_pos (by omega)), fun q => absurd h q⟩
  · rw [if_neg h]
    exact ⟨fun _ => h, fun _ => by decide⟩
section GMN
variable {p : Program} {l : Launch} {e : Env} {R : Room} {s : State} {m : MethodId} {args : Array Value} {below : List Frame} {meth : Method} {c : Code} {cc : ByteArray} {ret : Option FieldType} {Ts : List Cond} {own nm : String} {D : gD} {A : Nat → Prop} {nL hs0 hs cells slots : Nat} {Q : State → Prop} {G : gH} {V : List (Option Value)} {pc index : Nat} {rest : List Value}
theorem gx_min (C : gC p s m args meth c cc ret Ts own nm D A nL hs0) (h1 : Cond.methodLink own index Lib.Math.min.name ∈ Ts) (h2 : Cond.static Lib.Math.min.name ∈ Ts) (h3 : Cond.initialized "java/lang/Math" ∈ Ts) (h4 : Cond.code Lib.Math.min.name Lib.Math.min.code 2 (some .int) ∈ Ts) (hf : 1 ≤ R.frames) (hr : (rest.map fun v => v.category).sum + 13 ≤ R.locals) (hcl : cells ≤ R.cells) (hsl : slots ≤ R.slots) {x y : Int32} (hdg : decode cc pc = .ok (.invokestatic index, 3))
    (kk : gX p l e R s m args below meth c D A nL hs cells slots Q G V (pc + 3) (.int (if y < x then y else x) :: rest)) : gX p l e R s m args below meth c D A nL hs cells slots Q G V pc (.int y :: .int x :: rest) :=
  fun H locs ls hP hS hz hL => va_mmin C.1 C.2.1 (C.2.2.2.2.2.2.1.trans hL.1.symm) C.2.2.2.2.1 (C.2.2.2.1 _ h1) (C.2.2.2.1 _ h2) (C.2.2.2.1 _ h3) (C.2.2.2.1 _ h4) hf hr hcl hsl hdg (kk H locs ls hP hS hz hL)
end GMN
theorem lcut_0 {xs : List Int32} : lcut xs 0 = [] := by
  unfold lcut
  rw [show (0 : Int32) = nI 0 from rfl, gIn_nI (by omega), nI_clamp (by omega)]
  by_cases h : 0 < xs.length
  · simp [h]
  · have : xs = [] := List.eq_nil_of_length_eq_zero (by omega)
    simp [this]
theorem pOut_in {i : Int32} {n : Nat} (hn : n < 1000) : pOut i 0 (nI n - 1) = (if gIn i n then 0 else 1) := by
  have e : (nI n - 1 : Int32).toInt = (n : Int) - 1 := by
    have := pk_sub_toInt (a := n) (b := 1) (by omega) (by omega)
    exact this
  unfold pOut gIn
  by_cases h : i < 0 ∨ nI n - 1 < i
  · rw [if_pos h, if_neg]
    rw [gz_lt0, Int32.lt_iff_toInt_lt, e] at h
    simp
    omega
  · rw [if_neg h, if_pos]
    rw [gz_lt0, Int32.lt_iff_toInt_lt, e] at h
    simp
    omega
def pMin (x y : Int32) : Int32 := if y < x then y else x
def pTake (v : ML) (z w : Int32) : ML := if z ∈ v.1 then (v.1, v.2.1, lset v.2.2.1 (lidx v.1 z) (lget v.2.2.1 (lidx v.1 z) + 1), lset v.2.2.2 (lidx v.1 z) (pMin (lget v.2.2.2 (lidx v.1 z)) w)) else (lapp 64 v.1 z, lapp 64 v.2.1 0, lapp 64 v.2.2.1 1, lapp 64 v.2.2.2 w)
set_option maxRecDepth 20000 in
theorem in_X2_empty_X2 : ∀ w ∈ wsX20, w ∈ wsX2_empty := by decide +kernel
set_option maxRecDepth 20000 in
theorem fd_X2_empty_14 : gFd wsX2_empty RX2 14 1 RX2 TX2 4 0 := ⟨in_X2_empty_X2, rfl, by decide, by decide +kernel⟩
theorem cb_X2_empty__X5_cutTo : gCb yX5_cutTo cX5_cutTo 2 none wsX5_cutTo (gR 0) (gR 1) 0 0 1 := ⟨rfl, rfl, rfl, by decide +kernel, by decide⟩
set_option maxRecDepth 20000 in
theorem fd_X2_empty_20 : gFd wsX2_empty RX2 20 1 RX2 TX2 4 1 := ⟨in_X2_empty_X2, rfl, by decide, by decide +kernel⟩
set_option maxRecDepth 20000 in
theorem fd_X2_empty_23 : gFd wsX2_empty RX2 23 1 RX2 TX2 4 2 := ⟨in_X2_empty_X2, rfl, by decide, by decide +kernel⟩
set_option maxRecDepth 20000 in
theorem fd_X2_empty_26 : gFd wsX2_empty RX2 26 1 RX2 TX2 4 3 := ⟨in_X2_empty_X2, rfl, by decide, by decide +kernel⟩
set_option maxRecDepth 20000 in
theorem in_X2_copyFrom_X2 : ∀ w ∈ wsX20, w ∈ wsX2_copyFrom := by decide +kernel
set_option maxRecDepth 20000 in
theorem fd_X2_copyFrom_14 : gFd wsX2_copyFrom RX2 14 1 RX2 TX2 4 0 := ⟨in_X2_copyFrom_X2, rfl, by decide, by decide +kernel⟩
theorem cb_X2_copyFrom__X5_copyFrom : gCb yX5_copyFrom cX5_copyFrom 3 none wsX5_copyFrom (gR 0) (gR 1) 0 0 1 := ⟨rfl, rfl, rfl, by decide +kernel, by decide⟩
set_option maxRecDepth 20000 in
theorem fd_X2_copyFrom_20 : gFd wsX2_copyFrom RX2 20 1 RX2 TX2 4 1 := ⟨in_X2_copyFrom_X2, rfl, by decide, by decide +kernel⟩
set_option maxRecDepth 20000 in
theorem fd_X2_copyFrom_23 : gFd wsX2_copyFrom RX2 23 1 RX2 TX2 4 2 := ⟨in_X2_copyFrom_X2, rfl, by decide, by decide +kernel⟩
set_option maxRecDepth 20000 in
theorem fd_X2_copyFrom_26 : gFd wsX2_copyFrom RX2 26 1 RX2 TX2 4 3 := ⟨in_X2_copyFrom_X2, rfl, by decide, by decide +kernel⟩
set_option maxRecDepth 20000 in
theorem in_X2_hasNot_X2 : ∀ w ∈ wsX20, w ∈ wsX2_hasNot := by decide +kernel
set_option maxRecDepth 20000 in
theorem fd_X2_hasNot_14 : gFd wsX2_hasNot RX2 14 1 RX2 TX2 4 0 := ⟨in_X2_hasNot_X2, rfl, by decide, by decide +kernel⟩
theorem cb_X2_hasNot__X5_used : gCb yX5_used cX5_used 1 (some .int) wsX5_used (gR 0) (gR 1) 0 0 0 := ⟨rfl, rfl, rfl, by decide +kernel, by decide⟩
theorem cb_X2_hasNot__X8_isOutside : gCb yX8_isOutside cX8_isOutside 3 (some .boolean) wsX8_isOutside (gR 0) (gR 1) 0 0 3 := ⟨rfl, rfl, rfl, by decide +kernel, by decide⟩
set_option maxRecDepth 20000 in
theorem mm_X2_hasNot_iniX8 : Cond.initialized RX8 ∈ wsX2_hasNot := by decide +kernel
set_option maxRecDepth 20000 in
theorem mm_X2_hasNot_stX8_isOutside : Cond.static yX8_isOutside ∈ wsX2_hasNot := by decide +kernel
set_option maxRecDepth 20000 in
theorem in_X2_howManyAreOpen_X2 : ∀ w ∈ wsX20, w ∈ wsX2_howManyAreOpen := by decide +kernel
set_option maxRecDepth 20000 in
theorem fd_X2_howManyAreOpen_20 : gFd wsX2_howManyAreOpen RX2 20 1 RX2 TX2 4 1 := ⟨in_X2_howManyAreOpen_X2, rfl, by decide, by decide +kernel⟩
theorem cb_X2_howManyAreOpen__X5_used : gCb yX5_used cX5_used 1 (some .int) wsX5_used (gR 0) (gR 2) 0 0 0 := ⟨rfl, rfl, rfl, by decide +kernel, by decide⟩
theorem cb_X2_howManyAreOpen__X5_get : gCb yX5_get cX5_get 2 (some .int) wsX5_get (gR 1) (gR 2) 0 0 1 := ⟨rfl, rfl, rfl, by decide +kernel, by decide⟩
set_option maxRecDepth 20000 in
theorem in_X2_howManyOppose_X2 : ∀ w ∈ wsX20, w ∈ wsX2_howManyOppose := by decide +kernel
set_option maxRecDepth 20000 in
theorem fd_X2_howManyOppose_14 : gFd wsX2_howManyOppose RX2 14 1 RX2 TX2 4 0 := ⟨in_X2_howManyOppose_X2, rfl, by decide, by decide +kernel⟩
theorem cb_X2_howManyOppose__X5_used : gCb yX5_used cX5_used 1 (some .int) wsX5_used (gR 0) (gR 3) 0 0 0 := ⟨rfl, rfl, rfl, by decide +kernel, by decide⟩
theorem cb_X2_howManyOppose__X5_get : gCb yX5_get cX5_get 2 (some .int) wsX5_get (gR 1) (gR 3) 0 0 1 := ⟨rfl, rfl, rfl, by decide +kernel, by decide⟩
theorem cb_X2_howManyOppose__X1_areOpposed : gCb yX1_areOpposed cX1_areOpposed 4 (some .boolean) wsX1_areOpposed (gR 2) (gR 3) 0 0 2 := ⟨rfl, rfl, rfl, by decide +kernel, by decide⟩
set_option maxRecDepth 20000 in
theorem in_X2_opposedPairs_X2 : ∀ w ∈ wsX20, w ∈ wsX2_opposedPairs := by decide +kernel
set_option maxRecDepth 20000 in
theorem fd_X2_opposedPairs_14 : gFd wsX2_opposedPairs RX2 14 1 RX2 TX2 4 0 := ⟨in_X2_opposedPairs_X2, rfl, by decide, by decide +kernel⟩
theorem cb_X2_opposedPairs__X5_used : gCb yX5_used cX5_used 1 (some .int) wsX5_used (gR 0) (gR 4) 0 0 0 := ⟨rfl, rfl, rfl, by decide +kernel, by decide⟩
theorem cb_X2_opposedPairs__X5_get : gCb yX5_get cX5_get 2 (some .int) wsX5_get (gR 1) (gR 4) 0 0 1 := ⟨rfl, rfl, rfl, by decide +kernel, by decide⟩
theorem cb_X2_opposedPairs__X2_howManyOppose : gCb yX2_howManyOppose cX2_howManyOppose 4 (some .int) wsX2_howManyOppose (gR 3) (gR 4) 0 0 1 := ⟨rfl, rfl, rfl, by decide +kernel, by decide⟩
set_option maxRecDepth 20000 in
theorem in_X2_meetsAnAccepted_X2 : ∀ w ∈ wsX20, w ∈ wsX2_meetsAnAccepted := by decide +kernel
set_option maxRecDepth 20000 in
theorem fd_X2_meetsAnAccepted_14 : gFd wsX2_meetsAnAccepted RX2 14 1 RX2 TX2 4 0 := ⟨in_X2_meetsAnAccepted_X2, rfl, by decide, by decide +kernel⟩
theorem cb_X2_meetsAnAccepted__X5_used : gCb yX5_used cX5_used 1 (some .int) wsX5_used (gR 0) (gR 3) 0 0 0 := ⟨rfl, rfl, rfl, by decide +kernel, by decide⟩
set_option maxRecDepth 20000 in
theorem fd_X2_meetsAnAccepted_20 : gFd wsX2_meetsAnAccepted RX2 20 1 RX2 TX2 4 1 := ⟨in_X2_meetsAnAccepted_X2, rfl, by decide, by decide +kernel⟩
theorem cb_X2_meetsAnAccepted__X5_get : gCb yX5_get cX5_get 2 (some .int) wsX5_get (gR 1) (gR 3) 0 0 1 := ⟨rfl, rfl, rfl, by decide +kernel, by decide⟩
theorem cb_X2_meetsAnAccepted__X1_areOpposed : gCb yX1_areOpposed cX1_areOpposed 4 (some .boolean) wsX1_areOpposed (gR 2) (gR 3) 0 0 2 := ⟨rfl, rfl, rfl, by decide +kernel, by decide⟩
set_option maxRecDepth 20000 in
theorem in_X2_canBeAccepted_X2 : ∀ w ∈ wsX20, w ∈ wsX2_canBeAccepted := by decide +kernel
set_option maxRecDepth 20000 in
theorem fd_X2_canBeAccepted_20 : gFd wsX2_canBeAccepted RX2 20 1 RX2 TX2 4 1 := ⟨in_X2_canBeAccepted_X2, rfl, by decide, by decide +kernel⟩
theorem cb_X2_canBeAccepted__X5_get : gCb yX5_get cX5_get 2 (some .int) wsX5_get (gR 1) (gR 4) 0 0 1 := ⟨rfl, rfl, rfl, by decide +kernel, by decide⟩
set_option maxRecDepth 20000 in
theorem fd_X2_canBeAccepted_14 : gFd wsX2_canBeAccepted RX2 14 1 RX2 TX2 4 0 := ⟨in_X2_canBeAccepted_X2, rfl, by decide, by decide +kernel⟩
theorem cb_X2_canBeAccepted__X2_meetsAnAccepted : gCb yX2_meetsAnAccepted cX2_meetsAnAccepted 3 (some .boolean) wsX2_meetsAnAccepted (gR 3) (gR 4) 0 0 1 := ⟨rfl, rfl, rfl, by decide +kernel, by decide⟩
theorem cb_X2_howManyAreListed__X5_used : gCb yX5_used cX5_used 1 (some .int) wsX5_used (gR 0) (gR 3) 0 0 0 := ⟨rfl, rfl, rfl, by decide +kernel, by decide⟩
set_option maxRecDepth 20000 in
theorem in_X2_howManyAreListed_X2 : ∀ w ∈ wsX20, w ∈ wsX2_howManyAreListed := by decide +kernel
set_option maxRecDepth 20000 in
theorem fd_X2_howManyAreListed_14 : gFd wsX2_howManyAreListed RX2 14 1 RX2 TX2 4 0 := ⟨in_X2_howManyAreListed_X2, rfl, by decide, by decide +kernel⟩
theorem cb_X2_howManyAreListed__X5_get : gCb yX5_get cX5_get 2 (some .int) wsX5_get (gR 1) (gR 3) 0 0 1 := ⟨rfl, rfl, rfl, by decide +kernel, by decide⟩
theorem cb_X2_howManyAreListed__X5_placeOf : gCb yX5_placeOf cX5_placeOf 3 (some .int) wsX5_placeOf (gR 2) (gR 3) 0 0 1 := ⟨rfl, rfl, rfl, by decide +kernel, by decide⟩
theorem cb_X2_howManyMeetAnAccepted__X5_used : gCb yX5_used cX5_used 1 (some .int) wsX5_used (gR 0) (gR 4) 0 0 0 := ⟨rfl, rfl, rfl, by decide +kernel, by decide⟩
theorem cb_X2_howManyMeetAnAccepted__X5_get : gCb yX5_get cX5_get 2 (some .int) wsX5_get (gR 1) (gR 4) 0 0 1 := ⟨rfl, rfl, rfl, by decide +kernel, by decide⟩
theorem cb_X2_howManyMeetAnAccepted__X2_meetsAnAccepted : gCb yX2_meetsAnAccepted cX2_meetsAnAccepted 3 (some .boolean) wsX2_meetsAnAccepted (gR 3) (gR 4) 0 0 1 := ⟨rfl, rfl, rfl, by decide +kernel, by decide⟩
set_option maxRecDepth 20000 in
theorem in_X2_isMoreWanted_X2 : ∀ w ∈ wsX20, w ∈ wsX2_isMoreWanted := by decide +kernel
set_option maxRecDepth 20000 in
theorem fd_X2_isMoreWanted_23 : gFd wsX2_isMoreWanted RX2 23 1 RX2 TX2 4 2 := ⟨in_X2_isMoreWanted_X2, rfl, by decide, by decide +kernel⟩
theorem cb_X2_isMoreWanted__X5_get : gCb yX5_get cX5_get 2 (some .int) wsX5_get (gR 1) (gR 2) 0 0 1 := ⟨rfl, rfl, rfl, by decide +kernel, by decide⟩
set_option maxRecDepth 20000 in
theorem fd_X2_isMoreWanted_14 : gFd wsX2_isMoreWanted RX2 14 1 RX2 TX2 4 0 := ⟨in_X2_isMoreWanted_X2, rfl, by decide, by decide +kernel⟩
theorem cb_X2_isMoreWanted__X1_firstOf : gCb yX1_firstOf cX1_firstOf 1 (some .int) wsX1_firstOf (gR 0) (gR 2) 0 0 1 := ⟨rfl, rfl, rfl, by decide +kernel, by decide⟩
set_option maxRecDepth 20000 in
theorem in_X2_mostWanted_X2 : ∀ w ∈ wsX20, w ∈ wsX2_mostWanted := by decide +kernel
set_option maxRecDepth 20000 in
theorem fd_X2_mostWanted_14 : gFd wsX2_mostWanted RX2 14 1 RX2 TX2 4 0 := ⟨in_X2_mostWanted_X2, rfl, by decide, by decide +kernel⟩
theorem cb_X2_mostWanted__X5_used : gCb yX5_used cX5_used 1 (some .int) wsX5_used (gR 0) (gR 3) 0 0 0 := ⟨rfl, rfl, rfl, by decide +kernel, by decide⟩
set_option maxRecDepth 20000 in
theorem fd_X2_mostWanted_20 : gFd wsX2_mostWanted RX2 20 1 RX2 TX2 4 1 := ⟨in_X2_mostWanted_X2, rfl, by decide, by decide +kernel⟩
theorem cb_X2_mostWanted__X5_get : gCb yX5_get cX5_get 2 (some .int) wsX5_get (gR 1) (gR 3) 0 0 1 := ⟨rfl, rfl, rfl, by decide +kernel, by decide⟩
theorem cb_X2_mostWanted__X2_isMoreWanted : gCb yX2_isMoreWanted cX2_isMoreWanted 3 (some .boolean) wsX2_isMoreWanted (gR 2) (gR 3) 0 0 2 := ⟨rfl, rfl, rfl, by decide +kernel, by decide⟩
set_option maxRecDepth 20000 in
theorem in_X2_take_X2 : ∀ w ∈ wsX20, w ∈ wsX2_take := by decide +kernel
set_option maxRecDepth 20000 in
theorem fd_X2_take_14 : gFd wsX2_take RX2 14 1 RX2 TX2 4 0 := ⟨in_X2_take_X2, rfl, by decide, by decide +kernel⟩
theorem cb_X2_take__X5_placeOf : gCb yX5_placeOf cX5_placeOf 3 (some .int) wsX5_placeOf (gR 2) (gR 3) 0 0 1 := ⟨rfl, rfl, rfl, by decide +kernel, by decide⟩
theorem cb_X2_take__X5_append : gCb yX5_append cX5_append 2 none wsX5_append (gR 0) (gR 3) 0 0 1 := ⟨rfl, rfl, rfl, by decide +kernel, by decide⟩
set_option maxRecDepth 20000 in
theorem fd_X2_take_20 : gFd wsX2_take RX2 20 1 RX2 TX2 4 1 := ⟨in_X2_take_X2, rfl, by decide, by decide +kernel⟩
set_option maxRecDepth 20000 in
theorem fd_X2_take_23 : gFd wsX2_take RX2 23 1 RX2 TX2 4 2 := ⟨in_X2_take_X2, rfl, by decide, by decide +kernel⟩
set_option maxRecDepth 20000 in
theorem fd_X2_take_26 : gFd wsX2_take RX2 26 1 RX2 TX2 4 3 := ⟨in_X2_take_X2, rfl, by decide, by decide +kernel⟩
theorem cb_X2_take__X5_add : gCb yX5_add cX5_add 3 none wsX5_add (gR 2) (gR 3) 0 0 2 := ⟨rfl, rfl, rfl, by decide +kernel, by decide⟩
theorem cb_X2_take__X5_get : gCb yX5_get cX5_get 2 (some .int) wsX5_get (gR 1) (gR 3) 0 0 1 := ⟨rfl, rfl, rfl, by decide +kernel, by decide⟩
set_option maxRecDepth 20000 in
theorem mm_X2_take_mn1 : Cond.methodLink RX2 55 Lib.Math.min.name ∈ wsX2_take := by decide +kernel
set_option maxRecDepth 20000 in
theorem mm_X2_take_mn2 : Cond.static Lib.Math.min.name ∈ wsX2_take := by decide +kernel
set_option maxRecDepth 20000 in
theorem mm_X2_take_mn3 : Cond.initialized "java/lang/Math" ∈ wsX2_take := by decide +kernel
set_option maxRecDepth 20000 in
theorem mm_X2_take_mn4 : Cond.code Lib.Math.min.name Lib.Math.min.code 2 (some .int) ∈ wsX2_take := by decide +kernel
theorem cb_X2_take__X5_set : gCb yX5_set cX5_set 3 none wsX5_set (gR 1) (gR 3) 0 0 2 := ⟨rfl, rfl, rfl, by decide +kernel, by decide⟩
set_option maxHeartbeats 4000000 in
set_option maxRecDepth 100000 in
/-- X2_empty -/
theorem k2_empty (l : Launch) (D : gD) (A : Nat → Prop) (hs : Nat) {G : gH} {a : Nat} {cs as ns ls : List Int32} (h : gList D G a (cs, as, ns, ls)) : gM l yX2_empty wsX2_empty (gR 1) D A hs 0 0 [.ref a] G (gPv fun G' => gList D G' a ([], [], [], []) ∧ gOut a 9 G G') := by
  refine gM_intro (by decide) rfl rfl (Nat.le_of_ble_eq_true rfl) ?_
  intro p e s m args below meth c C
  have ho : G a = some (.inr (1, [.ref (a + 1), .ref (a + 3), .ref (a + 5), .ref (a + 7)])) := h.1
  have hc : gRow D G (a + 1) 64 cs := h.2.1
  have ha : gRow D G (a + 3) 64 as := h.2.2.1
  have hn : gRow D G (a + 5) 64 ns := h.2.2.2.1
  have hl : gRow D G (a + 7) 64 ls := h.2.2.2.2
  have bc := gRow_le hc
  have ba := gRow_le ha
  have bn := gRow_le hn
  have bl := gRow_le hl
  refine gx_aload_n C dX2_empty_0 rfl ?_
  refine gx_get C fd_X2_empty_14 (hG := ho) (hv := by rfl) dX2_empty_1 ?_
  refine gx_iconst (v := 0) C dX2_empty_4 (by decide) ?_
  refine gx_callV (ci := 4) (T := TX5) (N := 2) C (k5_cutTo l D A hs 0 hc) cb_X2_empty__X5_cutTo gX2_empty_X5_cutTo rfl (hG := (gRow_ob hc)) rfl rfl (Nat.le_of_ble_eq_true rfl) ⟨Nat.le_refl _, Nat.le_refl _⟩ dX2_empty_5 (gx_kv fun G_5 h_5 => ?_)
  rw [lcut_0] at h_5
  have w1 := gOut_wd (b := a) (k := 9) h_5.2 (by omega)
  have o1 : G_5 a = _ := (h_5.2 a (by omega)).trans ho
  have ha1 := gRow_fr ha h_5.2 (by omega)
  have hn1 := gRow_fr hn h_5.2 (by omega)
  have hl1 := gRow_fr hl h_5.2 (by omega)
  refine gx_aload_n C dX2_empty_8 rfl ?_
  refine gx_get C fd_X2_empty_20 (hG := o1) (hv := by rfl) dX2_empty_9 ?_
  refine gx_iconst (v := 0) C dX2_empty_12 (by decide) ?_
  refine gx_callV (ci := 4) (T := TX5) (N := 2) C (k5_cutTo l D A hs 0 ha1) cb_X2_empty__X5_cutTo gX2_empty_X5_cutTo rfl (hG := (gRow_ob ha1)) rfl rfl (Nat.le_of_ble_eq_true rfl) ⟨Nat.le_refl _, Nat.le_refl _⟩ dX2_empty_13 (gx_kv fun G_13 h_13 => ?_)
  rw [lcut_0] at h_13
  have w2 := gOut_tr w1 (gOut_wd (b := a) (k := 9) h_13.2 (by omega))
  have o2 : G_13 a = _ := (h_13.2 a (by omega)).trans o1
  have hc2 := gRow_fr h_5.1 h_13.2 (by omega)
  have hn2 := gRow_fr hn1 h_13.2 (by omega)
  have hl2 := gRow_fr hl1 h_13.2 (by omega)
  refine gx_aload_n C dX2_empty_16 rfl ?_
  refine gx_get C fd_X2_empty_23 (hG := o2) (hv := by rfl) dX2_empty_17 ?_
  refine gx_iconst (v := 0) C dX2_empty_20 (by decide) ?_
  refine gx_callV (ci := 4) (T := TX5) (N := 2) C (k5_cutTo l D A hs 0 hn2) cb_X2_empty__X5_cutTo gX2_empty_X5_cutTo rfl (hG := (gRow_ob hn2)) rfl rfl (Nat.le_of_ble_eq_true rfl) ⟨Nat.le_refl _, Nat.le_refl _⟩ dX2_empty_21 (gx_kv fun G_21 h_21 => ?_)
  rw [lcut_0] at h_21
  have w3 := gOut_tr w2 (gOut_wd (b := a) (k := 9) h_21.2 (by omega))
  have o3 : G_21 a = _ := (h_21.2 a (by omega)).trans o2
  have hc3 := gRow_fr hc2 h_21.2 (by omega)
  have ha3 := gRow_fr h_13.1 h_21.2 (by omega)
  have hl3 := gRow_fr hl2 h_21.2 (by omega)
  refine gx_aload_n C dX2_empty_24 rfl ?_
  refine gx_get C fd_X2_empty_26 (hG := o3) (hv := by rfl) dX2_empty_25 ?_
  refine gx_iconst (v := 0) C dX2_empty_28 (by decide) ?_
  refine gx_callV (ci := 4) (T := TX5) (N := 2) C (k5_cutTo l D A hs 0 hl3) cb_X2_empty__X5_cutTo gX2_empty_X5_cutTo rfl (hG := (gRow_ob hl3)) rfl rfl (Nat.le_of_ble_eq_true rfl) ⟨Nat.le_refl _, Nat.le_refl _⟩ dX2_empty_29 (gx_kv fun G_29 h_29 => ?_)
  rw [lcut_0] at h_29
  have w4 := gOut_tr w3 (gOut_wd (b := a) (k := 9) h_29.2 (by omega))
  have o4 : G_29 a = _ := (h_29.2 a (by omega)).trans o3
  have hc4 := gRow_fr hc3 h_29.2 (by omega)
  have ha4 := gRow_fr ha3 h_29.2 (by omega)
  have hn4 := gRow_fr h_21.1 h_29.2 (by omega)
  refine gx_vret (mc := 0) C ?_ dX2_empty_32
  exact ⟨rfl, ⟨o4, hc4, ha4, hn4, h_29.1⟩, w4⟩
set_option maxHeartbeats 4000000 in
set_option maxRecDepth 100000 in
/-- X2_copyFrom -/
theorem k2_copyFrom (l : Launch) (D : gD) (A : Nat → Prop) (hs : Nat) {G : gH} {a : Nat} {cs as ns ls : List Int32} {b : Nat} {v : ML} (h2 : gList D G b v) (hd : b + 9 ≤ a ∨ a + 9 ≤ b) (h : gList D G a (cs, as, ns, ls)) : gM l yX2_copyFrom wsX2_copyFrom (gR 1) D A hs 0 0 [.ref a, .ref b] G (gPv fun G' => gList D G' a v ∧ gOut a 9 G G') := by
  refine gM_intro (by decide) rfl rfl (Nat.le_of_ble_eq_true rfl) ?_
  intro p e s m args below meth c C
  have ho : G a = some (.inr (1, [.ref (a + 1), .ref (a + 3), .ref (a + 5), .ref (a + 7)])) := h.1
  have hc : gRow D G (a + 1) 64 cs := h.2.1
  have ha : gRow D G (a + 3) 64 as := h.2.2.1
  have hn : gRow D G (a + 5) 64 ns := h.2.2.2.1
  have hl : gRow D G (a + 7) 64 ls := h.2.2.2.2
  have bc := gRow_le hc
  have ba := gRow_le ha
  have bn := gRow_le hn
  have bl := gRow_le hl
  have qo : G b = some (.inr (1, [.ref (b + 1), .ref (b + 3), .ref (b + 5), .ref (b + 7)])) := h2.1
  have qc : gRow D G (b + 1) 64 v.1 := h2.2.1
  have qa : gRow D G (b + 3) 64 v.2.1 := h2.2.2.1
  have qn : gRow D G (b + 5) 64 v.2.2.1 := h2.2.2.2.1
  have ql : gRow D G (b + 7) 64 v.2.2.2 := h2.2.2.2.2
  have zc := gRow_le qc
  have za := gRow_le qa
  have zn := gRow_le qn
  have zl := gRow_le ql
  have o0 := ho
  have p0 := qo
  have hc0 := hc
  have ha0 := ha
  have hn0 := hn
  have hl0 := hl
  have qc0 := qc
  have qa0 := qa
  have qn0 := qn
  have ql0 := ql
  refine gx_aload_n C dX2_copyFrom_0 rfl ?_
  refine gx_get C fd_X2_copyFrom_14 (hG := o0) (hv := by rfl) dX2_copyFrom_1 ?_
  refine gx_aload_n C dX2_copyFrom_4 rfl ?_
  refine gx_get C fd_X2_copyFrom_14 (hG := p0) (hv := by rfl) dX2_copyFrom_5 ?_
  refine gx_callV (ci := 4) (T := TX5) (N := 2) C (k5_copyFrom l D A hs hc0 qc0 (by omega) (by omega)) cb_X2_copyFrom__X5_copyFrom gX2_copyFrom_X5_copyFrom rfl (hG := (gRow_ob hc0)) rfl rfl (Nat.le_of_ble_eq_true rfl) ⟨Nat.le_refl _, Nat.le_refl _⟩ dX2_copyFrom_8 (gx_kv fun G_8 h_8 => ?_)
  have w1 := (gOut_wd (b := a) (k := 9) h_8.2 (by omega))
  have o1 : G_8 a = _ := (h_8.2 a (by omega)).trans o0
  have p1 : G_8 b = _ := (h_8.2 b (by omega)).trans p0
  have hc1 := h_8.1
  have ha1 := gRow_fr ha0 h_8.2 (by omega)
  have qa1 := gRow_fr qa0 h_8.2 (by omega)
  have hn1 := gRow_fr hn0 h_8.2 (by omega)
  have qn1 := gRow_fr qn0 h_8.2 (by omega)
  have hl1 := gRow_fr hl0 h_8.2 (by omega)
  have ql1 := gRow_fr ql0 h_8.2 (by omega)
  refine gx_aload_n C dX2_copyFrom_11 rfl ?_
  refine gx_get C fd_X2_copyFrom_20 (hG := o1) (hv := by rfl) dX2_copyFrom_12 ?_
  refine gx_aload_n C dX2_copyFrom_15 rfl ?_
  refine gx_get C fd_X2_copyFrom_20 (hG := p1) (hv := by rfl) dX2_copyFrom_16 ?_
  refine gx_callV (ci := 4) (T := TX5) (N := 2) C (k5_copyFrom l D A hs ha1 qa1 (by omega) (by omega)) cb_X2_copyFrom__X5_copyFrom gX2_copyFrom_X5_copyFrom rfl (hG := (gRow_ob ha1)) rfl rfl (Nat.le_of_ble_eq_true rfl) ⟨Nat.le_refl _, Nat.le_refl _⟩ dX2_copyFrom_19 (gx_kv fun G_19 h_19 => ?_)
  have w2 := gOut_tr w1 (gOut_wd (b := a) (k := 9) h_19.2 (by omega))
  have o2 : G_19 a = _ := (h_19.2 a (by omega)).trans o1
  have p2 : G_19 b = _ := (h_19.2 b (by omega)).trans p1
  have hc2 := gRow_fr hc1 h_19.2 (by omega)
  have ha2 := h_19.1
  have hn2 := gRow_fr hn1 h_19.2 (by omega)
  have qn2 := gRow_fr qn1 h_19.2 (by omega)
  have hl2 := gRow_fr hl1 h_19.2 (by omega)
  have ql2 := gRow_fr ql1 h_19.2 (by omega)
  refine gx_aload_n C dX2_copyFrom_22 rfl ?_
  refine gx_get C fd_X2_copyFrom_23 (hG := o2) (hv := by rfl) dX2_copyFrom_23 ?_
  refine gx_aload_n C dX2_copyFrom_26 rfl ?_
  refine gx_get C fd_X2_copyFrom_23 (hG := p2) (hv := by rfl) dX2_copyFrom_27 ?_
  refine gx_callV (ci := 4) (T := TX5) (N := 2) C (k5_copyFrom l D A hs hn2 qn2 (by omega) (by omega)) cb_X2_copyFrom__X5_copyFrom gX2_copyFrom_X5_copyFrom rfl (hG := (gRow_ob hn2)) rfl rfl (Nat.le_of_ble_eq_true rfl) ⟨Nat.le_refl _, Nat.le_refl _⟩ dX2_copyFrom_30 (gx_kv fun G_30 h_30 => ?_)
  have w3 := gOut_tr w2 (gOut_wd (b := a) (k := 9) h_30.2 (by omega))
  have o3 : G_30 a = _ := (h_30.2 a (by omega)).trans o2
  have p3 : G_30 b = _ := (h_30.2 b (by omega)).trans p2
  have hc3 := gRow_fr hc2 h_30.2 (by omega)
  have ha3 := gRow_fr ha2 h_30.2 (by omega)
  have hn3 := h_30.1
  have hl3 := gRow_fr hl2 h_30.2 (by omega)
  have ql3 := gRow_fr ql2 h_30.2 (by omega)
  refine gx_aload_n C dX2_copyFrom_33 rfl ?_
  refine gx_get C fd_X2_copyFrom_26 (hG := o3) (hv := by rfl) dX2_copyFrom_34 ?_
  refine gx_aload_n C dX2_copyFrom_37 rfl ?_
  refine gx_get C fd_X2_copyFrom_26 (hG := p3) (hv := by rfl) dX2_copyFrom_38 ?_
  refine gx_callV (ci := 4) (T := TX5) (N := 2) C (k5_copyFrom l D A hs hl3 ql3 (by omega) (by omega)) cb_X2_copyFrom__X5_copyFrom gX2_copyFrom_X5_copyFrom rfl (hG := (gRow_ob hl3)) rfl rfl (Nat.le_of_ble_eq_true rfl) ⟨Nat.le_refl _, Nat.le_refl _⟩ dX2_copyFrom_41 (gx_kv fun G_41 h_41 => ?_)
  have w4 := gOut_tr w3 (gOut_wd (b := a) (k := 9) h_41.2 (by omega))
  have o4 : G_41 a = _ := (h_41.2 a (by omega)).trans o3
  have p4 : G_41 b = _ := (h_41.2 b (by omega)).trans p3
  have hc4 := gRow_fr hc3 h_41.2 (by omega)
  have ha4 := gRow_fr ha3 h_41.2 (by omega)
  have hn4 := gRow_fr hn3 h_41.2 (by omega)
  have hl4 := h_41.1
  refine gx_vret (mc := 0) C ?_ dX2_copyFrom_44
  exact ⟨rfl, ⟨o4, hc4, ha4, hn4, hl4⟩, w4⟩
set_option maxHeartbeats 4000000 in
set_option maxRecDepth 100000 in
/-- X2_hasNot -/
theorem k2_hasNot (l : Launch) (D : gD) (A : Nat → Prop) (hs : Nat) {G : gH} {a : Nat} {cs as ns ls : List Int32} (i : Int32) (h : gList D G a (cs, as, ns, ls)) : gM l yX2_hasNot wsX2_hasNot (gR 1) D A hs 0 0 [.ref a, .int i] G (gPi fun x G' => x = (if gIn i cs.length then 0 else 1) ∧ G' = G) := by
  refine gM_intro (by decide) rfl rfl (Nat.le_of_ble_eq_true rfl) ?_
  intro p e s m args below meth c C
  have ho : G a = some (.inr (1, [.ref (a + 1), .ref (a + 3), .ref (a + 5), .ref (a + 7)])) := h.1
  have hc : gRow D G (a + 1) 64 cs := h.2.1
  have ha : gRow D G (a + 3) 64 as := h.2.2.1
  have hn : gRow D G (a + 5) 64 ns := h.2.2.2.1
  have hl : gRow D G (a + 7) 64 ls := h.2.2.2.2
  have bc := gRow_le hc
  have ba := gRow_le ha
  have bn := gRow_le hn
  have bl := gRow_le hl
  refine gx_iload_n C dX2_hasNot_0 rfl ?_
  refine gx_iconst (v := 0) C dX2_hasNot_1 (by decide) ?_
  refine gx_aload_n C dX2_hasNot_2 rfl ?_
  refine gx_get C fd_X2_hasNot_14 (hG := ho) (hv := by rfl) dX2_hasNot_3 ?_
  refine gx_callV (ci := 4) (T := TX5) (N := 2) C (k5_used l D A hs hc) cb_X2_hasNot__X5_used gX2_hasNot_X5_used rfl (hG := (gRow_ob hc)) rfl rfl (Nat.le_of_ble_eq_true rfl) ⟨Nat.le_refl _, Nat.le_refl _⟩ dX2_hasNot_6 (gx_ki fun r_6 G_6 h_6 => ?_)
  obtain ⟨rfl, rfl⟩ := h_6
  refine gx_iconst (v := 1) C dX2_hasNot_9 (by decide) ?_
  refine gx_isub C dX2_hasNot_10 ?_
  refine gx_callSN C (k8_isOutside l D A hs i 0 (nI cs.length - 1)) cb_X2_hasNot__X8_isOutside gX2_hasNot_X8_isOutside_n40 (by decide +kernel) mm_X2_hasNot_iniX8 mm_X2_hasNot_stX8_isOutside rfl rfl (Nat.le_of_ble_eq_true rfl) ⟨Nat.le_refl _, Nat.le_refl _⟩ dX2_hasNot_11 (gx_ki fun r_11 G_11 h_11 => ?_)
  obtain ⟨rfl, rfl⟩ := h_11
  refine gx_zret (mc := 0) C (by rw [pOut_in (by omega)]; split <;> rfl) ?_ dX2_hasNot_14
  exact ⟨_, rfl, pOut_in (by omega), rfl⟩
set_option maxHeartbeats 4000000 in
set_option maxRecDepth 100000 in
/-- X2_howManyAreOpen -/
theorem k2_howManyAreOpen (l : Launch) (D : gD) (A : Nat → Prop) (hs : Nat) {G : gH} {a : Nat} {cs as ns ls : List Int32} (h : gList D G a (cs, as, ns, ls)) : gM l yX2_howManyAreOpen wsX2_howManyAreOpen (gR 2) D A hs 0 0 [.ref a] G (gPi fun x G' => x = nI (pOpenN as as.length) ∧ G' = G) := by
  refine gM_intro (by decide) rfl rfl (Nat.le_of_ble_eq_true rfl) ?_
  intro p e s m args below meth c C
  have ho : G a = some (.inr (1, [.ref (a + 1), .ref (a + 3), .ref (a + 5), .ref (a + 7)])) := h.1
  have hc : gRow D G (a + 1) 64 cs := h.2.1
  have ha : gRow D G (a + 3) 64 as := h.2.2.1
  have hn : gRow D G (a + 5) 64 ns := h.2.2.2.1
  have hl : gRow D G (a + 7) 64 ls := h.2.2.2.2
  have bc := gRow_le hc
  have ba := gRow_le ha
  have bn := gRow_le hn
  have bl := gRow_le hl
  have hloop : ∀ (n j : Nat) , as.length < j + n → j ≤ as.length → gX p l e (gR 2) s m args below meth c D A 3 hs 0 0 (MQ below (gQ D A hs 0 (gPi fun x G' => x = nI (pOpenN as as.length) ∧ G' = G)) args s 0 0 A) G [some (.ref a), some (.int (nI (pOpenN as j))), some (.int (nI j))] 4 [] := by
    intro n
    induction n with
    | zero => intro j hm hj0; exact absurd hm (by omega)
    | succ n ih =>
      intro j hm hj0
      refine gx_iload_n C dX2_howManyAreOpen_4 rfl ?_
      refine gx_aload_n C dX2_howManyAreOpen_5 rfl ?_
      refine gx_get C fd_X2_howManyAreOpen_20 (hG := ho) (hv := by rfl) dX2_howManyAreOpen_6 ?_
      refine gx_callV (ci := 4) (T := TX5) (N := 2) C (k5_used l D A hs ha) cb_X2_howManyAreOpen__X5_used gX2_howManyAreOpen_X5_used rfl (hG := (gRow_ob ha)) rfl rfl (Nat.le_of_ble_eq_true rfl) ⟨Nat.le_refl _, Nat.le_refl _⟩ dX2_howManyAreOpen_9 (gx_ki fun r_9 G_9 h_9 => ?_)
      obtain ⟨rfl, rfl⟩ := h_9
      refine gx_icmp_ge (tgt := 35) C dX2_howManyAreOpen_12 (by decide) (fun c_12 => ?_) (fun c_12 => ?_)
      · have hj : ¬ j < as.length := fun q => nI_ge q (by omega) c_12
        refine gx_iload_n C dX2_howManyAreOpen_35 rfl ?_
        refine gx_zret (mc := 0) C rfl ?_ dX2_howManyAreOpen_36
        have e : j = as.length := by omega
        subst e
        exact ⟨_, rfl, rfl, rfl⟩
      · have hj : j < as.length := by
          rcases Nat.lt_or_ge (j) (as.length) with q | q
          · exact q
          · exact absurd (nI_le q (by omega)) c_12
        refine gx_aload_n C dX2_howManyAreOpen_15 rfl ?_
        refine gx_get C fd_X2_howManyAreOpen_20 (hG := ho) (hv := by rfl) dX2_howManyAreOpen_16 ?_
        refine gx_iload_n C dX2_howManyAreOpen_19 rfl ?_
        refine gx_callV (ci := 4) (T := TX5) (N := 2) C (k5_get l D A hs (nI j) ha) cb_X2_howManyAreOpen__X5_get gX2_howManyAreOpen_X5_get rfl (hG := (gRow_ob ha)) rfl rfl (Nat.le_of_ble_eq_true rfl) ⟨Nat.le_refl _, Nat.le_refl _⟩ dX2_howManyAreOpen_20 (gx_ki fun r_20 G_20 h_20 => ?_)
        obtain ⟨rfl, rfl⟩ := h_20
        refine gx_if_ne (tgt := 29) C dX2_howManyAreOpen_23 (by decide) (fun c_23 => ?_) (fun c_23 => ?_)
        · rw [lget_nI (by omega)] at c_23
          first | refine gx_iincN C dX2_howManyAreOpen_29 rfl (by decide) ?_ | refine gx_iinc1 C dX2_howManyAreOpen_29 rfl (by decide) ?_
          refine gx_goto (tgt := 4) C dX2_howManyAreOpen_32 (by decide) ?_
          first
            | (refine gx_V ?_ (ih (j + 1) (by omega) (by omega)); simp only [List.set, pOpenN, pC_s (f := fun i => decide (as.getD i 0 = 0)) (n := j) (by simpa using c_23)]; done)
            | (refine gx_V ?_ (ih (j + 1) (by omega) (by omega)); simp only [List.set, pOpenN, pC_n (f := fun i => decide (as.getD i 0 = 0)) (n := j) (by simpa using c_23)]; done)
        · rw [lget_nI (by omega)] at c_23
          first | refine gx_iincN C dX2_howManyAreOpen_26 rfl (by decide) ?_ | refine gx_iinc1 C dX2_howManyAreOpen_26 rfl (by decide) ?_
          first | refine gx_iincN C dX2_howManyAreOpen_29 rfl (by decide) ?_ | refine gx_iinc1 C dX2_howManyAreOpen_29 rfl (by decide) ?_
          refine gx_goto (tgt := 4) C dX2_howManyAreOpen_32 (by decide) ?_
          first
            | (refine gx_V ?_ (ih (j + 1) (by omega) (by omega)); simp only [List.set, pOpenN, pC_s (f := fun i => decide (as.getD i 0 = 0)) (n := j) (by simpa using c_23)]; done)
            | (refine gx_V ?_ (ih (j + 1) (by omega) (by omega)); simp only [List.set, pOpenN, pC_n (f := fun i => decide (as.getD i 0 = 0)) (n := j) (by simpa using c_23)]; done)
  refine gx_iconst (v := 0) C dX2_howManyAreOpen_0 (by decide) ?_
  refine gx_istore_n C dX2_howManyAreOpen_1 (by decide) ?_
  refine gx_iconst (v := 0) C dX2_howManyAreOpen_2 (by decide) ?_
  refine gx_istore_n C dX2_howManyAreOpen_3 (by decide) ?_
  exact hloop (as.length + 1) 0 (by omega) (by omega)
set_option maxHeartbeats 4000000 in
set_option maxRecDepth 100000 in
/-- X2_howManyOppose -/
theorem k2_howManyOppose (l : Launch) (D : gD) (A : Nat → Prop) (hs : Nat) {G : gH} {a : Nat} {cs as ns ls : List Int32} (z : Int32) (h : gList D G a (cs, as, ns, ls)) : gM l yX2_howManyOppose wsX2_howManyOppose (gR 3) D A hs 0 0 [.ref a, .int z] G (gPi fun x G' => x = nI (pOppN cs z cs.length) ∧ G' = G) := by
  refine gM_intro (by decide) rfl rfl (Nat.le_of_ble_eq_true rfl) ?_
  intro p e s m args below meth c C
  have ho : G a = some (.inr (1, [.ref (a + 1), .ref (a + 3), .ref (a + 5), .ref (a + 7)])) := h.1
  have hc : gRow D G (a + 1) 64 cs := h.2.1
  have ha : gRow D G (a + 3) 64 as := h.2.2.1
  have hn : gRow D G (a + 5) 64 ns := h.2.2.2.1
  have hl : gRow D G (a + 7) 64 ls := h.2.2.2.2
  have bc := gRow_le hc
  have ba := gRow_le ha
  have bn := gRow_le hn
  have bl := gRow_le hl
  have hloop : ∀ (n j : Nat) , cs.length < j + n → j ≤ cs.length → gX p l e (gR 3) s m args below meth c D A 4 hs 0 0 (MQ below (gQ D A hs 0 (gPi fun x G' => x = nI (pOppN cs z cs.length) ∧ G' = G)) args s 0 0 A) G [some (.ref a), some (.int z), some (.int (nI (pOppN cs z j))), some (.int (nI j))] 4 [] := by
    intro n
    induction n with
    | zero => intro j hm hj0; exact absurd hm (by omega)
    | succ n ih =>
      intro j hm hj0
      refine gx_iload_n C dX2_howManyOppose_4 rfl ?_
      refine gx_aload_n C dX2_howManyOppose_5 rfl ?_
      refine gx_get C fd_X2_howManyOppose_14 (hG := ho) (hv := by rfl) dX2_howManyOppose_6 ?_
      refine gx_callV (ci := 4) (T := TX5) (N := 2) C (k5_used l D A hs hc) cb_X2_howManyOppose__X5_used gX2_howManyOppose_X5_used rfl (hG := (gRow_ob hc)) rfl rfl (Nat.le_of_ble_eq_true rfl) ⟨Nat.le_refl _, Nat.le_refl _⟩ dX2_howManyOppose_9 (gx_ki fun r_9 G_9 h_9 => ?_)
      obtain ⟨rfl, rfl⟩ := h_9
      refine gx_icmp_ge (tgt := 39) C dX2_howManyOppose_12 (by decide) (fun c_12 => ?_) (fun c_12 => ?_)
      · have hj : ¬ j < cs.length := fun q => nI_ge q (by omega) c_12
        refine gx_iload_n C dX2_howManyOppose_39 rfl ?_
        refine gx_zret (mc := 0) C rfl ?_ dX2_howManyOppose_40
        have e : j = cs.length := by omega
        subst e
        exact ⟨_, rfl, rfl, rfl⟩
      · have hj : j < cs.length := by
          rcases Nat.lt_or_ge (j) (cs.length) with q | q
          · exact q
          · exact absurd (nI_le q (by omega)) c_12
        refine gx_iload_n C dX2_howManyOppose_15 rfl ?_
        refine gx_aload_n C dX2_howManyOppose_16 rfl ?_
        refine gx_get C fd_X2_howManyOppose_14 (hG := ho) (hv := by rfl) dX2_howManyOppose_17 ?_
        refine gx_iload_n C dX2_howManyOppose_20 rfl ?_
        refine gx_callV (ci := 4) (T := TX5) (N := 2) C (k5_get l D A hs (nI j) hc) cb_X2_howManyOppose__X5_get gX2_howManyOppose_X5_get rfl (hG := (gRow_ob hc)) rfl rfl (Nat.le_of_ble_eq_true rfl) ⟨Nat.le_refl _, Nat.le_refl _⟩ dX2_howManyOppose_21 (gx_ki fun r_21 G_21 h_21 => ?_)
        obtain ⟨rfl, rfl⟩ := h_21
        refine gx_callS C (k1_areOpposed l D A hs z (lget cs (nI j))) cb_X2_howManyOppose__X1_areOpposed gX2_howManyOppose_X1_areOpposed rfl rfl (Nat.le_of_ble_eq_true rfl) ⟨Nat.le_refl _, Nat.le_refl _⟩ dX2_howManyOppose_24 (gx_ki fun r_24 G_24 h_24 => ?_)
        obtain ⟨rfl, rfl⟩ := h_24
        refine gx_if_eq (tgt := 33) C dX2_howManyOppose_27 (by decide) (fun c_27 => ?_) (fun c_27 => ?_)
        · rw [lget_nI (by omega)] at c_27
          first | refine gx_iincN C dX2_howManyOppose_33 rfl (by decide) ?_ | refine gx_iinc1 C dX2_howManyOppose_33 rfl (by decide) ?_
          refine gx_goto (tgt := 4) C dX2_howManyOppose_36 (by decide) ?_
          first
            | (refine gx_V ?_ (ih (j + 1) (by omega) (by omega)); simp only [List.set, pOppN, pC_s (f := fun i => decide (¬ pOpp z (cs.getD i 0) = 0)) (n := j) (by simpa using c_27)]; done)
            | (refine gx_V ?_ (ih (j + 1) (by omega) (by omega)); simp only [List.set, pOppN, pC_n (f := fun i => decide (¬ pOpp z (cs.getD i 0) = 0)) (n := j) (by simpa using c_27)]; done)
        · rw [lget_nI (by omega)] at c_27
          first | refine gx_iincN C dX2_howManyOppose_30 rfl (by decide) ?_ | refine gx_iinc1 C dX2_howManyOppose_30 rfl (by decide) ?_
          first | refine gx_iincN C dX2_howManyOppose_33 rfl (by decide) ?_ | refine gx_iinc1 C dX2_howManyOppose_33 rfl (by decide) ?_
          refine gx_goto (tgt := 4) C dX2_howManyOppose_36 (by decide) ?_
          first
            | (refine gx_V ?_ (ih (j + 1) (by omega) (by omega)); simp only [List.set, pOppN, pC_s (f := fun i => decide (¬ pOpp z (cs.getD i 0) = 0)) (n := j) (by simpa using c_27)]; done)
            | (refine gx_V ?_ (ih (j + 1) (by omega) (by omega)); simp only [List.set, pOppN, pC_n (f := fun i => decide (¬ pOpp z (cs.getD i 0) = 0)) (n := j) (by simpa using c_27)]; done)
  refine gx_iconst (v := 0) C dX2_howManyOppose_0 (by decide) ?_
  refine gx_istore_n C dX2_howManyOppose_1 (by decide) ?_
  refine gx_iconst (v := 0) C dX2_howManyOppose_2 (by decide) ?_
  refine gx_istore_n C dX2_howManyOppose_3 (by decide) ?_
  exact hloop (cs.length + 1) 0 (by omega) (by omega)
set_option maxHeartbeats 4000000 in
set_option maxRecDepth 100000 in
/-- X2_opposedPairs -/
theorem k2_opposedPairs (l : Launch) (D : gD) (A : Nat → Prop) (hs : Nat) {G : gH} {a : Nat} {cs as ns ls : List Int32} (h : gList D G a (cs, as, ns, ls)) : gM l yX2_opposedPairs wsX2_opposedPairs (gR 4) D A hs 0 0 [.ref a] G (gPi fun x G' => x = nI (pPairS cs cs.length cs.length) / 2 ∧ G' = G) := by
  refine gM_intro (by decide) rfl rfl (Nat.le_of_ble_eq_true rfl) ?_
  intro p e s m args below meth c C
  have ho : G a = some (.inr (1, [.ref (a + 1), .ref (a + 3), .ref (a + 5), .ref (a + 7)])) := h.1
  have hc : gRow D G (a + 1) 64 cs := h.2.1
  have ha : gRow D G (a + 3) 64 as := h.2.2.1
  have hn : gRow D G (a + 5) 64 ns := h.2.2.2.1
  have hl : gRow D G (a + 7) 64 ls := h.2.2.2.2
  have bc := gRow_le hc
  have ba := gRow_le ha
  have bn := gRow_le hn
  have bl := gRow_le hl
  have hloop : ∀ (n j : Nat) , cs.length < j + n → j ≤ cs.length → gX p l e (gR 4) s m args below meth c D A 3 hs 0 0 (MQ below (gQ D A hs 0 (gPi fun x G' => x = nI (pPairS cs cs.length cs.length) / 2 ∧ G' = G)) args s 0 0 A) G [some (.ref a), some (.int (nI (pPairS cs cs.length j))), some (.int (nI j))] 4 [] := by
    intro n
    induction n with
    | zero => intro j hm hj0; exact absurd hm (by omega)
    | succ n ih =>
      intro j hm hj0
      refine gx_iload_n C dX2_opposedPairs_4 rfl ?_
      refine gx_aload_n C dX2_opposedPairs_5 rfl ?_
      refine gx_get C fd_X2_opposedPairs_14 (hG := ho) (hv := by rfl) dX2_opposedPairs_6 ?_
      refine gx_callV (ci := 4) (T := TX5) (N := 2) C (k5_used l D A hs hc) cb_X2_opposedPairs__X5_used gX2_opposedPairs_X5_used rfl (hG := (gRow_ob hc)) rfl rfl (Nat.le_of_ble_eq_true rfl) ⟨Nat.le_refl _, Nat.le_refl _⟩ dX2_opposedPairs_9 (gx_ki fun r_9 G_9 h_9 => ?_)
      obtain ⟨rfl, rfl⟩ := h_9
      refine gx_icmp_ge (tgt := 36) C dX2_opposedPairs_12 (by decide) (fun c_12 => ?_) (fun c_12 => ?_)
      · have hj : ¬ j < cs.length := fun q => nI_ge q (by omega) c_12
        refine gx_iload_n C dX2_opposedPairs_36 rfl ?_
        refine gx_iconst (v := 2) C dX2_opposedPairs_37 (by decide) ?_
        refine gx_idiv C dX2_opposedPairs_38 (by decide) ?_
        refine gx_zret (mc := 0) C rfl ?_ dX2_opposedPairs_39
        have e : j = cs.length := by omega
        subst e
        exact ⟨_, rfl, rfl, rfl⟩
      · have hj : j < cs.length := by
          rcases Nat.lt_or_ge (j) (cs.length) with q | q
          · exact q
          · exact absurd (nI_le q (by omega)) c_12
        refine gx_iload_n C dX2_opposedPairs_15 rfl ?_
        refine gx_aload_n C dX2_opposedPairs_16 rfl ?_
        refine gx_aload_n C dX2_opposedPairs_17 rfl ?_
        refine gx_get C fd_X2_opposedPairs_14 (hG := ho) (hv := by rfl) dX2_opposedPairs_18 ?_
        refine gx_iload_n C dX2_opposedPairs_21 rfl ?_
        refine gx_callV (ci := 4) (T := TX5) (N := 2) C (k5_get l D A hs (nI j) hc) cb_X2_opposedPairs__X5_get gX2_opposedPairs_X5_get rfl (hG := (gRow_ob hc)) rfl rfl (Nat.le_of_ble_eq_true rfl) ⟨Nat.le_refl _, Nat.le_refl _⟩ dX2_opposedPairs_22 (gx_ki fun r_22 G_22 h_22 => ?_)
        obtain ⟨rfl, rfl⟩ := h_22
        refine gx_callV (ci := 1) (T := TX2) (N := 4) C (k2_howManyOppose l D A hs (lget cs (nI j)) h) cb_X2_opposedPairs__X2_howManyOppose gX2_opposedPairs_X2_howManyOppose rfl (hG := ho) rfl rfl (Nat.le_of_ble_eq_true rfl) ⟨Nat.le_refl _, Nat.le_refl _⟩ dX2_opposedPairs_25 (gx_ki fun r_25 G_25 h_25 => ?_)
        obtain ⟨rfl, rfl⟩ := h_25
        refine gx_iadd C dX2_opposedPairs_28 ?_
        refine gx_istore_n C dX2_opposedPairs_29 (by decide) ?_
        first | refine gx_iincN C dX2_opposedPairs_30 rfl (by decide) ?_ | refine gx_iinc1 C dX2_opposedPairs_30 rfl (by decide) ?_
        refine gx_goto (tgt := 4) C dX2_opposedPairs_33 (by decide) ?_
        refine gx_V ?_ (ih (j + 1) (by omega) (by omega))
        rw [lget_nI (by omega), nI_add]
        simp only [List.set, pPairS]
  refine gx_iconst (v := 0) C dX2_opposedPairs_0 (by decide) ?_
  refine gx_istore_n C dX2_opposedPairs_1 (by decide) ?_
  refine gx_iconst (v := 0) C dX2_opposedPairs_2 (by decide) ?_
  refine gx_istore_n C dX2_opposedPairs_3 (by decide) ?_
  exact hloop (cs.length + 1) 0 (by omega) (by omega)
set_option maxHeartbeats 4000000 in
set_option maxRecDepth 100000 in
/-- X2_meetsAnAccepted -/
theorem k2_meetsAnAccepted (l : Launch) (D : gD) (A : Nat → Prop) (hs : Nat) {G : gH} {a : Nat} {cs as ns ls : List Int32} (z : Int32) (h : gList D G a (cs, as, ns, ls)) : gM l yX2_meetsAnAccepted wsX2_meetsAnAccepted (gR 3) D A hs 0 0 [.ref a, .int z] G (gPi fun x G' => x = (if pMeets cs as z then 1 else 0) ∧ G' = G) := by
  refine gM_intro (by decide) rfl rfl (Nat.le_of_ble_eq_true rfl) ?_
  intro p e s m args below meth c C
  have ho : G a = some (.inr (1, [.ref (a + 1), .ref (a + 3), .ref (a + 5), .ref (a + 7)])) := h.1
  have hc : gRow D G (a + 1) 64 cs := h.2.1
  have ha : gRow D G (a + 3) 64 as := h.2.2.1
  have hn : gRow D G (a + 5) 64 ns := h.2.2.2.1
  have hl : gRow D G (a + 7) 64 ls := h.2.2.2.2
  have bc := gRow_le hc
  have ba := gRow_le ha
  have bn := gRow_le hn
  have bl := gRow_le hl
  have hloop : ∀ (n j : Nat) , cs.length < j + n → j ≤ cs.length → (∀ b, b < j → ¬ pHit cs as z b = true) → gX p l e (gR 3) s m args below meth c D A 3 hs 0 0 (MQ below (gQ D A hs 0 (gPi fun x G' => x = (if pMeets cs as z then 1 else 0) ∧ G' = G)) args s 0 0 A) G [some (.ref a), some (.int z), some (.int (nI j))] 2 [] := by
    intro n
    induction n with
    | zero => intro j hm hj0 hI; exact absurd hm (by omega)
    | succ n ih =>
      intro j hm hj0 hI
      refine gx_iload_n C dX2_meetsAnAccepted_2 rfl ?_
      refine gx_aload_n C dX2_meetsAnAccepted_3 rfl ?_
      refine gx_get C fd_X2_meetsAnAccepted_14 (hG := ho) (hv := by rfl) dX2_meetsAnAccepted_4 ?_
      refine gx_callV (ci := 4) (T := TX5) (N := 2) C (k5_used l D A hs hc) cb_X2_meetsAnAccepted__X5_used gX2_meetsAnAccepted_X5_used rfl (hG := (gRow_ob hc)) rfl rfl (Nat.le_of_ble_eq_true rfl) ⟨Nat.le_refl _, Nat.le_refl _⟩ dX2_meetsAnAccepted_7 (gx_ki fun r_7 G_7 h_7 => ?_)
      obtain ⟨rfl, rfl⟩ := h_7
      refine gx_icmp_ge (tgt := 48) C dX2_meetsAnAccepted_10 (by decide) (fun c_10 => ?_) (fun c_10 => ?_)
      · have hj : ¬ j < cs.length := fun q => nI_ge q (by omega) c_10
        refine gx_iconst (v := 0) C dX2_meetsAnAccepted_48 (by decide) ?_
        refine gx_zret (mc := 0) C rfl ?_ dX2_meetsAnAccepted_49
        exact ⟨_, rfl, by rw [if_neg (by rw [show pMeets cs as z = false from pAny_f (fun b hb => hI b (by omega))]; decide)], rfl⟩
      · have hj : j < cs.length := by
          rcases Nat.lt_or_ge (j) (cs.length) with q | q
          · exact q
          · exact absurd (nI_le q (by omega)) c_10
        refine gx_aload_n C dX2_meetsAnAccepted_13 rfl ?_
        refine gx_get C fd_X2_meetsAnAccepted_20 (hG := ho) (hv := by rfl) dX2_meetsAnAccepted_14 ?_
        refine gx_iload_n C dX2_meetsAnAccepted_17 rfl ?_
        refine gx_callV (ci := 4) (T := TX5) (N := 2) C (k5_get l D A hs (nI j) ha) cb_X2_meetsAnAccepted__X5_get gX2_meetsAnAccepted_X5_get rfl (hG := (gRow_ob ha)) rfl rfl (Nat.le_of_ble_eq_true rfl) ⟨Nat.le_refl _, Nat.le_refl _⟩ dX2_meetsAnAccepted_18 (gx_ki fun r_18 G_18 h_18 => ?_)
        obtain ⟨rfl, rfl⟩ := h_18
        refine gx_iconst (v := 1) C dX2_meetsAnAccepted_21 (by decide) ?_
        refine gx_icmp_ne (tgt := 42) C dX2_meetsAnAccepted_22 (by decide) (fun c_22 => ?_) (fun c_22 => ?_)
        · rw [lget_nI (by omega)] at c_22
          first | refine gx_iincN C dX2_meetsAnAccepted_42 rfl (by decide) ?_ | refine gx_iinc1 C dX2_meetsAnAccepted_42 rfl (by decide) ?_
          refine gx_goto (tgt := 2) C dX2_meetsAnAccepted_45 (by decide) ?_
          exact ih (j + 1) (by omega) (by omega) (fun b hb => by
            by_cases q : b = j
            · subst q; simp only [pHit, Bool.and_eq_true, decide_eq_true_eq]; rintro ⟨q1, q2⟩; first | exact c_22 q1 | exact q2 c_37
            · exact hI b (by omega))
        · rw [lget_nI (by omega)] at c_22
          refine gx_iload_n C dX2_meetsAnAccepted_25 rfl ?_
          refine gx_aload_n C dX2_meetsAnAccepted_26 rfl ?_
          refine gx_get C fd_X2_meetsAnAccepted_14 (hG := ho) (hv := by rfl) dX2_meetsAnAccepted_27 ?_
          refine gx_iload_n C dX2_meetsAnAccepted_30 rfl ?_
          refine gx_callV (ci := 4) (T := TX5) (N := 2) C (k5_get l D A hs (nI j) hc) cb_X2_meetsAnAccepted__X5_get gX2_meetsAnAccepted_X5_get rfl (hG := (gRow_ob hc)) rfl rfl (Nat.le_of_ble_eq_true rfl) ⟨Nat.le_refl _, Nat.le_refl _⟩ dX2_meetsAnAccepted_31 (gx_ki fun r_31 G_31 h_31 => ?_)
          obtain ⟨rfl, rfl⟩ := h_31
          refine gx_callS C (k1_areOpposed l D A hs z (lget cs (nI j))) cb_X2_meetsAnAccepted__X1_areOpposed gX2_meetsAnAccepted_X1_areOpposed rfl rfl (Nat.le_of_ble_eq_true rfl) ⟨Nat.le_refl _, Nat.le_refl _⟩ dX2_meetsAnAccepted_34 (gx_ki fun r_34 G_34 h_34 => ?_)
          obtain ⟨rfl, rfl⟩ := h_34
          refine gx_if_eq (tgt := 42) C dX2_meetsAnAccepted_37 (by decide) (fun c_37 => ?_) (fun c_37 => ?_)
          · rw [lget_nI (by omega)] at c_37
            first | refine gx_iincN C dX2_meetsAnAccepted_42 rfl (by decide) ?_ | refine gx_iinc1 C dX2_meetsAnAccepted_42 rfl (by decide) ?_
            refine gx_goto (tgt := 2) C dX2_meetsAnAccepted_45 (by decide) ?_
            exact ih (j + 1) (by omega) (by omega) (fun b hb => by
              by_cases q : b = j
              · subst q; simp only [pHit, Bool.and_eq_true, decide_eq_true_eq]; rintro ⟨q1, q2⟩; first | exact c_22 q1 | exact q2 c_37
              · exact hI b (by omega))
          · rw [lget_nI (by omega)] at c_37
            refine gx_iconst (v := 1) C dX2_meetsAnAccepted_40 (by decide) ?_
            refine gx_zret (mc := 0) C rfl ?_ dX2_meetsAnAccepted_41
            have q : pMeets cs as z = true := pAny_t hj (by simp only [pHit, Bool.and_eq_true, decide_eq_true_eq]; exact ⟨c_22, c_37⟩)
            exact ⟨_, rfl, by rw [if_pos q], rfl⟩
  refine gx_iconst (v := 0) C dX2_meetsAnAccepted_0 (by decide) ?_
  refine gx_istore_n C dX2_meetsAnAccepted_1 (by decide) ?_
  exact hloop (cs.length + 1) 0 (by omega) (by omega) (fun b hb => absurd hb (by omega))
set_option maxHeartbeats 4000000 in
set_option maxRecDepth 100000 in
/-- X2_canBeAccepted -/
theorem k2_canBeAccepted (l : Launch) (D : gD) (A : Nat → Prop) (hs : Nat) {G : gH} {a : Nat} {cs as ns ls : List Int32} (i : Int32) (h : gList D G a (cs, as, ns, ls)) : gM l yX2_canBeAccepted wsX2_canBeAccepted (gR 4) D A hs 0 0 [.ref a, .int i] G (gPi fun x G' => x = (if lget as i = 0 ∧ ¬ pMeets cs as (lget cs i) = true then (1 : Int32) else 0) ∧ G' = G) := by
  refine gM_intro (by decide) rfl rfl (Nat.le_of_ble_eq_true rfl) ?_
  intro p e s m args below meth c C
  have ho : G a = some (.inr (1, [.ref (a + 1), .ref (a + 3), .ref (a + 5), .ref (a + 7)])) := h.1
  have hc : gRow D G (a + 1) 64 cs := h.2.1
  have ha : gRow D G (a + 3) 64 as := h.2.2.1
  have hn : gRow D G (a + 5) 64 ns := h.2.2.2.1
  have hl : gRow D G (a + 7) 64 ls := h.2.2.2.2
  have bc := gRow_le hc
  have ba := gRow_le ha
  have bn := gRow_le hn
  have bl := gRow_le hl
  refine gx_aload_n C dX2_canBeAccepted_0 rfl ?_
  refine gx_get C fd_X2_canBeAccepted_20 (hG := ho) (hv := by rfl) dX2_canBeAccepted_1 ?_
  refine gx_iload_n C dX2_canBeAccepted_4 rfl ?_
  refine gx_callV (ci := 4) (T := TX5) (N := 2) C (k5_get l D A hs i ha) cb_X2_canBeAccepted__X5_get gX2_canBeAccepted_X5_get rfl (hG := (gRow_ob ha)) rfl rfl (Nat.le_of_ble_eq_true rfl) ⟨Nat.le_refl _, Nat.le_refl _⟩ dX2_canBeAccepted_5 (gx_ki fun r_5 G_5 h_5 => ?_)
  obtain ⟨rfl, rfl⟩ := h_5
  refine gx_if_ne (tgt := 30) C dX2_canBeAccepted_8 (by decide) (fun c_8 => ?_) (fun c_8 => ?_)
  · have hv : (if lget as i = 0 ∧ ¬ pMeets cs as (lget cs i) = true then (1 : Int32) else 0) = 0 := if_neg (fun z => c_8 z.1)
    refine gx_iconst (v := 0) C dX2_canBeAccepted_30 (by decide) ?_
    refine gx_zret (mc := 0) C rfl ?_ dX2_canBeAccepted_31
    exact ⟨_, rfl, hv.symm, rfl⟩
  · refine gx_aload_n C dX2_canBeAccepted_11 rfl ?_
    refine gx_aload_n C dX2_canBeAccepted_12 rfl ?_
    refine gx_get C fd_X2_canBeAccepted_14 (hG := ho) (hv := by rfl) dX2_canBeAccepted_13 ?_
    refine gx_iload_n C dX2_canBeAccepted_16 rfl ?_
    refine gx_callV (ci := 4) (T := TX5) (N := 2) C (k5_get l D A hs i hc) cb_X2_canBeAccepted__X5_get gX2_canBeAccepted_X5_get rfl (hG := (gRow_ob hc)) rfl rfl (Nat.le_of_ble_eq_true rfl) ⟨Nat.le_refl _, Nat.le_refl _⟩ dX2_canBeAccepted_17 (gx_ki fun r_17 G_17 h_17 => ?_)
    obtain ⟨rfl, rfl⟩ := h_17
    refine gx_callV (ci := 1) (T := TX2) (N := 4) C (k2_meetsAnAccepted l D A hs (lget cs i) h) cb_X2_canBeAccepted__X2_meetsAnAccepted gX2_canBeAccepted_X2_meetsAnAccepted rfl (hG := ho) rfl rfl (Nat.le_of_ble_eq_true rfl) ⟨Nat.le_refl _, Nat.le_refl _⟩ dX2_canBeAccepted_20 (gx_ki fun r_20 G_20 h_20 => ?_)
    obtain ⟨rfl, rfl⟩ := h_20
    refine gx_if_ne (tgt := 30) C dX2_canBeAccepted_23 (by decide) (fun c_23 => ?_) (fun c_23 => ?_)
    · have q : pMeets cs as (lget cs i) = true := by
        by_cases q : pMeets cs as (lget cs i) = true
        · exact q
        · rw [if_neg q] at c_23; exact absurd rfl c_23
      have hv : (if lget as i = 0 ∧ ¬ pMeets cs as (lget cs i) = true then (1 : Int32) else 0) = 0 := if_neg (fun z => z.2 q)
      refine gx_iconst (v := 0) C dX2_canBeAccepted_30 (by decide) ?_
      refine gx_zret (mc := 0) C rfl ?_ dX2_canBeAccepted_31
      exact ⟨_, rfl, hv.symm, rfl⟩
    · have q : ¬ pMeets cs as (lget cs i) = true := fun q => by
        rw [if_pos q] at c_23; exact absurd c_23 (by decide)
      have hv : (if lget as i = 0 ∧ ¬ pMeets cs as (lget cs i) = true then (1 : Int32) else 0) = 1 := if_pos ⟨c_8, q⟩
      refine gx_iconst (v := 1) C dX2_canBeAccepted_26 (by decide) ?_
      refine gx_goto (tgt := 31) C dX2_canBeAccepted_27 (by decide) ?_
      refine gx_zret (mc := 0) C rfl ?_ dX2_canBeAccepted_31
      exact ⟨_, rfl, hv.symm, rfl⟩
set_option maxHeartbeats 4000000 in
set_option maxRecDepth 100000 in
/-- X2_howManyAreListed -/
theorem k2_howManyAreListed (l : Launch) (D : gD) (A : Nat → Prop) (hs : Nat) {G : gH} {a : Nat} {cs as ns ls : List Int32} {b cap : Nat} {ms : List Int32} (hm0 : gRow D G b cap ms) (h : gList D G a (cs, as, ns, ls)) : gM l yX2_howManyAreListed wsX2_howManyAreListed (gR 3) D A hs 0 0 [.ref a, .ref b] G (gPi fun x G' => x = nI (pListN cs ms ms.length) ∧ G' = G) := by
  refine gM_intro (by decide) rfl rfl (Nat.le_of_ble_eq_true rfl) ?_
  intro p e s m args below meth c C
  have ho : G a = some (.inr (1, [.ref (a + 1), .ref (a + 3), .ref (a + 5), .ref (a + 7)])) := h.1
  have hc : gRow D G (a + 1) 64 cs := h.2.1
  have ha : gRow D G (a + 3) 64 as := h.2.2.1
  have hn : gRow D G (a + 5) 64 ns := h.2.2.2.1
  have hl : gRow D G (a + 7) 64 ls := h.2.2.2.2
  have bc := gRow_le hc
  have ba := gRow_le ha
  have bn := gRow_le hn
  have bl := gRow_le hl
  have bm := gRow_le hm0
  have hloop : ∀ (n j : Nat) , ms.length < j + n → j ≤ ms.length → gX p l e (gR 3) s m args below meth c D A 4 hs 0 0 (MQ below (gQ D A hs 0 (gPi fun x G' => x = nI (pListN cs ms ms.length) ∧ G' = G)) args s 0 0 A) G [some (.ref a), some (.ref b), some (.int (nI (pListN cs ms j))), some (.int (nI j))] 4 [] := by
    intro n
    induction n with
    | zero => intro j hm hj0; exact absurd hm (by omega)
    | succ n ih =>
      intro j hm hj0
      refine gx_iload_n C dX2_howManyAreListed_4 rfl ?_
      refine gx_aload_n C dX2_howManyAreListed_5 rfl ?_
      refine gx_callV (ci := 4) (T := TX5) (N := 2) C (k5_used l D A hs hm0) cb_X2_howManyAreListed__X5_used gX2_howManyAreListed_X5_used rfl (hG := (gRow_ob hm0)) rfl rfl (Nat.le_of_ble_eq_true rfl) ⟨Nat.le_refl _, Nat.le_refl _⟩ dX2_howManyAreListed_6 (gx_ki fun r_6 G_6 h_6 => ?_)
      obtain ⟨rfl, rfl⟩ := h_6
      refine gx_icmp_ge (tgt := 36) C dX2_howManyAreListed_9 (by decide) (fun c_9 => ?_) (fun c_9 => ?_)
      · have hj : ¬ j < ms.length := fun q => nI_ge q (by omega) c_9
        refine gx_iload_n C dX2_howManyAreListed_36 rfl ?_
        refine gx_zret (mc := 0) C rfl ?_ dX2_howManyAreListed_37
        have e : j = ms.length := by omega
        subst e
        exact ⟨_, rfl, rfl, rfl⟩
      · have hj : j < ms.length := by
          rcases Nat.lt_or_ge (j) (ms.length) with q | q
          · exact q
          · exact absurd (nI_le q (by omega)) c_9
        refine gx_aload_n C dX2_howManyAreListed_12 rfl ?_
        refine gx_get C fd_X2_howManyAreListed_14 (hG := ho) (hv := by rfl) dX2_howManyAreListed_13 ?_
        refine gx_aload_n C dX2_howManyAreListed_16 rfl ?_
        refine gx_iload_n C dX2_howManyAreListed_17 rfl ?_
        refine gx_callV (ci := 4) (T := TX5) (N := 2) C (k5_get l D A hs (nI j) hm0) cb_X2_howManyAreListed__X5_get gX2_howManyAreListed_X5_get rfl (hG := (gRow_ob hm0)) rfl rfl (Nat.le_of_ble_eq_true rfl) ⟨Nat.le_refl _, Nat.le_refl _⟩ dX2_howManyAreListed_18 (gx_ki fun r_18 G_18 h_18 => ?_)
        obtain ⟨rfl, rfl⟩ := h_18
        refine gx_callV (ci := 4) (T := TX5) (N := 2) C (k5_placeOf l D A hs (lget ms (nI j)) hc) cb_X2_howManyAreListed__X5_placeOf gX2_howManyAreListed_X5_placeOf rfl (hG := (gRow_ob hc)) rfl rfl (Nat.le_of_ble_eq_true rfl) ⟨Nat.le_refl _, Nat.le_refl _⟩ dX2_howManyAreListed_21 (gx_ki fun r_21 G_21 h_21 => ?_)
        obtain ⟨rfl, rfl⟩ := h_21
        refine gx_if_lt (tgt := 30) C dX2_howManyAreListed_24 (by decide) (fun c_24 => ?_) (fun c_24 => ?_)
        · rw [lget_nI (by omega), lidx_in (by omega)] at c_24
          first | refine gx_iincN C dX2_howManyAreListed_30 rfl (by decide) ?_ | refine gx_iinc1 C dX2_howManyAreListed_30 rfl (by decide) ?_
          refine gx_goto (tgt := 4) C dX2_howManyAreListed_33 (by decide) ?_
          first
            | (refine gx_V ?_ (ih (j + 1) (by omega) (by omega)); simp only [List.set, pListN, pC_s (f := fun i => decide (ms.getD i 0 ∈ cs)) (n := j) (by simpa using c_24)]; done)
            | (refine gx_V ?_ (ih (j + 1) (by omega) (by omega)); simp only [List.set, pListN, pC_n (f := fun i => decide (ms.getD i 0 ∈ cs)) (n := j) (by simpa using c_24)]; done)
        · rw [lget_nI (by omega), lidx_in (by omega), Decidable.not_not] at c_24
          first | refine gx_iincN C dX2_howManyAreListed_27 rfl (by decide) ?_ | refine gx_iinc1 C dX2_howManyAreListed_27 rfl (by decide) ?_
          first | refine gx_iincN C dX2_howManyAreListed_30 rfl (by decide) ?_ | refine gx_iinc1 C dX2_howManyAreListed_30 rfl (by decide) ?_
          refine gx_goto (tgt := 4) C dX2_howManyAreListed_33 (by decide) ?_
          first
            | (refine gx_V ?_ (ih (j + 1) (by omega) (by omega)); simp only [List.set, pListN, pC_s (f := fun i => decide (ms.getD i 0 ∈ cs)) (n := j) (by simpa using c_24)]; done)
            | (refine gx_V ?_ (ih (j + 1) (by omega) (by omega)); simp only [List.set, pListN, pC_n (f := fun i => decide (ms.getD i 0 ∈ cs)) (n := j) (by simpa using c_24)]; done)
  refine gx_iconst (v := 0) C dX2_howManyAreListed_0 (by decide) ?_
  refine gx_istore_n C dX2_howManyAreListed_1 (by decide) ?_
  refine gx_iconst (v := 0) C dX2_howManyAreListed_2 (by decide) ?_
  refine gx_istore_n C dX2_howManyAreListed_3 (by decide) ?_
  exact hloop (ms.length + 1) 0 (by omega) (by omega)
set_option maxHeartbeats 4000000 in
set_option maxRecDepth 100000 in
/-- X2_howManyMeetAnAccepted -/
theorem k2_howManyMeetAnAccepted (l : Launch) (D : gD) (A : Nat → Prop) (hs : Nat) {G : gH} {a : Nat} {cs as ns ls : List Int32} {b cap : Nat} {ms : List Int32} (hm0 : gRow D G b cap ms) (h : gList D G a (cs, as, ns, ls)) : gM l yX2_howManyMeetAnAccepted wsX2_howManyMeetAnAccepted (gR 4) D A hs 0 0 [.ref a, .ref b] G (gPi fun x G' => x = nI (pMeetN cs as ms ms.length) ∧ G' = G) := by
  refine gM_intro (by decide) rfl rfl (Nat.le_of_ble_eq_true rfl) ?_
  intro p e s m args below meth c C
  have ho : G a = some (.inr (1, [.ref (a + 1), .ref (a + 3), .ref (a + 5), .ref (a + 7)])) := h.1
  have hc : gRow D G (a + 1) 64 cs := h.2.1
  have ha : gRow D G (a + 3) 64 as := h.2.2.1
  have hn : gRow D G (a + 5) 64 ns := h.2.2.2.1
  have hl : gRow D G (a + 7) 64 ls := h.2.2.2.2
  have bc := gRow_le hc
  have ba := gRow_le ha
  have bn := gRow_le hn
  have bl := gRow_le hl
  have bm := gRow_le hm0
  have hloop : ∀ (n j : Nat) , ms.length < j + n → j ≤ ms.length → gX p l e (gR 4) s m args below meth c D A 4 hs 0 0 (MQ below (gQ D A hs 0 (gPi fun x G' => x = nI (pMeetN cs as ms ms.length) ∧ G' = G)) args s 0 0 A) G [some (.ref a), some (.ref b), some (.int (nI (pMeetN cs as ms j))), some (.int (nI j))] 4 [] := by
    intro n
    induction n with
    | zero => intro j hm hj0; exact absurd hm (by omega)
    | succ n ih =>
      intro j hm hj0
      refine gx_iload_n C dX2_howManyMeetAnAccepted_4 rfl ?_
      refine gx_aload_n C dX2_howManyMeetAnAccepted_5 rfl ?_
      refine gx_callV (ci := 4) (T := TX5) (N := 2) C (k5_used l D A hs hm0) cb_X2_howManyMeetAnAccepted__X5_used gX2_howManyMeetAnAccepted_X5_used rfl (hG := (gRow_ob hm0)) rfl rfl (Nat.le_of_ble_eq_true rfl) ⟨Nat.le_refl _, Nat.le_refl _⟩ dX2_howManyMeetAnAccepted_6 (gx_ki fun r_6 G_6 h_6 => ?_)
      obtain ⟨rfl, rfl⟩ := h_6
      refine gx_icmp_ge (tgt := 33) C dX2_howManyMeetAnAccepted_9 (by decide) (fun c_9 => ?_) (fun c_9 => ?_)
      · have hj : ¬ j < ms.length := fun q => nI_ge q (by omega) c_9
        refine gx_iload_n C dX2_howManyMeetAnAccepted_33 rfl ?_
        refine gx_zret (mc := 0) C rfl ?_ dX2_howManyMeetAnAccepted_34
        have e : j = ms.length := by omega
        subst e
        exact ⟨_, rfl, rfl, rfl⟩
      · have hj : j < ms.length := by
          rcases Nat.lt_or_ge (j) (ms.length) with q | q
          · exact q
          · exact absurd (nI_le q (by omega)) c_9
        refine gx_aload_n C dX2_howManyMeetAnAccepted_12 rfl ?_
        refine gx_aload_n C dX2_howManyMeetAnAccepted_13 rfl ?_
        refine gx_iload_n C dX2_howManyMeetAnAccepted_14 rfl ?_
        refine gx_callV (ci := 4) (T := TX5) (N := 2) C (k5_get l D A hs (nI j) hm0) cb_X2_howManyMeetAnAccepted__X5_get gX2_howManyMeetAnAccepted_X5_get rfl (hG := (gRow_ob hm0)) rfl rfl (Nat.le_of_ble_eq_true rfl) ⟨Nat.le_refl _, Nat.le_refl _⟩ dX2_howManyMeetAnAccepted_15 (gx_ki fun r_15 G_15 h_15 => ?_)
        obtain ⟨rfl, rfl⟩ := h_15
        refine gx_callV (ci := 1) (T := TX2) (N := 4) C (k2_meetsAnAccepted l D A hs (lget ms (nI j)) h) cb_X2_howManyMeetAnAccepted__X2_meetsAnAccepted gX2_howManyMeetAnAccepted_X2_meetsAnAccepted rfl (hG := ho) rfl rfl (Nat.le_of_ble_eq_true rfl) ⟨Nat.le_refl _, Nat.le_refl _⟩ dX2_howManyMeetAnAccepted_18 (gx_ki fun r_18 G_18 h_18 => ?_)
        obtain ⟨rfl, rfl⟩ := h_18
        refine gx_if_eq (tgt := 27) C dX2_howManyMeetAnAccepted_21 (by decide) (fun c_21 => ?_) (fun c_21 => ?_)
        · rw [lget_nI (by omega)] at c_21
          have q : ¬ pMeets cs as (ms.getD j 0) = true := fun q => by
            rw [if_pos q] at c_21; exact absurd c_21 (by decide)
          first | refine gx_iincN C dX2_howManyMeetAnAccepted_27 rfl (by decide) ?_ | refine gx_iinc1 C dX2_howManyMeetAnAccepted_27 rfl (by decide) ?_
          refine gx_goto (tgt := 4) C dX2_howManyMeetAnAccepted_30 (by decide) ?_
          first
            | (refine gx_V ?_ (ih (j + 1) (by omega) (by omega)); simp only [List.set, pMeetN, pC_s (f := fun i => pMeets cs as (ms.getD i 0)) (n := j) q]; done)
            | (refine gx_V ?_ (ih (j + 1) (by omega) (by omega)); simp only [List.set, pMeetN, pC_n (f := fun i => pMeets cs as (ms.getD i 0)) (n := j) q]; done)
        · rw [lget_nI (by omega)] at c_21
          have q : pMeets cs as (ms.getD j 0) = true := by
            by_cases q : pMeets cs as (ms.getD j 0) = true
            · exact q
            · rw [if_neg q] at c_21; exact absurd rfl c_21
          first | refine gx_iincN C dX2_howManyMeetAnAccepted_24 rfl (by decide) ?_ | refine gx_iinc1 C dX2_howManyMeetAnAccepted_24 rfl (by decide) ?_
          first | refine gx_iincN C dX2_howManyMeetAnAccepted_27 rfl (by decide) ?_ | refine gx_iinc1 C dX2_howManyMeetAnAccepted_27 rfl (by decide) ?_
          refine gx_goto (tgt := 4) C dX2_howManyMeetAnAccepted_30 (by decide) ?_
          first
            | (refine gx_V ?_ (ih (j + 1) (by omega) (by omega)); simp only [List.set, pMeetN, pC_s (f := fun i => pMeets cs as (ms.getD i 0)) (n := j) q]; done)
            | (refine gx_V ?_ (ih (j + 1) (by omega) (by omega)); simp only [List.set, pMeetN, pC_n (f := fun i => pMeets cs as (ms.getD i 0)) (n := j) q]; done)
  refine gx_iconst (v := 0) C dX2_howManyMeetAnAccepted_0 (by decide) ?_
  refine gx_istore_n C dX2_howManyMeetAnAccepted_1 (by decide) ?_
  refine gx_iconst (v := 0) C dX2_howManyMeetAnAccepted_2 (by decide) ?_
  refine gx_istore_n C dX2_howManyMeetAnAccepted_3 (by decide) ?_
  exact hloop (ms.length + 1) 0 (by omega) (by omega)
set_option maxHeartbeats 4000000 in
set_option maxRecDepth 100000 in
/-- X2_isMoreWanted -/
theorem k2_isMoreWanted (l : Launch) (D : gD) (A : Nat → Prop) (hs : Nat) {G : gH} {a : Nat} {cs as ns ls : List Int32} (i j : Int32) (h : gList D G a (cs, as, ns, ls)) : gM l yX2_isMoreWanted wsX2_isMoreWanted (gR 2) D A hs 0 0 [.ref a, .int i, .int j] G (gPi fun x G' => x = (if pMore cs ns i j then 1 else 0) ∧ G' = G) := by
  refine gM_intro (by decide) rfl rfl (Nat.le_of_ble_eq_true rfl) ?_
  intro p e s m args below meth c C
  have ho : G a = some (.inr (1, [.ref (a + 1), .ref (a + 3), .ref (a + 5), .ref (a + 7)])) := h.1
  have hc : gRow D G (a + 1) 64 cs := h.2.1
  have ha : gRow D G (a + 3) 64 as := h.2.2.1
  have hn : gRow D G (a + 5) 64 ns := h.2.2.2.1
  have hl : gRow D G (a + 7) 64 ls := h.2.2.2.2
  have bc := gRow_le hc
  have ba := gRow_le ha
  have bn := gRow_le hn
  have bl := gRow_le hl
  refine gx_aload_n C dX2_isMoreWanted_0 rfl ?_
  refine gx_get C fd_X2_isMoreWanted_23 (hG := ho) (hv := by rfl) dX2_isMoreWanted_1 ?_
  refine gx_iload_n C dX2_isMoreWanted_4 rfl ?_
  refine gx_callV (ci := 4) (T := TX5) (N := 2) C (k5_get l D A hs i hn) cb_X2_isMoreWanted__X5_get gX2_isMoreWanted_X5_get rfl (hG := (by first | exact gRow_ob hc | exact gRow_ob ha | exact gRow_ob hn | exact gRow_ob hl)) rfl rfl (Nat.le_of_ble_eq_true rfl) ⟨Nat.le_refl _, Nat.le_refl _⟩ dX2_isMoreWanted_5 (gx_ki fun r_5 G_5 h_5 => ?_)
  obtain ⟨rfl, rfl⟩ := h_5
  refine gx_aload_n C dX2_isMoreWanted_8 rfl ?_
  refine gx_get C fd_X2_isMoreWanted_23 (hG := ho) (hv := by rfl) dX2_isMoreWanted_9 ?_
  refine gx_iload_n C dX2_isMoreWanted_12 rfl ?_
  refine gx_callV (ci := 4) (T := TX5) (N := 2) C (k5_get l D A hs j hn) cb_X2_isMoreWanted__X5_get gX2_isMoreWanted_X5_get rfl (hG := (by first | exact gRow_ob hc | exact gRow_ob ha | exact gRow_ob hn | exact gRow_ob hl)) rfl rfl (Nat.le_of_ble_eq_true rfl) ⟨Nat.le_refl _, Nat.le_refl _⟩ dX2_isMoreWanted_13 (gx_ki fun r_13 G_13 h_13 => ?_)
  obtain ⟨rfl, rfl⟩ := h_13
  refine gx_icmp_eq (tgt := 44) C dX2_isMoreWanted_16 (by decide) (fun c_16 => ?_) (fun c_16 => ?_)
  · refine gx_aload_n C dX2_isMoreWanted_44 rfl ?_
    refine gx_get C fd_X2_isMoreWanted_14 (hG := ho) (hv := by rfl) dX2_isMoreWanted_45 ?_
    refine gx_iload_n C dX2_isMoreWanted_48 rfl ?_
    refine gx_callV (ci := 4) (T := TX5) (N := 2) C (k5_get l D A hs i hc) cb_X2_isMoreWanted__X5_get gX2_isMoreWanted_X5_get rfl (hG := (by first | exact gRow_ob hc | exact gRow_ob ha | exact gRow_ob hn | exact gRow_ob hl)) rfl rfl (Nat.le_of_ble_eq_true rfl) ⟨Nat.le_refl _, Nat.le_refl _⟩ dX2_isMoreWanted_49 (gx_ki fun r_49 G_49 h_49 => ?_)
    obtain ⟨rfl, rfl⟩ := h_49
    refine gx_callS C (k1_firstOf l D A hs (lget cs i)) cb_X2_isMoreWanted__X1_firstOf gX2_isMoreWanted_X1_firstOf rfl rfl (Nat.le_of_ble_eq_true rfl) ⟨Nat.le_refl _, Nat.le_refl _⟩ dX2_isMoreWanted_52 (gx_ki fun r_52 G_52 h_52 => ?_)
    obtain ⟨rfl, rfl⟩ := h_52
    refine gx_aload_n C dX2_isMoreWanted_55 rfl ?_
    refine gx_get C fd_X2_isMoreWanted_14 (hG := ho) (hv := by rfl) dX2_isMoreWanted_56 ?_
    refine gx_iload_n C dX2_isMoreWanted_59 rfl ?_
    refine gx_callV (ci := 4) (T := TX5) (N := 2) C (k5_get l D A hs j hc) cb_X2_isMoreWanted__X5_get gX2_isMoreWanted_X5_get rfl (hG := (by first | exact gRow_ob hc | exact gRow_ob ha | exact gRow_ob hn | exact gRow_ob hl)) rfl rfl (Nat.le_of_ble_eq_true rfl) ⟨Nat.le_refl _, Nat.le_refl _⟩ dX2_isMoreWanted_60 (gx_ki fun r_60 G_60 h_60 => ?_)
    obtain ⟨rfl, rfl⟩ := h_60
    refine gx_callS C (k1_firstOf l D A hs (lget cs j)) cb_X2_isMoreWanted__X1_firstOf gX2_isMoreWanted_X1_firstOf rfl rfl (Nat.le_of_ble_eq_true rfl) ⟨Nat.le_refl _, Nat.le_refl _⟩ dX2_isMoreWanted_63 (gx_ki fun r_63 G_63 h_63 => ?_)
    obtain ⟨rfl, rfl⟩ := h_63
    refine gx_icmp_ge (tgt := 73) C dX2_isMoreWanted_66 (by decide) (fun c_66 => ?_) (fun c_66 => ?_)
    · refine gx_iconst (v := 0) C dX2_isMoreWanted_73 (by decide) ?_
      refine gx_zret (mc := 0) C rfl ?_ dX2_isMoreWanted_74
      first
        | exact ⟨_, rfl, by rw [pMore, if_pos c_16, if_pos (by simp only [decide_eq_true_eq]; exact Int32.not_le.mp c_66)], rfl⟩
        | exact ⟨_, rfl, by rw [pMore, if_pos c_16, if_neg (by simp only [decide_eq_true_eq]; exact Int32.not_lt.mpr c_66)], rfl⟩
        | exact ⟨_, rfl, by rw [pMore, if_neg c_16, if_pos (by simp only [decide_eq_true_eq]; exact Int32.not_le.mp c_35)], rfl⟩
        | exact ⟨_, rfl, by rw [pMore, if_neg c_16, if_neg (by simp only [decide_eq_true_eq]; exact Int32.not_lt.mpr c_35)], rfl⟩
    · refine gx_iconst (v := 1) C dX2_isMoreWanted_69 (by decide) ?_
      refine gx_goto (tgt := 74) C dX2_isMoreWanted_70 (by decide) ?_
      refine gx_zret (mc := 0) C rfl ?_ dX2_isMoreWanted_74
      first
        | exact ⟨_, rfl, by rw [pMore, if_pos c_16, if_pos (by simp only [decide_eq_true_eq]; exact Int32.not_le.mp c_66)], rfl⟩
        | exact ⟨_, rfl, by rw [pMore, if_pos c_16, if_neg (by simp only [decide_eq_true_eq]; exact Int32.not_lt.mpr c_66)], rfl⟩
        | exact ⟨_, rfl, by rw [pMore, if_neg c_16, if_pos (by simp only [decide_eq_true_eq]; exact Int32.not_le.mp c_35)], rfl⟩
        | exact ⟨_, rfl, by rw [pMore, if_neg c_16, if_neg (by simp only [decide_eq_true_eq]; exact Int32.not_lt.mpr c_35)], rfl⟩
  · refine gx_aload_n C dX2_isMoreWanted_19 rfl ?_
    refine gx_get C fd_X2_isMoreWanted_23 (hG := ho) (hv := by rfl) dX2_isMoreWanted_20 ?_
    refine gx_iload_n C dX2_isMoreWanted_23 rfl ?_
    refine gx_callV (ci := 4) (T := TX5) (N := 2) C (k5_get l D A hs i hn) cb_X2_isMoreWanted__X5_get gX2_isMoreWanted_X5_get rfl (hG := (by first | exact gRow_ob hc | exact gRow_ob ha | exact gRow_ob hn | exact gRow_ob hl)) rfl rfl (Nat.le_of_ble_eq_true rfl) ⟨Nat.le_refl _, Nat.le_refl _⟩ dX2_isMoreWanted_24 (gx_ki fun r_24 G_24 h_24 => ?_)
    obtain ⟨rfl, rfl⟩ := h_24
    refine gx_aload_n C dX2_isMoreWanted_27 rfl ?_
    refine gx_get C fd_X2_isMoreWanted_23 (hG := ho) (hv := by rfl) dX2_isMoreWanted_28 ?_
    refine gx_iload_n C dX2_isMoreWanted_31 rfl ?_
    refine gx_callV (ci := 4) (T := TX5) (N := 2) C (k5_get l D A hs j hn) cb_X2_isMoreWanted__X5_get gX2_isMoreWanted_X5_get rfl (hG := (by first | exact gRow_ob hc | exact gRow_ob ha | exact gRow_ob hn | exact gRow_ob hl)) rfl rfl (Nat.le_of_ble_eq_true rfl) ⟨Nat.le_refl _, Nat.le_refl _⟩ dX2_isMoreWanted_32 (gx_ki fun r_32 G_32 h_32 => ?_)
    obtain ⟨rfl, rfl⟩ := h_32
    refine gx_icmp_le (tgt := 42) C dX2_isMoreWanted_35 (by decide) (fun c_35 => ?_) (fun c_35 => ?_)
    · refine gx_iconst (v := 0) C dX2_isMoreWanted_42 (by decide) ?_
      refine gx_zret (mc := 0) C rfl ?_ dX2_isMoreWanted_43
      first
        | exact ⟨_, rfl, by rw [pMore, if_pos c_16, if_pos (by simp only [decide_eq_true_eq]; exact Int32.not_le.mp c_66)], rfl⟩
        | exact ⟨_, rfl, by rw [pMore, if_pos c_16, if_neg (by simp only [decide_eq_true_eq]; exact Int32.not_lt.mpr c_66)], rfl⟩
        | exact ⟨_, rfl, by rw [pMore, if_neg c_16, if_pos (by simp only [decide_eq_true_eq]; exact Int32.not_le.mp c_35)], rfl⟩
        | exact ⟨_, rfl, by rw [pMore, if_neg c_16, if_neg (by simp only [decide_eq_true_eq]; exact Int32.not_lt.mpr c_35)], rfl⟩
    · refine gx_iconst (v := 1) C dX2_isMoreWanted_38 (by decide) ?_
      refine gx_goto (tgt := 43) C dX2_isMoreWanted_39 (by decide) ?_
      refine gx_zret (mc := 0) C rfl ?_ dX2_isMoreWanted_43
      first
        | exact ⟨_, rfl, by rw [pMore, if_pos c_16, if_pos (by simp only [decide_eq_true_eq]; exact Int32.not_le.mp c_66)], rfl⟩
        | exact ⟨_, rfl, by rw [pMore, if_pos c_16, if_neg (by simp only [decide_eq_true_eq]; exact Int32.not_lt.mpr c_66)], rfl⟩
        | exact ⟨_, rfl, by rw [pMore, if_neg c_16, if_pos (by simp only [decide_eq_true_eq]; exact Int32.not_le.mp c_35)], rfl⟩
        | exact ⟨_, rfl, by rw [pMore, if_neg c_16, if_neg (by simp only [decide_eq_true_eq]; exact Int32.not_lt.mpr c_35)], rfl⟩
set_option maxHeartbeats 4000000 in
set_option maxRecDepth 100000 in
/-- X2_mostWanted -/
theorem k2_mostWanted (l : Launch) (D : gD) (A : Nat → Prop) (hs : Nat) {G : gH} {a : Nat} {cs as ns ls : List Int32} (h : gList D G a (cs, as, ns, ls)) : gM l yX2_mostWanted wsX2_mostWanted (gR 3) D A hs 0 0 [.ref a] G (gPi fun x G' => x = pBI (-1) (pBest cs as ns cs.length) ∧ G' = G) := by
  refine gM_intro (by decide) rfl rfl (Nat.le_of_ble_eq_true rfl) ?_
  intro p e s m args below meth c C
  have ho : G a = some (.inr (1, [.ref (a + 1), .ref (a + 3), .ref (a + 5), .ref (a + 7)])) := h.1
  have hc : gRow D G (a + 1) 64 cs := h.2.1
  have ha : gRow D G (a + 3) 64 as := h.2.2.1
  have hn : gRow D G (a + 5) 64 ns := h.2.2.2.1
  have hl : gRow D G (a + 7) 64 ls := h.2.2.2.2
  have bc := gRow_le hc
  have ba := gRow_le ha
  have bn := gRow_le hn
  have bl := gRow_le hl
  have hloop : ∀ (n j : Nat) , cs.length < j + n → j ≤ cs.length → gX p l e (gR 3) s m args below meth c D A 3 hs 0 0 (MQ below (gQ D A hs 0 (gPi fun x G' => x = pBI (-1) (pBest cs as ns cs.length) ∧ G' = G)) args s 0 0 A) G [some (.ref a), some (.int (pBI (-1) (pBest cs as ns j))), some (.int (nI j))] 4 [] := by
    intro n
    induction n with
    | zero => intro j hm hj0; exact absurd hm (by omega)
    | succ n ih =>
      intro j hm hj0
      refine gx_iload_n C dX2_mostWanted_4 rfl ?_
      refine gx_aload_n C dX2_mostWanted_5 rfl ?_
      refine gx_get C fd_X2_mostWanted_14 (hG := ho) (hv := by rfl) dX2_mostWanted_6 ?_
      refine gx_callV (ci := 4) (T := TX5) (N := 2) C (k5_used l D A hs hc) cb_X2_mostWanted__X5_used gX2_mostWanted_X5_used rfl (hG := (gRow_ob hc)) rfl rfl (Nat.le_of_ble_eq_true rfl) ⟨Nat.le_refl _, Nat.le_refl _⟩ dX2_mostWanted_9 (gx_ki fun r_9 G_9 h_9 => ?_)
      obtain ⟨rfl, rfl⟩ := h_9
      refine gx_icmp_ge (tgt := 47) C dX2_mostWanted_12 (by decide) (fun c_12 => ?_) (fun c_12 => ?_)
      · have hj : ¬ j < cs.length := fun q => nI_ge q (by omega) c_12
        refine gx_iload_n C dX2_mostWanted_47 rfl ?_
        refine gx_zret (mc := 0) C rfl ?_ dX2_mostWanted_48
        have e : j = cs.length := by omega
        subst e
        exact ⟨_, rfl, rfl, rfl⟩
      · have hj : j < cs.length := by
          rcases Nat.lt_or_ge (j) (cs.length) with q | q
          · exact q
          · exact absurd (nI_le q (by omega)) c_12
        refine gx_aload_n C dX2_mostWanted_15 rfl ?_
        refine gx_get C fd_X2_mostWanted_20 (hG := ho) (hv := by rfl) dX2_mostWanted_16 ?_
        refine gx_iload_n C dX2_mostWanted_19 rfl ?_
        refine gx_callV (ci := 4) (T := TX5) (N := 2) C (k5_get l D A hs (nI j) ha) cb_X2_mostWanted__X5_get gX2_mostWanted_X5_get rfl (hG := (gRow_ob ha)) rfl rfl (Nat.le_of_ble_eq_true rfl) ⟨Nat.le_refl _, Nat.le_refl _⟩ dX2_mostWanted_20 (gx_ki fun r_20 G_20 h_20 => ?_)
        obtain ⟨rfl, rfl⟩ := h_20
        refine gx_if_ne (tgt := 41) C dX2_mostWanted_23 (by decide) (fun c_23 => ?_) (fun c_23 => ?_)
        · rw [lget_nI (by omega)] at c_23
          have hv : pBI (-1) (pBest cs as ns (j + 1)) = pBI (-1) (pBest cs as ns j) := by rw [pBest_s (by decide) (by omega), if_neg c_23]
          first | refine gx_iincN C dX2_mostWanted_41 rfl (by decide) ?_ | refine gx_iinc1 C dX2_mostWanted_41 rfl (by decide) ?_
          refine gx_goto (tgt := 4) C dX2_mostWanted_44 (by decide) ?_
          refine gx_V ?_ (ih (j + 1) (by omega) (by omega))
          rw [hv]
          rfl
        · rw [lget_nI (by omega)] at c_23
          refine gx_iload_n C dX2_mostWanted_26 rfl ?_
          refine gx_if_lt (tgt := 39) C dX2_mostWanted_27 (by decide) (fun c_27 => ?_) (fun c_27 => ?_)
          · have hv : pBI (-1) (pBest cs as ns (j + 1)) = nI j := by rw [pBest_s (by decide) (by omega), if_pos c_23, if_pos (Or.inl c_27)]
            refine gx_iload_n C dX2_mostWanted_39 rfl ?_
            refine gx_istore_n C dX2_mostWanted_40 (by decide) ?_
            first | refine gx_iincN C dX2_mostWanted_41 rfl (by decide) ?_ | refine gx_iinc1 C dX2_mostWanted_41 rfl (by decide) ?_
            refine gx_goto (tgt := 4) C dX2_mostWanted_44 (by decide) ?_
            refine gx_V ?_ (ih (j + 1) (by omega) (by omega))
            rw [hv]
            rfl
          · refine gx_aload_n C dX2_mostWanted_30 rfl ?_
            refine gx_iload_n C dX2_mostWanted_31 rfl ?_
            refine gx_iload_n C dX2_mostWanted_32 rfl ?_
            refine gx_callV (ci := 1) (T := TX2) (N := 4) C (k2_isMoreWanted l D A hs (nI j) (pBI (-1) (pBest cs as ns j)) h) cb_X2_mostWanted__X2_isMoreWanted gX2_mostWanted_X2_isMoreWanted rfl (hG := ho) rfl rfl (Nat.le_of_ble_eq_true rfl) ⟨Nat.le_refl _, Nat.le_refl _⟩ dX2_mostWanted_33 (gx_ki fun r_33 G_33 h_33 => ?_)
            obtain ⟨rfl, rfl⟩ := h_33
            refine gx_if_eq (tgt := 41) C dX2_mostWanted_36 (by decide) (fun c_36 => ?_) (fun c_36 => ?_)
            · have q : ¬ pMore cs ns (nI j) (pBI (-1) (pBest cs as ns j)) = true := fun q => by
                rw [if_pos q] at c_36; exact absurd c_36 (by decide)
              have hv : pBI (-1) (pBest cs as ns (j + 1)) = pBI (-1) (pBest cs as ns j) := by rw [pBest_s (by decide) (by omega), if_pos c_23, if_neg (fun z => z.elim c_27 q)]
              first | refine gx_iincN C dX2_mostWanted_41 rfl (by decide) ?_ | refine gx_iinc1 C dX2_mostWanted_41 rfl (by decide) ?_
              refine gx_goto (tgt := 4) C dX2_mostWanted_44 (by decide) ?_
              refine gx_V ?_ (ih (j + 1) (by omega) (by omega))
              rw [hv]
              rfl
            · have q : pMore cs ns (nI j) (pBI (-1) (pBest cs as ns j)) = true := by
                by_cases q : pMore cs ns (nI j) (pBI (-1) (pBest cs as ns j)) = true
                · exact q
                · rw [if_neg q] at c_36; exact absurd rfl c_36
              have hv : pBI (-1) (pBest cs as ns (j + 1)) = nI j := by rw [pBest_s (by decide) (by omega), if_pos c_23, if_pos (Or.inr q)]
              refine gx_iload_n C dX2_mostWanted_39 rfl ?_
              refine gx_istore_n C dX2_mostWanted_40 (by decide) ?_
              first | refine gx_iincN C dX2_mostWanted_41 rfl (by decide) ?_ | refine gx_iinc1 C dX2_mostWanted_41 rfl (by decide) ?_
              refine gx_goto (tgt := 4) C dX2_mostWanted_44 (by decide) ?_
              refine gx_V ?_ (ih (j + 1) (by omega) (by omega))
              rw [hv]
              rfl
  refine gx_iconst (v := (-1)) C dX2_mostWanted_0 (by decide) ?_
  refine gx_istore_n C dX2_mostWanted_1 (by decide) ?_
  refine gx_iconst (v := 0) C dX2_mostWanted_2 (by decide) ?_
  refine gx_istore_n C dX2_mostWanted_3 (by decide) ?_
  exact hloop (cs.length + 1) 0 (by omega) (by omega)
set_option maxHeartbeats 4000000 in
set_option maxRecDepth 100000 in
/-- X2_take -/
theorem k2_take (l : Launch) (D : gD) (A : Nat → Prop) (hs : Nat) {G : gH} {a : Nat} {cs as ns ls : List Int32} (z w : Int32) (h : gList D G a (cs, as, ns, ls)) : gM l yX2_take wsX2_take (gR 3) D A hs 0 0 [.ref a, .int z, .int w] G (gPi fun x G' => x = (if z ∈ cs then 1 else 0) ∧ gList D G' a (pTake (cs, as, ns, ls) z w) ∧ gOut a 9 G G') := by
  refine gM_intro (by decide) rfl rfl (Nat.le_of_ble_eq_true rfl) ?_
  intro p e s m args below meth c C
  have ho : G a = some (.inr (1, [.ref (a + 1), .ref (a + 3), .ref (a + 5), .ref (a + 7)])) := h.1
  have hc : gRow D G (a + 1) 64 cs := h.2.1
  have ha : gRow D G (a + 3) 64 as := h.2.2.1
  have hn : gRow D G (a + 5) 64 ns := h.2.2.2.1
  have hl : gRow D G (a + 7) 64 ls := h.2.2.2.2
  have bc := gRow_le hc
  have ba := gRow_le ha
  have bn := gRow_le hn
  have bl := gRow_le hl
  refine gx_aload_n C dX2_take_0 rfl ?_
  refine gx_get C fd_X2_take_14 (hG := ho) (hv := by rfl) dX2_take_1 ?_
  refine gx_iload_n C dX2_take_4 rfl ?_
  refine gx_callV (ci := 4) (T := TX5) (N := 2) C (k5_placeOf l D A hs z hc) cb_X2_take__X5_placeOf gX2_take_X5_placeOf rfl (hG := (gRow_ob hc)) rfl rfl (Nat.le_of_ble_eq_true rfl) ⟨Nat.le_refl _, Nat.le_refl _⟩ dX2_take_5 (gx_ki fun r_5 G_5 h_5 => ?_)
  obtain ⟨rfl, rfl⟩ := h_5
  refine gx_istore_n C dX2_take_8 (by decide) ?_
  refine gx_iload_n C dX2_take_9 rfl ?_
  refine gx_if_lt (tgt := 44) C dX2_take_10 (by decide) (fun c_10 => ?_) (fun c_10 => ?_)
  · rw [lidx_in (by omega)] at c_10
    refine gx_aload_n C dX2_take_44 rfl ?_
    refine gx_get C fd_X2_take_14 (hG := ho) (hv := by rfl) dX2_take_45 ?_
    refine gx_iload_n C dX2_take_48 rfl ?_
    refine gx_callV (ci := 4) (T := TX5) (N := 2) C (k5_append l D A hs z hc) cb_X2_take__X5_append gX2_take_X5_append rfl (hG := (gRow_ob hc)) rfl rfl (Nat.le_of_ble_eq_true rfl) ⟨Nat.le_refl _, Nat.le_refl _⟩ dX2_take_49 (gx_kv fun G_49 h_49 => ?_)
    have w1 := gOut_wd (b := a) (k := 9) h_49.2 (by omega)
    have q1 : G_49 a = _ := (h_49.2 a (by omega)).trans ho
    have ha1 := gRow_fr ha h_49.2 (by omega)
    have hn1 := gRow_fr hn h_49.2 (by omega)
    have hl1 := gRow_fr hl h_49.2 (by omega)
    refine gx_aload_n C dX2_take_52 rfl ?_
    refine gx_get C fd_X2_take_20 (hG := q1) (hv := by rfl) dX2_take_53 ?_
    refine gx_iconst (v := 0) C dX2_take_56 (by decide) ?_
    refine gx_callV (ci := 4) (T := TX5) (N := 2) C (k5_append l D A hs 0 ha1) cb_X2_take__X5_append gX2_take_X5_append rfl (hG := (gRow_ob ha1)) rfl rfl (Nat.le_of_ble_eq_true rfl) ⟨Nat.le_refl _, Nat.le_refl _⟩ dX2_take_57 (gx_kv fun G_57 h_57 => ?_)
    have w2 := gOut_tr w1 (gOut_wd (b := a) (k := 9) h_57.2 (by omega))
    have q2 : G_57 a = _ := (h_57.2 a (by omega)).trans q1
    have hc2 := gRow_fr h_49.1 h_57.2 (by omega)
    have hn2 := gRow_fr hn1 h_57.2 (by omega)
    have hl2 := gRow_fr hl1 h_57.2 (by omega)
    refine gx_aload_n C dX2_take_60 rfl ?_
    refine gx_get C fd_X2_take_23 (hG := q2) (hv := by rfl) dX2_take_61 ?_
    refine gx_iconst (v := 1) C dX2_take_64 (by decide) ?_
    refine gx_callV (ci := 4) (T := TX5) (N := 2) C (k5_append l D A hs 1 hn2) cb_X2_take__X5_append gX2_take_X5_append rfl (hG := (gRow_ob hn2)) rfl rfl (Nat.le_of_ble_eq_true rfl) ⟨Nat.le_refl _, Nat.le_refl _⟩ dX2_take_65 (gx_kv fun G_65 h_65 => ?_)
    have w3 := gOut_tr w2 (gOut_wd (b := a) (k := 9) h_65.2 (by omega))
    have q3 : G_65 a = _ := (h_65.2 a (by omega)).trans q2
    have hc3 := gRow_fr hc2 h_65.2 (by omega)
    have ha3 := gRow_fr h_57.1 h_65.2 (by omega)
    have hl3 := gRow_fr hl2 h_65.2 (by omega)
    refine gx_aload_n C dX2_take_68 rfl ?_
    refine gx_get C fd_X2_take_26 (hG := q3) (hv := by rfl) dX2_take_69 ?_
    refine gx_iload_n C dX2_take_72 rfl ?_
    refine gx_callV (ci := 4) (T := TX5) (N := 2) C (k5_append l D A hs w hl3) cb_X2_take__X5_append gX2_take_X5_append rfl (hG := (gRow_ob hl3)) rfl rfl (Nat.le_of_ble_eq_true rfl) ⟨Nat.le_refl _, Nat.le_refl _⟩ dX2_take_73 (gx_kv fun G_73 h_73 => ?_)
    have w4 := gOut_tr w3 (gOut_wd (b := a) (k := 9) h_73.2 (by omega))
    have q4 : G_73 a = _ := (h_73.2 a (by omega)).trans q3
    have hc4 := gRow_fr hc3 h_73.2 (by omega)
    have ha4 := gRow_fr ha3 h_73.2 (by omega)
    have hn4 := gRow_fr h_65.1 h_73.2 (by omega)
    refine gx_iconst (v := 0) C dX2_take_76 (by decide) ?_
    refine gx_zret (mc := 0) C rfl ?_ dX2_take_77
    exact ⟨_, rfl, (if_neg c_10).symm, by rw [pTake, if_neg c_10]; exact ⟨q4, hc4, ha4, hn4, h_73.1⟩, w4⟩
  · rw [lidx_in (by omega), Decidable.not_not] at c_10
    refine gx_aload_n C dX2_take_13 rfl ?_
    refine gx_get C fd_X2_take_23 (hG := ho) (hv := by rfl) dX2_take_14 ?_
    refine gx_iload_n C dX2_take_17 rfl ?_
    refine gx_iconst (v := 1) C dX2_take_18 (by decide) ?_
    refine gx_callV (ci := 4) (T := TX5) (N := 2) C (k5_add l D A hs (lidx cs z) 1 hn) cb_X2_take__X5_add gX2_take_X5_add rfl (hG := (gRow_ob hn)) rfl rfl (Nat.le_of_ble_eq_true rfl) ⟨Nat.le_refl _, Nat.le_refl _⟩ dX2_take_19 (gx_kv fun G_19 h_19 => ?_)
    have w1 := gOut_wd (b := a) (k := 9) h_19.2 (by omega)
    have o1 : G_19 a = _ := (h_19.2 a (by omega)).trans ho
    have hc1 := gRow_fr hc h_19.2 (by omega)
    have ha1 := gRow_fr ha h_19.2 (by omega)
    have hl1 := gRow_fr hl h_19.2 (by omega)
    refine gx_aload_n C dX2_take_22 rfl ?_
    refine gx_get C fd_X2_take_26 (hG := o1) (hv := by rfl) dX2_take_23 ?_
    refine gx_iload_n C dX2_take_26 rfl ?_
    refine gx_aload_n C dX2_take_27 rfl ?_
    refine gx_get C fd_X2_take_26 (hG := o1) (hv := by rfl) dX2_take_28 ?_
    refine gx_iload_n C dX2_take_31 rfl ?_
    refine gx_callV (ci := 4) (T := TX5) (N := 2) C (k5_get l D A hs (lidx cs z) hl1) cb_X2_take__X5_get gX2_take_X5_get rfl (hG := (gRow_ob hl1)) rfl rfl (Nat.le_of_ble_eq_true rfl) ⟨Nat.le_refl _, Nat.le_refl _⟩ dX2_take_32 (gx_ki fun r_32 G_32 h_32 => ?_)
    obtain ⟨rfl, rfl⟩ := h_32
    refine gx_iload_n C dX2_take_35 rfl ?_
    refine gx_min C mm_X2_take_mn1 mm_X2_take_mn2 mm_X2_take_mn3 mm_X2_take_mn4 (Nat.le_of_ble_eq_true rfl) (Nat.le_of_ble_eq_true rfl) (Nat.le_refl _) (Nat.le_refl _) dX2_take_36 ?_
    refine gx_callV (ci := 4) (T := TX5) (N := 2) C (k5_set l D A hs (lidx cs z) (pMin (lget ls (lidx cs z)) w) hl1) cb_X2_take__X5_set gX2_take_X5_set rfl (hG := (gRow_ob hl1)) rfl rfl (Nat.le_of_ble_eq_true rfl) ⟨Nat.le_refl _, Nat.le_refl _⟩ dX2_take_39 (gx_kv fun G_39 h_39 => ?_)
    have w2 := gOut_tr w1 (gOut_wd (b := a) (k := 9) h_39.2 (by omega))
    have o2 : G_39 a = _ := (h_39.2 a (by omega)).trans o1
    have hc2 := gRow_fr hc1 h_39.2 (by omega)
    have ha2 := gRow_fr ha1 h_39.2 (by omega)
    have hn2 := gRow_fr h_19.1 h_39.2 (by omega)
    refine gx_iconst (v := 1) C dX2_take_42 (by decide) ?_
    refine gx_zret (mc := 0) C rfl ?_ dX2_take_43
    exact ⟨_, rfl, (if_pos c_10).symm, by rw [pTake, if_pos c_10]; exact ⟨o2, hc2, ha2, hn2, h_39.1⟩, w2⟩
end
section
set_option maxRecDepth 20000 in
theorem ggX6_init_X5_init : GoodIn wsX6_init wsX5_init := goodIn_r _ [10, 11, 2, 3, 12, 13, 14, 15] (by decide +kernel) (by decide +kernel)
set_option maxRecDepth 20000 in
theorem gX6_init_X5_init : GoodIn wsX6_init (wsX5_init) := ggX6_init_X5_init
theorem dX6_init_0 : decode cX6_init 0 = .ok (.aload_n 0, 1) := by decide +kernel
theorem dX6_init_1 : decode cX6_init 1 = .ok (.invokespecial 3, 3) := by decide +kernel
theorem dX6_init_4 : decode cX6_init 4 = .ok (.aload_n 0, 1) := by decide +kernel
theorem dX6_init_5 : decode cX6_init 5 = .ok (.new 9, 3) := by decide +kernel
theorem dX6_init_8 : decode cX6_init 8 = .ok (.dup, 1) := by decide +kernel
theorem dX6_init_9 : decode cX6_init 9 = .ok (.bipush 8, 2) := by decide +kernel
theorem dX6_init_11 : decode cX6_init 11 = .ok (.invokespecial 11, 3) := by decide +kernel
theorem dX6_init_14 : decode cX6_init 14 = .ok (.putfield 14, 3) := by decide +kernel
theorem dX6_init_17 : decode cX6_init 17 = .ok (.return_, 1) := by decide +kernel
set_option maxRecDepth 20000 in
theorem ggX6_startFor_X5_cutTo : GoodIn wsX6_startFor wsX5_cutTo := goodIn_r _ [8, 9, 13, 14] (by decide +kernel) (by decide +kernel)
set_option maxRecDepth 20000 in
theorem gX6_startFor_X5_cutTo : GoodIn wsX6_startFor (wsV RX6 27 RX5 yX5_cutTo wsX5_cutTo) := goodIn_app (goodIn_of _ (by decide +kernel)) ggX6_startFor_X5_cutTo
theorem dX6_startFor_0 : decode cX6_startFor 0 = .ok (.aload_n 0, 1) := by decide +kernel
theorem dX6_startFor_1 : decode cX6_startFor 1 = .ok (.iload_n 1, 1) := by decide +kernel
theorem dX6_startFor_2 : decode cX6_startFor 2 = .ok (.putfield 20, 3) := by decide +kernel
theorem dX6_startFor_5 : decode cX6_startFor 5 = .ok (.aload_n 0, 1) := by decide +kernel
theorem dX6_startFor_6 : decode cX6_startFor 6 = .ok (.iconst 0, 1) := by decide +kernel
theorem dX6_startFor_7 : decode cX6_startFor 7 = .ok (.putfield 24, 3) := by decide +kernel
theorem dX6_startFor_10 : decode cX6_startFor 10 = .ok (.aload_n 0, 1) := by decide +kernel
theorem dX6_startFor_11 : decode cX6_startFor 11 = .ok (.getfield 14, 3) := by decide +kernel
theorem dX6_startFor_14 : decode cX6_startFor 14 = .ok (.iconst 0, 1) := by decide +kernel
theorem dX6_startFor_15 : decode cX6_startFor 15 = .ok (.invokevirtual 27, 3) := by decide +kernel
theorem dX6_startFor_18 : decode cX6_startFor 18 = .ok (.return_, 1) := by decide +kernel
set_option maxRecDepth 20000 in
theorem ggX6_copyFrom_X5_copyFrom : GoodIn wsX6_copyFrom wsX5_copyFrom := goodIn_r _ [8, 9, 10, 14, 15] (by decide +kernel) (by decide +kernel)
set_option maxRecDepth 20000 in
theorem gX6_copyFrom_X5_copyFrom : GoodIn wsX6_copyFrom (wsV RX6 30 RX5 yX5_copyFrom wsX5_copyFrom) := goodIn_app (goodIn_of _ (by decide +kernel)) ggX6_copyFrom_X5_copyFrom
theorem dX6_copyFrom_0 : decode cX6_copyFrom 0 = .ok (.aload_n 0, 1) := by decide +kernel
theorem dX6_copyFrom_1 : decode cX6_copyFrom 1 = .ok (.aload_n 1, 1) := by decide +kernel
theorem dX6_copyFrom_2 : decode cX6_copyFrom 2 = .ok (.getfield 20, 3) := by decide +kernel
theorem dX6_copyFrom_5 : decode cX6_copyFrom 5 = .ok (.putfield 20, 3) := by decide +kernel
theorem dX6_copyFrom_8 : decode cX6_copyFrom 8 = .ok (.aload_n 0, 1) := by decide +kernel
theorem dX6_copyFrom_9 : decode cX6_copyFrom 9 = .ok (.aload_n 1, 1) := by decide +kernel
theorem dX6_copyFrom_10 : decode cX6_copyFrom 10 = .ok (.getfield 24, 3) := by decide +kernel
theorem dX6_copyFrom_13 : decode cX6_copyFrom 13 = .ok (.putfield 24, 3) := by decide +kernel
theorem dX6_copyFrom_16 : decode cX6_copyFrom 16 = .ok (.aload_n 0, 1) := by decide +kernel
theorem dX6_copyFrom_17 : decode cX6_copyFrom 17 = .ok (.getfield 14, 3) := by decide +kernel
theorem dX6_copyFrom_20 : decode cX6_copyFrom 20 = .ok (.aload_n 1, 1) := by decide +kernel
theorem dX6_copyFrom_21 : decode cX6_copyFrom 21 = .ok (.getfield 14, 3) := by decide +kernel
theorem dX6_copyFrom_24 : decode cX6_copyFrom 24 = .ok (.invokevirtual 30, 3) := by decide +kernel
theorem dX6_copyFrom_27 : decode cX6_copyFrom 27 = .ok (.return_, 1) := by decide +kernel
end
section
set_option maxRecDepth 20000 in
theorem ggX7_init_X5_init : GoodIn wsX7_init wsX5_init := goodIn_r _ [22, 23, 2, 3, 24, 25, 50, 51] (by decide +kernel) (by decide +kernel)
set_option maxRecDepth 20000 in
theorem gX7_init_X5_init : GoodIn wsX7_init (wsX5_init) := ggX7_init_X5_init
set_option maxRecDepth 20000 in
theorem ggX7_init_X2_init : GoodIn wsX7_init wsX2_init := goodIn_r _ [27, 28, 2, 3, 29, 5, 6, 30, 31, 32, 33, 34, 21, 22, 23, 24, 25, 50, 51, 61, 62, 63, 64] (by decide +kernel) (by decide +kernel)
set_option maxRecDepth 20000 in
theorem gX7_init_X2_init_n28 : GoodIn wsX7_init (wsX2_init) := ggX7_init_X2_init
set_option maxRecDepth 20000 in
theorem ggX7_init_X6_init : GoodIn wsX7_init wsX6_init := goodIn_r _ [36, 37, 2, 3, 38, 5, 6, 39, 40, 21, 22, 23, 24, 25, 50, 51, 65, 66, 67] (by decide +kernel) (by decide +kernel)
set_option maxRecDepth 20000 in
theorem gX7_init_X6_init_n45 : GoodIn wsX7_init (wsX6_init) := ggX7_init_X6_init
set_option maxRecDepth 20000 in
theorem ggX7_init_X5_fill : GoodIn wsX7_init wsX5_fill := goodIn_r _ [44, 45, 46, 47, 48, 6, 49, 25, 50, 51] (by decide +kernel) (by decide +kernel)
set_option maxRecDepth 20000 in
theorem gX7_init_X5_fill : GoodIn wsX7_init (wsV RX7 46 RX5 yX5_fill wsX5_fill) := goodIn_app (goodIn_of _ (by decide +kernel)) ggX7_init_X5_fill
theorem dX7_init_0 : decode cX7_init 0 = .ok (.aload_n 0, 1) := by decide +kernel
theorem dX7_init_1 : decode cX7_init 1 = .ok (.invokespecial 3, 3) := by decide +kernel
theorem dX7_init_4 : decode cX7_init 4 = .ok (.aload_n 0, 1) := by decide +kernel
theorem dX7_init_5 : decode cX7_init 5 = .ok (.new 9, 3) := by decide +kernel
theorem dX7_init_8 : decode cX7_init 8 = .ok (.dup, 1) := by decide +kernel
theorem dX7_init_9 : decode cX7_init 9 = .ok (.bipush 100, 2) := by decide +kernel
theorem dX7_init_11 : decode cX7_init 11 = .ok (.invokespecial 11, 3) := by decide +kernel
theorem dX7_init_14 : decode cX7_init 14 = .ok (.putfield 14, 3) := by decide +kernel
theorem dX7_init_17 : decode cX7_init 17 = .ok (.aload_n 0, 1) := by decide +kernel
theorem dX7_init_18 : decode cX7_init 18 = .ok (.bipush 8, 2) := by decide +kernel
theorem dX7_init_20 : decode cX7_init 20 = .ok (.anewarray 20, 3) := by decide +kernel
theorem dX7_init_23 : decode cX7_init 23 = .ok (.putfield 22, 3) := by decide +kernel
theorem dX7_init_26 : decode cX7_init 26 = .ok (.aload_n 0, 1) := by decide +kernel
theorem dX7_init_27 : decode cX7_init 27 = .ok (.new 26, 3) := by decide +kernel
theorem dX7_init_30 : decode cX7_init 30 = .ok (.dup, 1) := by decide +kernel
theorem dX7_init_31 : decode cX7_init 31 = .ok (.invokespecial 28, 3) := by decide +kernel
theorem dX7_init_34 : decode cX7_init 34 = .ok (.putfield 29, 3) := by decide +kernel
theorem dX7_init_37 : decode cX7_init 37 = .ok (.aload_n 0, 1) := by decide +kernel
theorem dX7_init_38 : decode cX7_init 38 = .ok (.new 9, 3) := by decide +kernel
theorem dX7_init_41 : decode cX7_init 41 = .ok (.dup, 1) := by decide +kernel
theorem dX7_init_42 : decode cX7_init 42 = .ok (.iconst 5, 1) := by decide +kernel
theorem dX7_init_43 : decode cX7_init 43 = .ok (.invokespecial 11, 3) := by decide +kernel
theorem dX7_init_46 : decode cX7_init 46 = .ok (.putfield 33, 3) := by decide +kernel
theorem dX7_init_49 : decode cX7_init 49 = .ok (.aload_n 0, 1) := by decide +kernel
theorem dX7_init_50 : decode cX7_init 50 = .ok (.new 9, 3) := by decide +kernel
theorem dX7_init_53 : decode cX7_init 53 = .ok (.dup, 1) := by decide +kernel
theorem dX7_init_54 : decode cX7_init 54 = .ok (.bipush 6, 2) := by decide +kernel
theorem dX7_init_56 : decode cX7_init 56 = .ok (.invokespecial 11, 3) := by decide +kernel
theorem dX7_init_59 : decode cX7_init 59 = .ok (.putfield 36, 3) := by decide +kernel
theorem dX7_init_62 : decode cX7_init 62 = .ok (.aload_n 0, 1) := by decide +kernel
theorem dX7_init_63 : decode cX7_init 63 = .ok (.new 9, 3) := by decide +kernel
theorem dX7_init_66 : decode cX7_init 66 = .ok (.dup, 1) := by decide +kernel
theorem dX7_init_67 : decode cX7_init 67 = .ok (.bipush 6, 2) := by decide +kernel
theorem dX7_init_69 : decode cX7_init 69 = .ok (.invokespecial 11, 3) := by decide +kernel
theorem dX7_init_72 : decode cX7_init 72 = .ok (.putfield 39, 3) := by decide +kernel
theorem dX7_init_75 : decode cX7_init 75 = .ok (.aload_n 0, 1) := by decide +kernel
theorem dX7_init_76 : decode cX7_init 76 = .ok (.new 9, 3) := by decide +kernel
theorem dX7_init_79 : decode cX7_init 79 = .ok (.dup, 1) := by decide +kernel
theorem dX7_init_80 : decode cX7_init 80 = .ok (.bipush 6, 2) := by decide +kernel
theorem dX7_init_82 : decode cX7_init 82 = .ok (.invokespecial 11, 3) := by decide +kernel
theorem dX7_init_85 : decode cX7_init 85 = .ok (.putfield 42, 3) := by decide +kernel
theorem dX7_init_88 : decode cX7_init 88 = .ok (.iconst 0, 1) := by decide +kernel
theorem dX7_init_89 : decode cX7_init 89 = .ok (.istore_n 1, 1) := by decide +kernel
theorem dX7_init_90 : decode cX7_init 90 = .ok (.iload_n 1, 1) := by decide +kernel
theorem dX7_init_91 : decode cX7_init 91 = .ok (.aload_n 0, 1) := by decide +kernel
theorem dX7_init_92 : decode cX7_init 92 = .ok (.getfield 22, 3) := by decide +kernel
theorem dX7_init_95 : decode cX7_init 95 = .ok (.arraylength, 1) := by decide +kernel
theorem dX7_init_96 : decode cX7_init 96 = .ok (.if_icmp .ge 22, 3) := by decide +kernel
theorem dX7_init_99 : decode cX7_init 99 = .ok (.aload_n 0, 1) := by decide +kernel
theorem dX7_init_100 : decode cX7_init 100 = .ok (.getfield 22, 3) := by decide +kernel
theorem dX7_init_103 : decode cX7_init 103 = .ok (.iload_n 1, 1) := by decide +kernel
theorem dX7_init_104 : decode cX7_init 104 = .ok (.new 20, 3) := by decide +kernel
theorem dX7_init_107 : decode cX7_init 107 = .ok (.dup, 1) := by decide +kernel
theorem dX7_init_108 : decode cX7_init 108 = .ok (.invokespecial 45, 3) := by decide +kernel
theorem dX7_init_111 : decode cX7_init 111 = .ok (.aastore, 1) := by decide +kernel
theorem dX7_init_112 : decode cX7_init 112 = .ok (.iinc 1 1, 3) := by decide +kernel
theorem dX7_init_115 : decode cX7_init 115 = .ok (.goto (-25), 3) := by decide +kernel
theorem dX7_init_118 : decode cX7_init 118 = .ok (.aload_n 0, 1) := by decide +kernel
theorem dX7_init_119 : decode cX7_init 119 = .ok (.getfield 33, 3) := by decide +kernel
theorem dX7_init_122 : decode cX7_init 122 = .ok (.iconst 5, 1) := by decide +kernel
theorem dX7_init_123 : decode cX7_init 123 = .ok (.iconst 0, 1) := by decide +kernel
theorem dX7_init_124 : decode cX7_init 124 = .ok (.invokevirtual 46, 3) := by decide +kernel
theorem dX7_init_127 : decode cX7_init 127 = .ok (.aload_n 0, 1) := by decide +kernel
theorem dX7_init_128 : decode cX7_init 128 = .ok (.getfield 36, 3) := by decide +kernel
theorem dX7_init_131 : decode cX7_init 131 = .ok (.bipush 6, 2) := by decide +kernel
theorem dX7_init_133 : decode cX7_init 133 = .ok (.iconst 0, 1) := by decide +kernel
theorem dX7_init_134 : decode cX7_init 134 = .ok (.invokevirtual 46, 3) := by decide +kernel
theorem dX7_init_137 : decode cX7_init 137 = .ok (.aload_n 0, 1) := by decide +kernel
theorem dX7_init_138 : decode cX7_init 138 = .ok (.getfield 39, 3) := by decide +kernel
theorem dX7_init_141 : decode cX7_init 141 = .ok (.bipush 6, 2) := by decide +kernel
theorem dX7_init_143 : decode cX7_init 143 = .ok (.iconst 0, 1) := by decide +kernel
theorem dX7_init_144 : decode cX7_init 144 = .ok (.invokevirtual 46, 3) := by decide +kernel
theorem dX7_init_147 : decode cX7_init 147 = .ok (.aload_n 0, 1) := by decide +kernel
theorem dX7_init_148 : decode cX7_init 148 = .ok (.getfield 42, 3) := by decide +kernel
theorem dX7_init_151 : decode cX7_init 151 = .ok (.bipush 6, 2) := by decide +kernel
theorem dX7_init_153 : decode cX7_init 153 = .ok (.iconst 0, 1) := by decide +kernel
theorem dX7_init_154 : decode cX7_init 154 = .ok (.invokevirtual 46, 3) := by decide +kernel
theorem dX7_init_157 : decode cX7_init 157 = .ok (.return_, 1) := by decide +kernel
set_option maxRecDepth 20000 in
theorem ggX7_copyFrom_X5_copyFrom : GoodIn wsX7_copyFrom wsX5_copyFrom := goodIn_r _ [13, 14, 15, 53, 54] (by decide +kernel) (by decide +kernel)
set_option maxRecDepth 20000 in
theorem gX7_copyFrom_X5_copyFrom : GoodIn wsX7_copyFrom (wsV RX7 50 RX5 yX5_copyFrom wsX5_copyFrom) := goodIn_app (goodIn_of _ (by decide +kernel)) ggX7_copyFrom_X5_copyFrom
set_option maxRecDepth 20000 in
theorem ggX7_copyFrom_X2_copyFrom : GoodIn wsX7_copyFrom wsX2_copyFrom := goodIn_r _ [20, 21, 22, 23, 24, 25, 10, 11, 12, 13, 14, 15, 55, 56, 57, 58, 53, 54] (by decide +kernel) (by decide +kernel)
set_option maxRecDepth 20000 in
theorem gX7_copyFrom_X2_copyFrom : GoodIn wsX7_copyFrom (wsV RX7 54 RX2 yX2_copyFrom wsX2_copyFrom) := goodIn_app (goodIn_of _ (by decide +kernel)) ggX7_copyFrom_X2_copyFrom
set_option maxRecDepth 20000 in
theorem ggX7_copyFrom_X7_sheetNumbered : GoodIn wsX7_copyFrom wsX7_sheetNumbered := goodIn_r _ [30, 8, 31, 44, 45, 46, 47, 48, 49, 50, 51, 52] (by decide +kernel) (by decide +kernel)
set_option maxRecDepth 20000 in
theorem gX7_copyFrom_X7_sheetNumbered : GoodIn wsX7_copyFrom (wsV RX7 64 RX7 yX7_sheetNumbered wsX7_sheetNumbered) := goodIn_app (goodIn_of _ (by decide +kernel)) ggX7_copyFrom_X7_sheetNumbered
set_option maxRecDepth 20000 in
theorem ggX7_copyFrom_X7_copySheet : GoodIn wsX7_copyFrom wsX7_copySheet := goodIn_r _ [34, 35, 36, 37, 38, 39, 40, 41, 42, 43, 10, 11, 12, 13, 14, 15, 59, 60, 61, 53, 54] (by decide +kernel) (by decide +kernel)
set_option maxRecDepth 20000 in
theorem gX7_copyFrom_X7_copySheet : GoodIn wsX7_copyFrom (va_wsS RX7 68 yX7_copySheet wsX7_copySheet) := goodIn_app (goodIn_of _ (by decide +kernel)) ggX7_copyFrom_X7_copySheet
theorem dX7_copyFrom_0 : decode cX7_copyFrom 0 = .ok (.aload_n 0, 1) := by decide +kernel
theorem dX7_copyFrom_1 : decode cX7_copyFrom 1 = .ok (.getfield 14, 3) := by decide +kernel
theorem dX7_copyFrom_4 : decode cX7_copyFrom 4 = .ok (.aload_n 1, 1) := by decide +kernel
theorem dX7_copyFrom_5 : decode cX7_copyFrom 5 = .ok (.getfield 14, 3) := by decide +kernel
theorem dX7_copyFrom_8 : decode cX7_copyFrom 8 = .ok (.invokevirtual 50, 3) := by decide +kernel
theorem dX7_copyFrom_11 : decode cX7_copyFrom 11 = .ok (.aload_n 0, 1) := by decide +kernel
theorem dX7_copyFrom_12 : decode cX7_copyFrom 12 = .ok (.getfield 29, 3) := by decide +kernel
theorem dX7_copyFrom_15 : decode cX7_copyFrom 15 = .ok (.aload_n 1, 1) := by decide +kernel
theorem dX7_copyFrom_16 : decode cX7_copyFrom 16 = .ok (.getfield 29, 3) := by decide +kernel
theorem dX7_copyFrom_19 : decode cX7_copyFrom 19 = .ok (.invokevirtual 54, 3) := by decide +kernel
theorem dX7_copyFrom_22 : decode cX7_copyFrom 22 = .ok (.aload_n 0, 1) := by decide +kernel
theorem dX7_copyFrom_23 : decode cX7_copyFrom 23 = .ok (.getfield 33, 3) := by decide +kernel
theorem dX7_copyFrom_26 : decode cX7_copyFrom 26 = .ok (.aload_n 1, 1) := by decide +kernel
theorem dX7_copyFrom_27 : decode cX7_copyFrom 27 = .ok (.getfield 33, 3) := by decide +kernel
theorem dX7_copyFrom_30 : decode cX7_copyFrom 30 = .ok (.invokevirtual 50, 3) := by decide +kernel
theorem dX7_copyFrom_33 : decode cX7_copyFrom 33 = .ok (.aload_n 0, 1) := by decide +kernel
theorem dX7_copyFrom_34 : decode cX7_copyFrom 34 = .ok (.getfield 36, 3) := by decide +kernel
theorem dX7_copyFrom_37 : decode cX7_copyFrom 37 = .ok (.aload_n 1, 1) := by decide +kernel
theorem dX7_copyFrom_38 : decode cX7_copyFrom 38 = .ok (.getfield 36, 3) := by decide +kernel
theorem dX7_copyFrom_41 : decode cX7_copyFrom 41 = .ok (.invokevirtual 50, 3) := by decide +kernel
theorem dX7_copyFrom_44 : decode cX7_copyFrom 44 = .ok (.aload_n 0, 1) := by decide +kernel
theorem dX7_copyFrom_45 : decode cX7_copyFrom 45 = .ok (.getfield 39, 3) := by decide +kernel
theorem dX7_copyFrom_48 : decode cX7_copyFrom 48 = .ok (.aload_n 1, 1) := by decide +kernel
theorem dX7_copyFrom_49 : decode cX7_copyFrom 49 = .ok (.getfield 39, 3) := by decide +kernel
theorem dX7_copyFrom_52 : decode cX7_copyFrom 52 = .ok (.invokevirtual 50, 3) := by decide +kernel
theorem dX7_copyFrom_55 : decode cX7_copyFrom 55 = .ok (.aload_n 0, 1) := by decide +kernel
theorem dX7_copyFrom_56 : decode cX7_copyFrom 56 = .ok (.getfield 42, 3) := by decide +kernel
theorem dX7_copyFrom_59 : decode cX7_copyFrom 59 = .ok (.aload_n 1, 1) := by decide +kernel
theorem dX7_copyFrom_60 : decode cX7_copyFrom 60 = .ok (.getfield 42, 3) := by decide +kernel
theorem dX7_copyFrom_63 : decode cX7_copyFrom 63 = .ok (.invokevirtual 50, 3) := by decide +kernel
theorem dX7_copyFrom_66 : decode cX7_copyFrom 66 = .ok (.aload_n 0, 1) := by decide +kernel
theorem dX7_copyFrom_67 : decode cX7_copyFrom 67 = .ok (.aload_n 1, 1) := by decide +kernel
theorem dX7_copyFrom_68 : decode cX7_copyFrom 68 = .ok (.getfield 57, 3) := by decide +kernel
theorem dX7_copyFrom_71 : decode cX7_copyFrom 71 = .ok (.putfield 57, 3) := by decide +kernel
theorem dX7_copyFrom_74 : decode cX7_copyFrom 74 = .ok (.aload_n 0, 1) := by decide +kernel
theorem dX7_copyFrom_75 : decode cX7_copyFrom 75 = .ok (.aload_n 1, 1) := by decide +kernel
theorem dX7_copyFrom_76 : decode cX7_copyFrom 76 = .ok (.getfield 61, 3) := by decide +kernel
theorem dX7_copyFrom_79 : decode cX7_copyFrom 79 = .ok (.putfield 61, 3) := by decide +kernel
theorem dX7_copyFrom_82 : decode cX7_copyFrom 82 = .ok (.iconst 0, 1) := by decide +kernel
theorem dX7_copyFrom_83 : decode cX7_copyFrom 83 = .ok (.istore_n 2, 1) := by decide +kernel
theorem dX7_copyFrom_84 : decode cX7_copyFrom 84 = .ok (.iload_n 2, 1) := by decide +kernel
theorem dX7_copyFrom_85 : decode cX7_copyFrom 85 = .ok (.aload_n 0, 1) := by decide +kernel
theorem dX7_copyFrom_86 : decode cX7_copyFrom 86 = .ok (.getfield 61, 3) := by decide +kernel
theorem dX7_copyFrom_89 : decode cX7_copyFrom 89 = .ok (.if_icmp .ge 22, 3) := by decide +kernel
theorem dX7_copyFrom_92 : decode cX7_copyFrom 92 = .ok (.aload_n 0, 1) := by decide +kernel
theorem dX7_copyFrom_93 : decode cX7_copyFrom 93 = .ok (.iload_n 2, 1) := by decide +kernel
theorem dX7_copyFrom_94 : decode cX7_copyFrom 94 = .ok (.invokevirtual 64, 3) := by decide +kernel
theorem dX7_copyFrom_97 : decode cX7_copyFrom 97 = .ok (.aload_n 1, 1) := by decide +kernel
theorem dX7_copyFrom_98 : decode cX7_copyFrom 98 = .ok (.iload_n 2, 1) := by decide +kernel
theorem dX7_copyFrom_99 : decode cX7_copyFrom 99 = .ok (.invokevirtual 64, 3) := by decide +kernel
theorem dX7_copyFrom_102 : decode cX7_copyFrom 102 = .ok (.invokestatic 68, 3) := by decide +kernel
theorem dX7_copyFrom_105 : decode cX7_copyFrom 105 = .ok (.iinc 2 1, 3) := by decide +kernel
theorem dX7_copyFrom_108 : decode cX7_copyFrom 108 = .ok (.goto (-24), 3) := by decide +kernel
theorem dX7_copyFrom_111 : decode cX7_copyFrom 111 = .ok (.return_, 1) := by decide +kernel
set_option maxRecDepth 20000 in
theorem ggX7_copySheet_X6_copyFrom : GoodIn wsX7_copySheet wsX6_copyFrom := goodIn_r _ [5, 6, 7, 8, 9, 10, 11, 12, 13, 14, 15, 16, 17, 18, 19, 20] (by decide +kernel) (by decide +kernel)
set_option maxRecDepth 20000 in
theorem gX7_copySheet_X6_copyFrom : GoodIn wsX7_copySheet (wsV RX7 72 RX6 yX6_copyFrom wsX6_copyFrom) := goodIn_app (goodIn_of _ (by decide +kernel)) ggX7_copySheet_X6_copyFrom
theorem dX7_copySheet_0 : decode cX7_copySheet 0 = .ok (.aload_n 0, 1) := by decide +kernel
theorem dX7_copySheet_1 : decode cX7_copySheet 1 = .ok (.ifnull 12, 3) := by decide +kernel
theorem dX7_copySheet_4 : decode cX7_copySheet 4 = .ok (.aload_n 1, 1) := by decide +kernel
theorem dX7_copySheet_5 : decode cX7_copySheet 5 = .ok (.ifnull 8, 3) := by decide +kernel
theorem dX7_copySheet_8 : decode cX7_copySheet 8 = .ok (.aload_n 0, 1) := by decide +kernel
theorem dX7_copySheet_9 : decode cX7_copySheet 9 = .ok (.aload_n 1, 1) := by decide +kernel
theorem dX7_copySheet_10 : decode cX7_copySheet 10 = .ok (.invokevirtual 72, 3) := by decide +kernel
theorem dX7_copySheet_13 : decode cX7_copySheet 13 = .ok (.return_, 1) := by decide +kernel
theorem dX7_sheetNumbered_0 : decode cX7_sheetNumbered 0 = .ok (.iload_n 1, 1) := by decide +kernel
theorem dX7_sheetNumbered_1 : decode cX7_sheetNumbered 1 = .ok (.ifCond .lt 20, 3) := by decide +kernel
theorem dX7_sheetNumbered_4 : decode cX7_sheetNumbered 4 = .ok (.iload_n 1, 1) := by decide +kernel
theorem dX7_sheetNumbered_5 : decode cX7_sheetNumbered 5 = .ok (.aload_n 0, 1) := by decide +kernel
theorem dX7_sheetNumbered_6 : decode cX7_sheetNumbered 6 = .ok (.getfield 61, 3) := by decide +kernel
theorem dX7_sheetNumbered_9 : decode cX7_sheetNumbered 9 = .ok (.if_icmp .ge 12, 3) := by decide +kernel
theorem dX7_sheetNumbered_12 : decode cX7_sheetNumbered 12 = .ok (.iload_n 1, 1) := by decide +kernel
theorem dX7_sheetNumbered_13 : decode cX7_sheetNumbered 13 = .ok (.aload_n 0, 1) := by decide +kernel
theorem dX7_sheetNumbered_14 : decode cX7_sheetNumbered 14 = .ok (.getfield 22, 3) := by decide +kernel
theorem dX7_sheetNumbered_17 : decode cX7_sheetNumbered 17 = .ok (.arraylength, 1) := by decide +kernel
theorem dX7_sheetNumbered_18 : decode cX7_sheetNumbered 18 = .ok (.if_icmp .lt 5, 3) := by decide +kernel
theorem dX7_sheetNumbered_21 : decode cX7_sheetNumbered 21 = .ok (.aconst_null, 1) := by decide +kernel
theorem dX7_sheetNumbered_22 : decode cX7_sheetNumbered 22 = .ok (.areturn, 1) := by decide +kernel
theorem dX7_sheetNumbered_23 : decode cX7_sheetNumbered 23 = .ok (.aload_n 0, 1) := by decide +kernel
theorem dX7_sheetNumbered_24 : decode cX7_sheetNumbered 24 = .ok (.getfield 22, 3) := by decide +kernel
theorem dX7_sheetNumbered_27 : decode cX7_sheetNumbered 27 = .ok (.iload_n 1, 1) := by decide +kernel
theorem dX7_sheetNumbered_28 : decode cX7_sheetNumbered 28 = .ok (.aaload, 1) := by decide +kernel
theorem dX7_sheetNumbered_29 : decode cX7_sheetNumbered 29 = .ok (.areturn, 1) := by decide +kernel
set_option maxRecDepth 20000 in
theorem ggX7_addSheet_X7_sheetNumbered : GoodIn wsX7_addSheet wsX7_sheetNumbered := goodIn_r _ [7, 1, 8, 40, 41, 42, 43, 44, 45, 46, 47, 48] (by decide +kernel) (by decide +kernel)
set_option maxRecDepth 20000 in
theorem gX7_addSheet_X7_sheetNumbered : GoodIn wsX7_addSheet (wsV RX7 64 RX7 yX7_sheetNumbered wsX7_sheetNumbered) := goodIn_app (goodIn_of _ (by decide +kernel)) ggX7_addSheet_X7_sheetNumbered
set_option maxRecDepth 20000 in
theorem ggX7_addSheet_X6_startFor : GoodIn wsX7_addSheet wsX6_startFor := goodIn_r _ [13, 14, 15, 16, 17, 18, 19, 20, 21, 22, 49, 50, 51, 52, 53] (by decide +kernel) (by decide +kernel)
set_option maxRecDepth 20000 in
theorem gX7_addSheet_X6_startFor : GoodIn wsX7_addSheet (wsV RX7 75 RX6 yX6_startFor wsX6_startFor) := goodIn_app (goodIn_of _ (by decide +kernel)) ggX7_addSheet_X6_startFor
set_option maxRecDepth 20000 in
theorem ggX7_addSheet_X5_add : GoodIn wsX7_addSheet wsX5_add := goodIn_r _ [26, 27, 28, 29, 20, 30, 31, 32, 33, 34, 35, 22, 36, 37, 38, 39, 52, 53] (by decide +kernel) (by decide +kernel)
set_option maxRecDepth 20000 in
theorem gX7_addSheet_X5_add : GoodIn wsX7_addSheet (wsV RX7 78 RX5 yX5_add wsX5_add) := goodIn_app (goodIn_of _ (by decide +kernel)) ggX7_addSheet_X5_add
theorem dX7_addSheet_0 : decode cX7_addSheet 0 = .ok (.aload_n 0, 1) := by decide +kernel
theorem dX7_addSheet_1 : decode cX7_addSheet 1 = .ok (.dup, 1) := by decide +kernel
theorem dX7_addSheet_2 : decode cX7_addSheet 2 = .ok (.getfield 61, 3) := by decide +kernel
theorem dX7_addSheet_5 : decode cX7_addSheet 5 = .ok (.iconst 1, 1) := by decide +kernel
theorem dX7_addSheet_6 : decode cX7_addSheet 6 = .ok (.iadd, 1) := by decide +kernel
theorem dX7_addSheet_7 : decode cX7_addSheet 7 = .ok (.putfield 61, 3) := by decide +kernel
theorem dX7_addSheet_10 : decode cX7_addSheet 10 = .ok (.aload_n 0, 1) := by decide +kernel
theorem dX7_addSheet_11 : decode cX7_addSheet 11 = .ok (.aload_n 0, 1) := by decide +kernel
theorem dX7_addSheet_12 : decode cX7_addSheet 12 = .ok (.getfield 61, 3) := by decide +kernel
theorem dX7_addSheet_15 : decode cX7_addSheet 15 = .ok (.iconst 1, 1) := by decide +kernel
theorem dX7_addSheet_16 : decode cX7_addSheet 16 = .ok (.isub, 1) := by decide +kernel
theorem dX7_addSheet_17 : decode cX7_addSheet 17 = .ok (.invokevirtual 64, 3) := by decide +kernel
theorem dX7_addSheet_20 : decode cX7_addSheet 20 = .ok (.astore_n 2, 1) := by decide +kernel
theorem dX7_addSheet_21 : decode cX7_addSheet 21 = .ok (.aload_n 2, 1) := by decide +kernel
theorem dX7_addSheet_22 : decode cX7_addSheet 22 = .ok (.ifnull 8, 3) := by decide +kernel
theorem dX7_addSheet_25 : decode cX7_addSheet 25 = .ok (.aload_n 2, 1) := by decide +kernel
theorem dX7_addSheet_26 : decode cX7_addSheet 26 = .ok (.iload_n 1, 1) := by decide +kernel
theorem dX7_addSheet_27 : decode cX7_addSheet 27 = .ok (.invokevirtual 75, 3) := by decide +kernel
theorem dX7_addSheet_30 : decode cX7_addSheet 30 = .ok (.aload_n 0, 1) := by decide +kernel
theorem dX7_addSheet_31 : decode cX7_addSheet 31 = .ok (.getfield 36, 3) := by decide +kernel
theorem dX7_addSheet_34 : decode cX7_addSheet 34 = .ok (.iload_n 1, 1) := by decide +kernel
theorem dX7_addSheet_35 : decode cX7_addSheet 35 = .ok (.iconst 1, 1) := by decide +kernel
theorem dX7_addSheet_36 : decode cX7_addSheet 36 = .ok (.invokevirtual 78, 3) := by decide +kernel
theorem dX7_addSheet_39 : decode cX7_addSheet 39 = .ok (.aload_n 0, 1) := by decide +kernel
theorem dX7_addSheet_40 : decode cX7_addSheet 40 = .ok (.getfield 61, 3) := by decide +kernel
theorem dX7_addSheet_43 : decode cX7_addSheet 43 = .ok (.iconst 1, 1) := by decide +kernel
theorem dX7_addSheet_44 : decode cX7_addSheet 44 = .ok (.isub, 1) := by decide +kernel
theorem dX7_addSheet_45 : decode cX7_addSheet 45 = .ok (.ireturn, 1) := by decide +kernel
set_option maxRecDepth 20000 in
theorem ggX7_hasSheetOut_X7_sheetNumbered : GoodIn wsX7_hasSheetOut wsX7_sheetNumbered := goodIn_r _ [6, 1, 7, 8, 9, 10, 11, 12, 13, 14, 15, 16] (by decide +kernel) (by decide +kernel)
set_option maxRecDepth 20000 in
theorem gX7_hasSheetOut_X7_sheetNumbered : GoodIn wsX7_hasSheetOut (wsV RX7 64 RX7 yX7_sheetNumbered wsX7_sheetNumbered) := goodIn_app (goodIn_of _ (by decide +kernel)) ggX7_hasSheetOut_X7_sheetNumbered
theorem dX7_hasSheetOut_0 : decode cX7_hasSheetOut 0 = .ok (.iconst 0, 1) := by decide +kernel
theorem dX7_hasSheetOut_1 : decode cX7_hasSheetOut 1 = .ok (.istore_n 2, 1) := by decide +kernel
theorem dX7_hasSheetOut_2 : decode cX7_hasSheetOut 2 = .ok (.iload_n 2, 1) := by decide +kernel
theorem dX7_hasSheetOut_3 : decode cX7_hasSheetOut 3 = .ok (.aload_n 0, 1) := by decide +kernel
theorem dX7_hasSheetOut_4 : decode cX7_hasSheetOut 4 = .ok (.getfield 61, 3) := by decide +kernel
theorem dX7_hasSheetOut_7 : decode cX7_hasSheetOut 7 = .ok (.if_icmp .ge 36, 3) := by decide +kernel
theorem dX7_hasSheetOut_10 : decode cX7_hasSheetOut 10 = .ok (.aload_n 0, 1) := by decide +kernel
theorem dX7_hasSheetOut_11 : decode cX7_hasSheetOut 11 = .ok (.iload_n 2, 1) := by decide +kernel
theorem dX7_hasSheetOut_12 : decode cX7_hasSheetOut 12 = .ok (.invokevirtual 64, 3) := by decide +kernel
theorem dX7_hasSheetOut_15 : decode cX7_hasSheetOut 15 = .ok (.astore_n 3, 1) := by decide +kernel
theorem dX7_hasSheetOut_16 : decode cX7_hasSheetOut 16 = .ok (.aload_n 3, 1) := by decide +kernel
theorem dX7_hasSheetOut_17 : decode cX7_hasSheetOut 17 = .ok (.ifnull 20, 3) := by decide +kernel
theorem dX7_hasSheetOut_20 : decode cX7_hasSheetOut 20 = .ok (.aload_n 3, 1) := by decide +kernel
theorem dX7_hasSheetOut_21 : decode cX7_hasSheetOut 21 = .ok (.getfield 81, 3) := by decide +kernel
theorem dX7_hasSheetOut_24 : decode cX7_hasSheetOut 24 = .ok (.iload_n 1, 1) := by decide +kernel
theorem dX7_hasSheetOut_25 : decode cX7_hasSheetOut 25 = .ok (.if_icmp .ne 12, 3) := by decide +kernel
theorem dX7_hasSheetOut_28 : decode cX7_hasSheetOut 28 = .ok (.aload_n 3, 1) := by decide +kernel
theorem dX7_hasSheetOut_29 : decode cX7_hasSheetOut 29 = .ok (.getfield 84, 3) := by decide +kernel
theorem dX7_hasSheetOut_32 : decode cX7_hasSheetOut 32 = .ok (.ifCond .ne 5, 3) := by decide +kernel
theorem dX7_hasSheetOut_35 : decode cX7_hasSheetOut 35 = .ok (.iconst 1, 1) := by decide +kernel
theorem dX7_hasSheetOut_36 : decode cX7_hasSheetOut 36 = .ok (.ireturn, 1) := by decide +kernel
theorem dX7_hasSheetOut_37 : decode cX7_hasSheetOut 37 = .ok (.iinc 2 1, 3) := by decide +kernel
theorem dX7_hasSheetOut_40 : decode cX7_hasSheetOut 40 = .ok (.goto (-38), 3) := by decide +kernel
theorem dX7_hasSheetOut_43 : decode cX7_hasSheetOut 43 = .ok (.iconst 0, 1) := by decide +kernel
theorem dX7_hasSheetOut_44 : decode cX7_hasSheetOut 44 = .ok (.ireturn, 1) := by decide +kernel
set_option maxRecDepth 20000 in
theorem ggX7_howManySheetsAre_X7_sheetNumbered : GoodIn wsX7_howManySheetsAre wsX7_sheetNumbered := goodIn_r _ [6, 1, 7, 8, 9, 10, 11, 12, 13, 14, 15, 16] (by decide +kernel) (by decide +kernel)
set_option maxRecDepth 20000 in
theorem gX7_howManySheetsAre_X7_sheetNumbered : GoodIn wsX7_howManySheetsAre (wsV RX7 64 RX7 yX7_sheetNumbered wsX7_sheetNumbered) := goodIn_app (goodIn_of _ (by decide +kernel)) ggX7_howManySheetsAre_X7_sheetNumbered
theorem dX7_howManySheetsAre_0 : decode cX7_howManySheetsAre 0 = .ok (.iconst 0, 1) := by decide +kernel
theorem dX7_howManySheetsAre_1 : decode cX7_howManySheetsAre 1 = .ok (.istore_n 2, 1) := by decide +kernel
theorem dX7_howManySheetsAre_2 : decode cX7_howManySheetsAre 2 = .ok (.iconst 0, 1) := by decide +kernel
theorem dX7_howManySheetsAre_3 : decode cX7_howManySheetsAre 3 = .ok (.istore_n 3, 1) := by decide +kernel
theorem dX7_howManySheetsAre_4 : decode cX7_howManySheetsAre 4 = .ok (.iload_n 3, 1) := by decide +kernel
theorem dX7_howManySheetsAre_5 : decode cX7_howManySheetsAre 5 = .ok (.aload_n 0, 1) := by decide +kernel
theorem dX7_howManySheetsAre_6 : decode cX7_howManySheetsAre 6 = .ok (.getfield 61, 3) := by decide +kernel
theorem dX7_howManySheetsAre_9 : decode cX7_howManySheetsAre 9 = .ok (.if_icmp .ge 33, 3) := by decide +kernel
theorem dX7_howManySheetsAre_12 : decode cX7_howManySheetsAre 12 = .ok (.aload_n 0, 1) := by decide +kernel
theorem dX7_howManySheetsAre_13 : decode cX7_howManySheetsAre 13 = .ok (.iload_n 3, 1) := by decide +kernel
theorem dX7_howManySheetsAre_14 : decode cX7_howManySheetsAre 14 = .ok (.invokevirtual 64, 3) := by decide +kernel
theorem dX7_howManySheetsAre_17 : decode cX7_howManySheetsAre 17 = .ok (.astore 4, 2) := by decide +kernel
theorem dX7_howManySheetsAre_19 : decode cX7_howManySheetsAre 19 = .ok (.aload 4, 2) := by decide +kernel
theorem dX7_howManySheetsAre_21 : decode cX7_howManySheetsAre 21 = .ok (.ifnull 15, 3) := by decide +kernel
theorem dX7_howManySheetsAre_24 : decode cX7_howManySheetsAre 24 = .ok (.aload 4, 2) := by decide +kernel
theorem dX7_howManySheetsAre_26 : decode cX7_howManySheetsAre 26 = .ok (.getfield 84, 3) := by decide +kernel
theorem dX7_howManySheetsAre_29 : decode cX7_howManySheetsAre 29 = .ok (.iload_n 1, 1) := by decide +kernel
theorem dX7_howManySheetsAre_30 : decode cX7_howManySheetsAre 30 = .ok (.if_icmp .ne 6, 3) := by decide +kernel
theorem dX7_howManySheetsAre_33 : decode cX7_howManySheetsAre 33 = .ok (.iinc 2 1, 3) := by decide +kernel
theorem dX7_howManySheetsAre_36 : decode cX7_howManySheetsAre 36 = .ok (.iinc 3 1, 3) := by decide +kernel
theorem dX7_howManySheetsAre_39 : decode cX7_howManySheetsAre 39 = .ok (.goto (-35), 3) := by decide +kernel
theorem dX7_howManySheetsAre_42 : decode cX7_howManySheetsAre 42 = .ok (.iload_n 2, 1) := by decide +kernel
theorem dX7_howManySheetsAre_43 : decode cX7_howManySheetsAre 43 = .ok (.ireturn, 1) := by decide +kernel
set_option maxRecDepth 20000 in
theorem ggX7_marksOnSheetsThatAre_X7_sheetNumbered : GoodIn wsX7_marksOnSheetsThatAre wsX7_sheetNumbered := goodIn_r _ [6, 1, 7, 14, 15, 16, 17, 18, 19, 20, 21, 22] (by decide +kernel) (by decide +kernel)
set_option maxRecDepth 20000 in
theorem gX7_marksOnSheetsThatAre_X7_sheetNumbered : GoodIn wsX7_marksOnSheetsThatAre (wsV RX7 64 RX7 yX7_sheetNumbered wsX7_sheetNumbered) := goodIn_app (goodIn_of _ (by decide +kernel)) ggX7_marksOnSheetsThatAre_X7_sheetNumbered
set_option maxRecDepth 20000 in
theorem ggX7_marksOnSheetsThatAre_X5_used : GoodIn wsX7_marksOnSheetsThatAre wsX5_used := goodIn_r _ [12, 13, 26, 27] (by decide +kernel) (by decide +kernel)
set_option maxRecDepth 20000 in
theorem gX7_marksOnSheetsThatAre_X5_used : GoodIn wsX7_marksOnSheetsThatAre (wsV RX7 90 RX5 yX5_used wsX5_used) := goodIn_app (goodIn_of _ (by decide +kernel)) ggX7_marksOnSheetsThatAre_X5_used
theorem dX7_marksOnSheetsThatAre_0 : decode cX7_marksOnSheetsThatAre 0 = .ok (.iconst 0, 1) := by decide +kernel
theorem dX7_marksOnSheetsThatAre_1 : decode cX7_marksOnSheetsThatAre 1 = .ok (.istore_n 2, 1) := by decide +kernel
theorem dX7_marksOnSheetsThatAre_2 : decode cX7_marksOnSheetsThatAre 2 = .ok (.iconst 0, 1) := by decide +kernel
theorem dX7_marksOnSheetsThatAre_3 : decode cX7_marksOnSheetsThatAre 3 = .ok (.istore_n 3, 1) := by decide +kernel
theorem dX7_marksOnSheetsThatAre_4 : decode cX7_marksOnSheetsThatAre 4 = .ok (.iload_n 3, 1) := by decide +kernel
theorem dX7_marksOnSheetsThatAre_5 : decode cX7_marksOnSheetsThatAre 5 = .ok (.aload_n 0, 1) := by decide +kernel
theorem dX7_marksOnSheetsThatAre_6 : decode cX7_marksOnSheetsThatAre 6 = .ok (.getfield 61, 3) := by decide +kernel
theorem dX7_marksOnSheetsThatAre_9 : decode cX7_marksOnSheetsThatAre 9 = .ok (.if_icmp .ge 41, 3) := by decide +kernel
theorem dX7_marksOnSheetsThatAre_12 : decode cX7_marksOnSheetsThatAre 12 = .ok (.aload_n 0, 1) := by decide +kernel
theorem dX7_marksOnSheetsThatAre_13 : decode cX7_marksOnSheetsThatAre 13 = .ok (.iload_n 3, 1) := by decide +kernel
theorem dX7_marksOnSheetsThatAre_14 : decode cX7_marksOnSheetsThatAre 14 = .ok (.invokevirtual 64, 3) := by decide +kernel
theorem dX7_marksOnSheetsThatAre_17 : decode cX7_marksOnSheetsThatAre 17 = .ok (.astore 4, 2) := by decide +kernel
theorem dX7_marksOnSheetsThatAre_19 : decode cX7_marksOnSheetsThatAre 19 = .ok (.aload 4, 2) := by decide +kernel
theorem dX7_marksOnSheetsThatAre_21 : decode cX7_marksOnSheetsThatAre 21 = .ok (.ifnull 23, 3) := by decide +kernel
theorem dX7_marksOnSheetsThatAre_24 : decode cX7_marksOnSheetsThatAre 24 = .ok (.aload 4, 2) := by decide +kernel
theorem dX7_marksOnSheetsThatAre_26 : decode cX7_marksOnSheetsThatAre 26 = .ok (.getfield 84, 3) := by decide +kernel
theorem dX7_marksOnSheetsThatAre_29 : decode cX7_marksOnSheetsThatAre 29 = .ok (.iload_n 1, 1) := by decide +kernel
theorem dX7_marksOnSheetsThatAre_30 : decode cX7_marksOnSheetsThatAre 30 = .ok (.if_icmp .ne 14, 3) := by decide +kernel
theorem dX7_marksOnSheetsThatAre_33 : decode cX7_marksOnSheetsThatAre 33 = .ok (.iload_n 2, 1) := by decide +kernel
theorem dX7_marksOnSheetsThatAre_34 : decode cX7_marksOnSheetsThatAre 34 = .ok (.aload 4, 2) := by decide +kernel
theorem dX7_marksOnSheetsThatAre_36 : decode cX7_marksOnSheetsThatAre 36 = .ok (.getfield 87, 3) := by decide +kernel
theorem dX7_marksOnSheetsThatAre_39 : decode cX7_marksOnSheetsThatAre 39 = .ok (.invokevirtual 90, 3) := by decide +kernel
theorem dX7_marksOnSheetsThatAre_42 : decode cX7_marksOnSheetsThatAre 42 = .ok (.iadd, 1) := by decide +kernel
theorem dX7_marksOnSheetsThatAre_43 : decode cX7_marksOnSheetsThatAre 43 = .ok (.istore_n 2, 1) := by decide +kernel
theorem dX7_marksOnSheetsThatAre_44 : decode cX7_marksOnSheetsThatAre 44 = .ok (.iinc 3 1, 3) := by decide +kernel
theorem dX7_marksOnSheetsThatAre_47 : decode cX7_marksOnSheetsThatAre 47 = .ok (.goto (-43), 3) := by decide +kernel
theorem dX7_marksOnSheetsThatAre_50 : decode cX7_marksOnSheetsThatAre 50 = .ok (.iload_n 2, 1) := by decide +kernel
theorem dX7_marksOnSheetsThatAre_51 : decode cX7_marksOnSheetsThatAre 51 = .ok (.ireturn, 1) := by decide +kernel
set_option maxRecDepth 20000 in
theorem ggX7_account_X7_marksOnSheetsThatAre : GoodIn wsX7_account wsX7_marksOnSheetsThatAre := goodIn_r _ [7, 8, 9, 10, 11, 6, 12, 13, 14, 15, 16, 17, 18, 19, 37, 38, 39, 40, 41, 42, 43, 44, 45, 46, 47, 48, 49, 50] (by decide +kernel) (by decide +kernel)
set_option maxRecDepth 20000 in
theorem gX7_account_X7_marksOnSheetsThatAre : GoodIn wsX7_account (wsV RX7 94 RX7 yX7_marksOnSheetsThatAre wsX7_marksOnSheetsThatAre) := goodIn_app (goodIn_of _ (by decide +kernel)) ggX7_account_X7_marksOnSheetsThatAre
set_option maxRecDepth 20000 in
theorem ggX7_account_X2_howManyAreOpen : GoodIn wsX7_account wsX2_howManyAreOpen := goodIn_r _ [24, 25, 26, 15, 16, 17, 18, 19, 27, 28, 29, 30, 31, 32, 33, 34, 35, 51, 52, 53, 54, 49, 50] (by decide +kernel) (by decide +kernel)
set_option maxRecDepth 20000 in
theorem gX7_account_X2_howManyAreOpen : GoodIn wsX7_account (wsV RX7 98 RX2 yX2_howManyAreOpen wsX2_howManyAreOpen) := goodIn_app (goodIn_of _ (by decide +kernel)) ggX7_account_X2_howManyAreOpen
set_option maxRecDepth 20000 in
theorem ggX7_account_X5_get : GoodIn wsX7_account wsX5_get := goodIn_r _ [30, 31, 32, 33, 34, 17, 35, 19, 49, 50] (by decide +kernel) (by decide +kernel)
set_option maxRecDepth 20000 in
theorem gX7_account_X5_get : GoodIn wsX7_account (wsV RX7 101 RX5 yX5_get wsX5_get) := goodIn_app (goodIn_of _ (by decide +kernel)) ggX7_account_X5_get
theorem dX7_account_0 : decode cX7_account 0 = .ok (.iload_n 1, 1) := by decide +kernel
theorem dX7_account_1 : decode cX7_account 1 = .ok (.iconst 5, 1) := by decide +kernel
theorem dX7_account_2 : decode cX7_account 2 = .ok (.if_icmp .ne 21, 3) := by decide +kernel
theorem dX7_account_5 : decode cX7_account 5 = .ok (.aload_n 0, 1) := by decide +kernel
theorem dX7_account_6 : decode cX7_account 6 = .ok (.iconst 0, 1) := by decide +kernel
theorem dX7_account_7 : decode cX7_account 7 = .ok (.invokevirtual 94, 3) := by decide +kernel
theorem dX7_account_10 : decode cX7_account 10 = .ok (.aload_n 0, 1) := by decide +kernel
theorem dX7_account_11 : decode cX7_account 11 = .ok (.iconst 1, 1) := by decide +kernel
theorem dX7_account_12 : decode cX7_account 12 = .ok (.invokevirtual 94, 3) := by decide +kernel
theorem dX7_account_15 : decode cX7_account 15 = .ok (.iadd, 1) := by decide +kernel
theorem dX7_account_16 : decode cX7_account 16 = .ok (.aload_n 0, 1) := by decide +kernel
theorem dX7_account_17 : decode cX7_account 17 = .ok (.iconst 2, 1) := by decide +kernel
theorem dX7_account_18 : decode cX7_account 18 = .ok (.invokevirtual 94, 3) := by decide +kernel
theorem dX7_account_21 : decode cX7_account 21 = .ok (.iadd, 1) := by decide +kernel
theorem dX7_account_22 : decode cX7_account 22 = .ok (.ireturn, 1) := by decide +kernel
theorem dX7_account_23 : decode cX7_account 23 = .ok (.iload_n 1, 1) := by decide +kernel
theorem dX7_account_24 : decode cX7_account 24 = .ok (.bipush 6, 2) := by decide +kernel
theorem dX7_account_26 : decode cX7_account 26 = .ok (.if_icmp .ne 13, 3) := by decide +kernel
theorem dX7_account_29 : decode cX7_account 29 = .ok (.aload_n 0, 1) := by decide +kernel
theorem dX7_account_30 : decode cX7_account 30 = .ok (.getfield 29, 3) := by decide +kernel
theorem dX7_account_33 : decode cX7_account 33 = .ok (.invokevirtual 98, 3) := by decide +kernel
theorem dX7_account_36 : decode cX7_account 36 = .ok (.goto 11, 3) := by decide +kernel
theorem dX7_account_39 : decode cX7_account 39 = .ok (.aload_n 0, 1) := by decide +kernel
theorem dX7_account_40 : decode cX7_account 40 = .ok (.getfield 33, 3) := by decide +kernel
theorem dX7_account_43 : decode cX7_account 43 = .ok (.iload_n 1, 1) := by decide +kernel
theorem dX7_account_44 : decode cX7_account 44 = .ok (.invokevirtual 101, 3) := by decide +kernel
theorem dX7_account_47 : decode cX7_account 47 = .ok (.ireturn, 1) := by decide +kernel
set_option maxRecDepth 20000 in
theorem ggX7_writeOn_X5_used : GoodIn wsX7_writeOn wsX5_used := goodIn_r _ [7, 8, 43, 44] (by decide +kernel) (by decide +kernel)
set_option maxRecDepth 20000 in
theorem gX7_writeOn_X5_used : GoodIn wsX7_writeOn (wsV RX7 90 RX5 yX5_used wsX5_used) := goodIn_app (goodIn_of _ (by decide +kernel)) ggX7_writeOn_X5_used
set_option maxRecDepth 20000 in
theorem ggX7_writeOn_X5_get : GoodIn wsX7_writeOn wsX5_get := goodIn_r _ [12, 13, 14, 15, 16, 6, 17, 8, 43, 44] (by decide +kernel) (by decide +kernel)
set_option maxRecDepth 20000 in
theorem gX7_writeOn_X5_get : GoodIn wsX7_writeOn (wsV RX7 101 RX5 yX5_get wsX5_get) := goodIn_app (goodIn_of _ (by decide +kernel)) ggX7_writeOn_X5_get
set_option maxRecDepth 20000 in
theorem ggX7_writeOn_X5_append : GoodIn wsX7_writeOn wsX5_append := goodIn_r _ [21, 8, 13, 43, 44] (by decide +kernel) (by decide +kernel)
set_option maxRecDepth 20000 in
theorem gX7_writeOn_X5_append : GoodIn wsX7_writeOn (wsV RX7 104 RX5 yX5_append wsX5_append) := goodIn_app (goodIn_of _ (by decide +kernel)) ggX7_writeOn_X5_append
set_option maxRecDepth 20000 in
theorem ggX7_writeOn_X5_add : GoodIn wsX7_writeOn wsX5_add := goodIn_r _ [25, 26, 10, 11, 6, 12, 13, 14, 15, 16, 17, 8, 27, 28, 29, 30, 43, 44] (by decide +kernel) (by decide +kernel)
set_option maxRecDepth 20000 in
theorem gX7_writeOn_X5_add : GoodIn wsX7_writeOn (wsV RX7 78 RX5 yX5_add wsX5_add) := goodIn_app (goodIn_of _ (by decide +kernel)) ggX7_writeOn_X5_add
theorem dX7_writeOn_0 : decode cX7_writeOn 0 = .ok (.iconst 0, 1) := by decide +kernel
theorem dX7_writeOn_1 : decode cX7_writeOn 1 = .ok (.istore_n 3, 1) := by decide +kernel
theorem dX7_writeOn_2 : decode cX7_writeOn 2 = .ok (.iload_n 3, 1) := by decide +kernel
theorem dX7_writeOn_3 : decode cX7_writeOn 3 = .ok (.aload_n 2, 1) := by decide +kernel
theorem dX7_writeOn_4 : decode cX7_writeOn 4 = .ok (.invokevirtual 90, 3) := by decide +kernel
theorem dX7_writeOn_7 : decode cX7_writeOn 7 = .ok (.if_icmp .ge 21, 3) := by decide +kernel
theorem dX7_writeOn_10 : decode cX7_writeOn 10 = .ok (.aload_n 1, 1) := by decide +kernel
theorem dX7_writeOn_11 : decode cX7_writeOn 11 = .ok (.getfield 87, 3) := by decide +kernel
theorem dX7_writeOn_14 : decode cX7_writeOn 14 = .ok (.aload_n 2, 1) := by decide +kernel
theorem dX7_writeOn_15 : decode cX7_writeOn 15 = .ok (.iload_n 3, 1) := by decide +kernel
theorem dX7_writeOn_16 : decode cX7_writeOn 16 = .ok (.invokevirtual 101, 3) := by decide +kernel
theorem dX7_writeOn_19 : decode cX7_writeOn 19 = .ok (.invokevirtual 104, 3) := by decide +kernel
theorem dX7_writeOn_22 : decode cX7_writeOn 22 = .ok (.iinc 3 1, 3) := by decide +kernel
theorem dX7_writeOn_25 : decode cX7_writeOn 25 = .ok (.goto (-23), 3) := by decide +kernel
theorem dX7_writeOn_28 : decode cX7_writeOn 28 = .ok (.aload_n 0, 1) := by decide +kernel
theorem dX7_writeOn_29 : decode cX7_writeOn 29 = .ok (.getfield 33, 3) := by decide +kernel
theorem dX7_writeOn_32 : decode cX7_writeOn 32 = .ok (.iconst 0, 1) := by decide +kernel
theorem dX7_writeOn_33 : decode cX7_writeOn 33 = .ok (.aload_n 2, 1) := by decide +kernel
theorem dX7_writeOn_34 : decode cX7_writeOn 34 = .ok (.invokevirtual 90, 3) := by decide +kernel
theorem dX7_writeOn_37 : decode cX7_writeOn 37 = .ok (.invokevirtual 78, 3) := by decide +kernel
theorem dX7_writeOn_40 : decode cX7_writeOn 40 = .ok (.aload_n 0, 1) := by decide +kernel
theorem dX7_writeOn_41 : decode cX7_writeOn 41 = .ok (.getfield 39, 3) := by decide +kernel
theorem dX7_writeOn_44 : decode cX7_writeOn 44 = .ok (.aload_n 1, 1) := by decide +kernel
theorem dX7_writeOn_45 : decode cX7_writeOn 45 = .ok (.getfield 81, 3) := by decide +kernel
theorem dX7_writeOn_48 : decode cX7_writeOn 48 = .ok (.aload_n 2, 1) := by decide +kernel
theorem dX7_writeOn_49 : decode cX7_writeOn 49 = .ok (.invokevirtual 90, 3) := by decide +kernel
theorem dX7_writeOn_52 : decode cX7_writeOn 52 = .ok (.invokevirtual 78, 3) := by decide +kernel
theorem dX7_writeOn_55 : decode cX7_writeOn 55 = .ok (.return_, 1) := by decide +kernel
set_option maxRecDepth 20000 in
theorem ggX7_mergeMarksOf_X5_used : GoodIn wsX7_mergeMarksOf wsX5_used := goodIn_r _ [8, 9, 64, 65] (by decide +kernel) (by decide +kernel)
set_option maxRecDepth 20000 in
theorem gX7_mergeMarksOf_X5_used : GoodIn wsX7_mergeMarksOf (wsV RX7 90 RX5 yX5_used wsX5_used) := goodIn_app (goodIn_of _ (by decide +kernel)) ggX7_mergeMarksOf_X5_used
set_option maxRecDepth 20000 in
theorem ggX7_mergeMarksOf_X5_get : GoodIn wsX7_mergeMarksOf wsX5_get := goodIn_r _ [13, 14, 15, 16, 17, 7, 18, 9, 64, 65] (by decide +kernel) (by decide +kernel)
set_option maxRecDepth 20000 in
theorem gX7_mergeMarksOf_X5_get : GoodIn wsX7_mergeMarksOf (wsV RX7 101 RX5 yX5_get wsX5_get) := goodIn_app (goodIn_of _ (by decide +kernel)) ggX7_mergeMarksOf_X5_get
set_option maxRecDepth 20000 in
theorem ggX7_mergeMarksOf_X2_take : GoodIn wsX7_mergeMarksOf wsX2_take := goodIn_r _ [23, 24, 25, 26, 27, 28, 29, 30, 31, 32, 33, 34, 7, 35, 9, 36, 11, 12, 13, 14, 15, 16, 17, 18, 37, 38, 39, 40, 41, 42, 43, 44, 45, 46, 47, 48, 49, 50, 66, 67, 68, 69, 64, 65] (by decide +kernel) (by decide +kernel)
set_option maxRecDepth 20000 in
theorem gX7_mergeMarksOf_X2_take : GoodIn wsX7_mergeMarksOf (wsV RX7 107 RX2 yX2_take wsX2_take) := goodIn_app (goodIn_of _ (by decide +kernel)) ggX7_mergeMarksOf_X2_take
set_option maxRecDepth 20000 in
theorem ggX7_mergeMarksOf_X5_add : GoodIn wsX7_mergeMarksOf wsX5_add := goodIn_r _ [40, 36, 11, 12, 7, 13, 14, 15, 16, 17, 18, 9, 41, 42, 43, 44, 64, 65] (by decide +kernel) (by decide +kernel)
set_option maxRecDepth 20000 in
theorem gX7_mergeMarksOf_X5_add : GoodIn wsX7_mergeMarksOf (wsV RX7 78 RX5 yX5_add wsX5_add) := goodIn_app (goodIn_of _ (by decide +kernel)) ggX7_mergeMarksOf_X5_add
theorem dX7_mergeMarksOf_0 : decode cX7_mergeMarksOf 0 = .ok (.iconst 0, 1) := by decide +kernel
theorem dX7_mergeMarksOf_1 : decode cX7_mergeMarksOf 1 = .ok (.istore_n 2, 1) := by decide +kernel
theorem dX7_mergeMarksOf_2 : decode cX7_mergeMarksOf 2 = .ok (.iconst 0, 1) := by decide +kernel
theorem dX7_mergeMarksOf_3 : decode cX7_mergeMarksOf 3 = .ok (.istore_n 3, 1) := by decide +kernel
theorem dX7_mergeMarksOf_4 : decode cX7_mergeMarksOf 4 = .ok (.iload_n 3, 1) := by decide +kernel
theorem dX7_mergeMarksOf_5 : decode cX7_mergeMarksOf 5 = .ok (.aload_n 1, 1) := by decide +kernel
theorem dX7_mergeMarksOf_6 : decode cX7_mergeMarksOf 6 = .ok (.getfield 87, 3) := by decide +kernel
theorem dX7_mergeMarksOf_9 : decode cX7_mergeMarksOf 9 = .ok (.invokevirtual 90, 3) := by decide +kernel
theorem dX7_mergeMarksOf_12 : decode cX7_mergeMarksOf 12 = .ok (.if_icmp .ge 34, 3) := by decide +kernel
theorem dX7_mergeMarksOf_15 : decode cX7_mergeMarksOf 15 = .ok (.aload_n 0, 1) := by decide +kernel
theorem dX7_mergeMarksOf_16 : decode cX7_mergeMarksOf 16 = .ok (.getfield 29, 3) := by decide +kernel
theorem dX7_mergeMarksOf_19 : decode cX7_mergeMarksOf 19 = .ok (.aload_n 1, 1) := by decide +kernel
theorem dX7_mergeMarksOf_20 : decode cX7_mergeMarksOf 20 = .ok (.getfield 87, 3) := by decide +kernel
theorem dX7_mergeMarksOf_23 : decode cX7_mergeMarksOf 23 = .ok (.iload_n 3, 1) := by decide +kernel
theorem dX7_mergeMarksOf_24 : decode cX7_mergeMarksOf 24 = .ok (.invokevirtual 101, 3) := by decide +kernel
theorem dX7_mergeMarksOf_27 : decode cX7_mergeMarksOf 27 = .ok (.aload_n 1, 1) := by decide +kernel
theorem dX7_mergeMarksOf_28 : decode cX7_mergeMarksOf 28 = .ok (.getfield 81, 3) := by decide +kernel
theorem dX7_mergeMarksOf_31 : decode cX7_mergeMarksOf 31 = .ok (.invokevirtual 107, 3) := by decide +kernel
theorem dX7_mergeMarksOf_34 : decode cX7_mergeMarksOf 34 = .ok (.ifCond .eq 6, 3) := by decide +kernel
theorem dX7_mergeMarksOf_37 : decode cX7_mergeMarksOf 37 = .ok (.iinc 2 1, 3) := by decide +kernel
theorem dX7_mergeMarksOf_40 : decode cX7_mergeMarksOf 40 = .ok (.iinc 3 1, 3) := by decide +kernel
theorem dX7_mergeMarksOf_43 : decode cX7_mergeMarksOf 43 = .ok (.goto (-39), 3) := by decide +kernel
theorem dX7_mergeMarksOf_46 : decode cX7_mergeMarksOf 46 = .ok (.aload_n 1, 1) := by decide +kernel
theorem dX7_mergeMarksOf_47 : decode cX7_mergeMarksOf 47 = .ok (.iconst 3, 1) := by decide +kernel
theorem dX7_mergeMarksOf_48 : decode cX7_mergeMarksOf 48 = .ok (.putfield 84, 3) := by decide +kernel
theorem dX7_mergeMarksOf_51 : decode cX7_mergeMarksOf 51 = .ok (.aload_n 0, 1) := by decide +kernel
theorem dX7_mergeMarksOf_52 : decode cX7_mergeMarksOf 52 = .ok (.getfield 33, 3) := by decide +kernel
theorem dX7_mergeMarksOf_55 : decode cX7_mergeMarksOf 55 = .ok (.iconst 1, 1) := by decide +kernel
theorem dX7_mergeMarksOf_56 : decode cX7_mergeMarksOf 56 = .ok (.iload_n 2, 1) := by decide +kernel
theorem dX7_mergeMarksOf_57 : decode cX7_mergeMarksOf 57 = .ok (.invokevirtual 78, 3) := by decide +kernel
theorem dX7_mergeMarksOf_60 : decode cX7_mergeMarksOf 60 = .ok (.aload_n 0, 1) := by decide +kernel
theorem dX7_mergeMarksOf_61 : decode cX7_mergeMarksOf 61 = .ok (.getfield 42, 3) := by decide +kernel
theorem dX7_mergeMarksOf_64 : decode cX7_mergeMarksOf 64 = .ok (.aload_n 1, 1) := by decide +kernel
theorem dX7_mergeMarksOf_65 : decode cX7_mergeMarksOf 65 = .ok (.getfield 81, 3) := by decide +kernel
theorem dX7_mergeMarksOf_68 : decode cX7_mergeMarksOf 68 = .ok (.aload_n 1, 1) := by decide +kernel
theorem dX7_mergeMarksOf_69 : decode cX7_mergeMarksOf 69 = .ok (.getfield 87, 3) := by decide +kernel
theorem dX7_mergeMarksOf_72 : decode cX7_mergeMarksOf 72 = .ok (.invokevirtual 90, 3) := by decide +kernel
theorem dX7_mergeMarksOf_75 : decode cX7_mergeMarksOf 75 = .ok (.invokevirtual 78, 3) := by decide +kernel
theorem dX7_mergeMarksOf_78 : decode cX7_mergeMarksOf 78 = .ok (.iload_n 2, 1) := by decide +kernel
theorem dX7_mergeMarksOf_79 : decode cX7_mergeMarksOf 79 = .ok (.ireturn, 1) := by decide +kernel
set_option maxRecDepth 20000 in
theorem ggX7_keepAnswer_X5_set : GoodIn wsX7_keepAnswer wsX5_set := goodIn_r _ [7, 8, 9, 10, 11, 6, 12, 13, 36, 37] (by decide +kernel) (by decide +kernel)
set_option maxRecDepth 20000 in
theorem gX7_keepAnswer_X5_set : GoodIn wsX7_keepAnswer (wsV RX7 114 RX5 yX5_set wsX5_set) := goodIn_app (goodIn_of _ (by decide +kernel)) ggX7_keepAnswer_X5_set
set_option maxRecDepth 20000 in
theorem ggX7_keepAnswer_X5_add : GoodIn wsX7_keepAnswer wsX5_add := goodIn_r _ [17, 18, 19, 20, 6, 21, 8, 9, 10, 11, 12, 13, 22, 4, 5, 7, 36, 37] (by decide +kernel) (by decide +kernel)
set_option maxRecDepth 20000 in
theorem gX7_keepAnswer_X5_add : GoodIn wsX7_keepAnswer (wsV RX7 78 RX5 yX5_add wsX5_add) := goodIn_app (goodIn_of _ (by decide +kernel)) ggX7_keepAnswer_X5_add
theorem dX7_keepAnswer_0 : decode cX7_keepAnswer 0 = .ok (.aload_n 0, 1) := by decide +kernel
theorem dX7_keepAnswer_1 : decode cX7_keepAnswer 1 = .ok (.getfield 29, 3) := by decide +kernel
theorem dX7_keepAnswer_4 : decode cX7_keepAnswer 4 = .ok (.getfield 111, 3) := by decide +kernel
theorem dX7_keepAnswer_7 : decode cX7_keepAnswer 7 = .ok (.iload_n 1, 1) := by decide +kernel
theorem dX7_keepAnswer_8 : decode cX7_keepAnswer 8 = .ok (.iload_n 2, 1) := by decide +kernel
theorem dX7_keepAnswer_9 : decode cX7_keepAnswer 9 = .ok (.invokevirtual 114, 3) := by decide +kernel
theorem dX7_keepAnswer_12 : decode cX7_keepAnswer 12 = .ok (.aload_n 0, 1) := by decide +kernel
theorem dX7_keepAnswer_13 : decode cX7_keepAnswer 13 = .ok (.getfield 33, 3) := by decide +kernel
theorem dX7_keepAnswer_16 : decode cX7_keepAnswer 16 = .ok (.iload_n 2, 1) := by decide +kernel
theorem dX7_keepAnswer_17 : decode cX7_keepAnswer 17 = .ok (.iconst 1, 1) := by decide +kernel
theorem dX7_keepAnswer_18 : decode cX7_keepAnswer 18 = .ok (.if_icmp .ne 7, 3) := by decide +kernel
theorem dX7_keepAnswer_21 : decode cX7_keepAnswer 21 = .ok (.iconst 2, 1) := by decide +kernel
theorem dX7_keepAnswer_22 : decode cX7_keepAnswer 22 = .ok (.goto 4, 3) := by decide +kernel
theorem dX7_keepAnswer_25 : decode cX7_keepAnswer 25 = .ok (.iconst 3, 1) := by decide +kernel
theorem dX7_keepAnswer_26 : decode cX7_keepAnswer 26 = .ok (.iconst 1, 1) := by decide +kernel
theorem dX7_keepAnswer_27 : decode cX7_keepAnswer 27 = .ok (.invokevirtual 78, 3) := by decide +kernel
theorem dX7_keepAnswer_30 : decode cX7_keepAnswer 30 = .ok (.return_, 1) := by decide +kernel
set_option maxRecDepth 20000 in
theorem ggX7_canBeFinished_X7_howManySheetsAre : GoodIn wsX7_canBeFinished wsX7_howManySheetsAre := goodIn_r _ [7, 8, 9, 10, 11, 6, 12, 13, 35, 36, 37, 38, 39, 40, 41, 42, 43, 44, 45, 46] (by decide +kernel) (by decide +kernel)
set_option maxRecDepth 20000 in
theorem gX7_canBeFinished_X7_howManySheetsAre : GoodIn wsX7_canBeFinished (wsV RX7 117 RX7 yX7_howManySheetsAre wsX7_howManySheetsAre) := goodIn_app (goodIn_of _ (by decide +kernel)) ggX7_canBeFinished_X7_howManySheetsAre
set_option maxRecDepth 20000 in
theorem ggX7_canBeFinished_X2_howManyAreOpen : GoodIn wsX7_canBeFinished wsX2_howManyAreOpen := goodIn_r _ [18, 19, 20, 21, 22, 23, 24, 25, 26, 27, 28, 29, 30, 31, 32, 33, 34, 47, 48, 49, 50, 51, 52] (by decide +kernel) (by decide +kernel)
set_option maxRecDepth 20000 in
theorem gX7_canBeFinished_X2_howManyAreOpen : GoodIn wsX7_canBeFinished (wsV RX7 98 RX2 yX2_howManyAreOpen wsX2_howManyAreOpen) := goodIn_app (goodIn_of _ (by decide +kernel)) ggX7_canBeFinished_X2_howManyAreOpen
theorem dX7_canBeFinished_0 : decode cX7_canBeFinished 0 = .ok (.aload_n 0, 1) := by decide +kernel
theorem dX7_canBeFinished_1 : decode cX7_canBeFinished 1 = .ok (.getfield 57, 3) := by decide +kernel
theorem dX7_canBeFinished_4 : decode cX7_canBeFinished 4 = .ok (.ifCond .eq 33, 3) := by decide +kernel
theorem dX7_canBeFinished_7 : decode cX7_canBeFinished 7 = .ok (.aload_n 0, 1) := by decide +kernel
theorem dX7_canBeFinished_8 : decode cX7_canBeFinished 8 = .ok (.iconst 0, 1) := by decide +kernel
theorem dX7_canBeFinished_9 : decode cX7_canBeFinished 9 = .ok (.invokevirtual 117, 3) := by decide +kernel
theorem dX7_canBeFinished_12 : decode cX7_canBeFinished 12 = .ok (.ifCond .ne 25, 3) := by decide +kernel
theorem dX7_canBeFinished_15 : decode cX7_canBeFinished 15 = .ok (.aload_n 0, 1) := by decide +kernel
theorem dX7_canBeFinished_16 : decode cX7_canBeFinished 16 = .ok (.iconst 1, 1) := by decide +kernel
theorem dX7_canBeFinished_17 : decode cX7_canBeFinished 17 = .ok (.invokevirtual 117, 3) := by decide +kernel
theorem dX7_canBeFinished_20 : decode cX7_canBeFinished 20 = .ok (.ifCond .ne 17, 3) := by decide +kernel
theorem dX7_canBeFinished_23 : decode cX7_canBeFinished 23 = .ok (.aload_n 0, 1) := by decide +kernel
theorem dX7_canBeFinished_24 : decode cX7_canBeFinished 24 = .ok (.getfield 29, 3) := by decide +kernel
theorem dX7_canBeFinished_27 : decode cX7_canBeFinished 27 = .ok (.invokevirtual 98, 3) := by decide +kernel
theorem dX7_canBeFinished_30 : decode cX7_canBeFinished 30 = .ok (.ifCond .ne 7, 3) := by decide +kernel
theorem dX7_canBeFinished_33 : decode cX7_canBeFinished 33 = .ok (.iconst 1, 1) := by decide +kernel
theorem dX7_canBeFinished_34 : decode cX7_canBeFinished 34 = .ok (.goto 4, 3) := by decide +kernel
theorem dX7_canBeFinished_37 : decode cX7_canBeFinished 37 = .ok (.iconst 0, 1) := by decide +kernel
theorem dX7_canBeFinished_38 : decode cX7_canBeFinished 38 = .ok (.ireturn, 1) := by decide +kernel
set_option maxRecDepth 20000 in
theorem ggX7_endRound_X7_marksOnSheetsThatAre : GoodIn wsX7_endRound wsX7_marksOnSheetsThatAre := goodIn_r _ [10, 4, 11, 12, 13, 9, 14, 15, 16, 17, 18, 19, 20, 21, 56, 57, 58, 59, 60, 61, 62, 63, 64, 65, 66, 67, 68, 69] (by decide +kernel) (by decide +kernel)
set_option maxRecDepth 20000 in
theorem gX7_endRound_X7_marksOnSheetsThatAre : GoodIn wsX7_endRound (wsV RX7 94 RX7 yX7_marksOnSheetsThatAre wsX7_marksOnSheetsThatAre) := goodIn_app (goodIn_of _ (by decide +kernel)) ggX7_endRound_X7_marksOnSheetsThatAre
set_option maxRecDepth 20000 in
theorem ggX7_endRound_X5_add : GoodIn wsX7_endRound wsX5_add := goodIn_r _ [25, 26, 27, 28, 19, 29, 30, 31, 32, 33, 34, 21, 35, 36, 37, 38, 68, 69] (by decide +kernel) (by decide +kernel)
set_option maxRecDepth 20000 in
theorem gX7_endRound_X5_add : GoodIn wsX7_endRound (wsV RX7 78 RX5 yX5_add wsX5_add) := goodIn_app (goodIn_of _ (by decide +kernel)) ggX7_endRound_X5_add
set_option maxRecDepth 20000 in
theorem ggX7_endRound_X5_copyFrom : GoodIn wsX7_endRound wsX5_copyFrom := goodIn_r _ [42, 21, 30, 68, 69] (by decide +kernel) (by decide +kernel)
set_option maxRecDepth 20000 in
theorem gX7_endRound_X5_copyFrom : GoodIn wsX7_endRound (wsV RX7 50 RX5 yX5_copyFrom wsX5_copyFrom) := goodIn_app (goodIn_of _ (by decide +kernel)) ggX7_endRound_X5_copyFrom
set_option maxRecDepth 20000 in
theorem ggX7_endRound_X2_empty : GoodIn wsX7_endRound wsX2_empty := goodIn_r _ [47, 48, 49, 50, 51, 52, 53, 54, 19, 55, 21, 70, 71, 72, 73, 68, 69] (by decide +kernel) (by decide +kernel)
set_option maxRecDepth 20000 in
theorem gX7_endRound_X2_empty : GoodIn wsX7_endRound (wsV RX7 120 RX2 yX2_empty wsX2_empty) := goodIn_app (goodIn_of _ (by decide +kernel)) ggX7_endRound_X2_empty
theorem dX7_endRound_0 : decode cX7_endRound 0 = .ok (.aload_n 0, 1) := by decide +kernel
theorem dX7_endRound_1 : decode cX7_endRound 1 = .ok (.getfield 33, 3) := by decide +kernel
theorem dX7_endRound_4 : decode cX7_endRound 4 = .ok (.iconst 4, 1) := by decide +kernel
theorem dX7_endRound_5 : decode cX7_endRound 5 = .ok (.aload_n 0, 1) := by decide +kernel
theorem dX7_endRound_6 : decode cX7_endRound 6 = .ok (.iconst 2, 1) := by decide +kernel
theorem dX7_endRound_7 : decode cX7_endRound 7 = .ok (.invokevirtual 94, 3) := by decide +kernel
theorem dX7_endRound_10 : decode cX7_endRound 10 = .ok (.invokevirtual 78, 3) := by decide +kernel
theorem dX7_endRound_13 : decode cX7_endRound 13 = .ok (.aload_n 0, 1) := by decide +kernel
theorem dX7_endRound_14 : decode cX7_endRound 14 = .ok (.getfield 14, 3) := by decide +kernel
theorem dX7_endRound_17 : decode cX7_endRound 17 = .ok (.aload_n 1, 1) := by decide +kernel
theorem dX7_endRound_18 : decode cX7_endRound 18 = .ok (.invokevirtual 50, 3) := by decide +kernel
theorem dX7_endRound_21 : decode cX7_endRound 21 = .ok (.aload_n 0, 1) := by decide +kernel
theorem dX7_endRound_22 : decode cX7_endRound 22 = .ok (.getfield 29, 3) := by decide +kernel
theorem dX7_endRound_25 : decode cX7_endRound 25 = .ok (.invokevirtual 120, 3) := by decide +kernel
theorem dX7_endRound_28 : decode cX7_endRound 28 = .ok (.aload_n 0, 1) := by decide +kernel
theorem dX7_endRound_29 : decode cX7_endRound 29 = .ok (.iconst 0, 1) := by decide +kernel
theorem dX7_endRound_30 : decode cX7_endRound 30 = .ok (.putfield 61, 3) := by decide +kernel
theorem dX7_endRound_33 : decode cX7_endRound 33 = .ok (.aload_n 0, 1) := by decide +kernel
theorem dX7_endRound_34 : decode cX7_endRound 34 = .ok (.dup, 1) := by decide +kernel
theorem dX7_endRound_35 : decode cX7_endRound 35 = .ok (.getfield 57, 3) := by decide +kernel
theorem dX7_endRound_38 : decode cX7_endRound 38 = .ok (.iconst 1, 1) := by decide +kernel
theorem dX7_endRound_39 : decode cX7_endRound 39 = .ok (.iadd, 1) := by decide +kernel
theorem dX7_endRound_40 : decode cX7_endRound 40 = .ok (.putfield 57, 3) := by decide +kernel
theorem dX7_endRound_43 : decode cX7_endRound 43 = .ok (.return_, 1) := by decide +kernel
end
section
set_option maxRecDepth 20000 in
theorem ggX0_init_X7_init : GoodIn wsX0_init wsX7_init := goodIn_r _ [10, 11, 2, 3, 12, 13, 14, 15, 16, 17, 18, 19, 20, 21, 22, 23, 24, 25, 26, 27, 28, 29, 30, 31, 32, 33, 34, 35, 36, 37, 38, 39, 40, 41, 42, 43, 44, 45, 46, 47, 48, 49, 50, 51, 52, 53, 54, 55, 56, 57, 69, 70, 60, 61, 62, 63, 64, 65, 66, 67, 68, 71, 72, 73, 74, 75, 76, 77] (by decide +kernel) (by decide +kernel)
set_option maxRecDepth 20000 in
theorem gX0_init_X7_init : GoodIn wsX0_init (wsX7_init) := ggX0_init_X7_init
theorem dX0_init_0 : decode cX0_init 0 = .ok (.aload_n 0, 1) := by decide +kernel
theorem dX0_init_1 : decode cX0_init 1 = .ok (.invokespecial 3, 3) := by decide +kernel
theorem dX0_init_4 : decode cX0_init 4 = .ok (.aload_n 0, 1) := by decide +kernel
theorem dX0_init_5 : decode cX0_init 5 = .ok (.iconst 4, 1) := by decide +kernel
theorem dX0_init_6 : decode cX0_init 6 = .ok (.anewarray 9, 3) := by decide +kernel
theorem dX0_init_9 : decode cX0_init 9 = .ok (.putfield 11, 3) := by decide +kernel
theorem dX0_init_12 : decode cX0_init 12 = .ok (.iconst 0, 1) := by decide +kernel
theorem dX0_init_13 : decode cX0_init 13 = .ok (.istore_n 1, 1) := by decide +kernel
theorem dX0_init_14 : decode cX0_init 14 = .ok (.iload_n 1, 1) := by decide +kernel
theorem dX0_init_15 : decode cX0_init 15 = .ok (.aload_n 0, 1) := by decide +kernel
theorem dX0_init_16 : decode cX0_init 16 = .ok (.getfield 11, 3) := by decide +kernel
theorem dX0_init_19 : decode cX0_init 19 = .ok (.arraylength, 1) := by decide +kernel
theorem dX0_init_20 : decode cX0_init 20 = .ok (.if_icmp .ge 22, 3) := by decide +kernel
theorem dX0_init_23 : decode cX0_init 23 = .ok (.aload_n 0, 1) := by decide +kernel
theorem dX0_init_24 : decode cX0_init 24 = .ok (.getfield 11, 3) := by decide +kernel
theorem dX0_init_27 : decode cX0_init 27 = .ok (.iload_n 1, 1) := by decide +kernel
theorem dX0_init_28 : decode cX0_init 28 = .ok (.new 9, 3) := by decide +kernel
theorem dX0_init_31 : decode cX0_init 31 = .ok (.dup, 1) := by decide +kernel
theorem dX0_init_32 : decode cX0_init 32 = .ok (.invokespecial 17, 3) := by decide +kernel
theorem dX0_init_35 : decode cX0_init 35 = .ok (.aastore, 1) := by decide +kernel
theorem dX0_init_36 : decode cX0_init 36 = .ok (.iinc 1 1, 3) := by decide +kernel
theorem dX0_init_39 : decode cX0_init 39 = .ok (.goto (-25), 3) := by decide +kernel
theorem dX0_init_42 : decode cX0_init 42 = .ok (.return_, 1) := by decide +kernel
set_option maxRecDepth 20000 in
theorem ggX0_record_X0_dropOldest : GoodIn wsX0_record wsX0_dropOldest := goodIn_r _ [7, 2, 1, 55, 56] (by decide +kernel) (by decide +kernel)
set_option maxRecDepth 20000 in
theorem gX0_record_X0_dropOldest : GoodIn wsX0_record (wsV RX0 22 RX0 yX0_dropOldest wsX0_dropOldest) := goodIn_app (goodIn_of _ (by decide +kernel)) ggX0_record_X0_dropOldest
set_option maxRecDepth 20000 in
theorem ggX0_record_X7_copyFrom : GoodIn wsX0_record wsX7_copyFrom := goodIn_r _ [12, 13, 14, 15, 16, 17, 18, 19, 20, 21, 22, 23, 24, 25, 26, 27, 28, 29, 30, 31, 32, 33, 34, 35, 36, 37, 38, 39, 40, 11, 41, 42, 43, 44, 45, 46, 47, 48, 49, 50, 51, 52, 53, 54, 57, 58, 59, 60, 61, 62, 63, 64, 65, 66, 67, 68, 69, 70, 71, 72, 73, 74] (by decide +kernel) (by decide +kernel)
set_option maxRecDepth 20000 in
theorem gX0_record_X7_copyFrom : GoodIn wsX0_record (wsV RX0 25 RX7 yX7_copyFrom wsX7_copyFrom) := goodIn_app (goodIn_of _ (by decide +kernel)) ggX0_record_X7_copyFrom
theorem dX0_record_0 : decode cX0_record 0 = .ok (.aload_n 0, 1) := by decide +kernel
theorem dX0_record_1 : decode cX0_record 1 = .ok (.getfield 18, 3) := by decide +kernel
theorem dX0_record_4 : decode cX0_record 4 = .ok (.aload_n 0, 1) := by decide +kernel
theorem dX0_record_5 : decode cX0_record 5 = .ok (.getfield 11, 3) := by decide +kernel
theorem dX0_record_8 : decode cX0_record 8 = .ok (.arraylength, 1) := by decide +kernel
theorem dX0_record_9 : decode cX0_record 9 = .ok (.if_icmp .lt 7, 3) := by decide +kernel
theorem dX0_record_12 : decode cX0_record 12 = .ok (.aload_n 0, 1) := by decide +kernel
theorem dX0_record_13 : decode cX0_record 13 = .ok (.invokevirtual 22, 3) := by decide +kernel
theorem dX0_record_16 : decode cX0_record 16 = .ok (.aload_n 0, 1) := by decide +kernel
theorem dX0_record_17 : decode cX0_record 17 = .ok (.getfield 18, 3) := by decide +kernel
theorem dX0_record_20 : decode cX0_record 20 = .ok (.ifCond .lt 50, 3) := by decide +kernel
theorem dX0_record_23 : decode cX0_record 23 = .ok (.aload_n 0, 1) := by decide +kernel
theorem dX0_record_24 : decode cX0_record 24 = .ok (.getfield 18, 3) := by decide +kernel
theorem dX0_record_27 : decode cX0_record 27 = .ok (.aload_n 0, 1) := by decide +kernel
theorem dX0_record_28 : decode cX0_record 28 = .ok (.getfield 11, 3) := by decide +kernel
theorem dX0_record_31 : decode cX0_record 31 = .ok (.arraylength, 1) := by decide +kernel
theorem dX0_record_32 : decode cX0_record 32 = .ok (.if_icmp .ge 38, 3) := by decide +kernel
theorem dX0_record_35 : decode cX0_record 35 = .ok (.aload_n 0, 1) := by decide +kernel
theorem dX0_record_36 : decode cX0_record 36 = .ok (.getfield 11, 3) := by decide +kernel
theorem dX0_record_39 : decode cX0_record 39 = .ok (.aload_n 0, 1) := by decide +kernel
theorem dX0_record_40 : decode cX0_record 40 = .ok (.getfield 18, 3) := by decide +kernel
theorem dX0_record_43 : decode cX0_record 43 = .ok (.aaload, 1) := by decide +kernel
theorem dX0_record_44 : decode cX0_record 44 = .ok (.ifnull 26, 3) := by decide +kernel
theorem dX0_record_47 : decode cX0_record 47 = .ok (.aload_n 0, 1) := by decide +kernel
theorem dX0_record_48 : decode cX0_record 48 = .ok (.getfield 11, 3) := by decide +kernel
theorem dX0_record_51 : decode cX0_record 51 = .ok (.aload_n 0, 1) := by decide +kernel
theorem dX0_record_52 : decode cX0_record 52 = .ok (.getfield 18, 3) := by decide +kernel
theorem dX0_record_55 : decode cX0_record 55 = .ok (.aaload, 1) := by decide +kernel
theorem dX0_record_56 : decode cX0_record 56 = .ok (.aload_n 1, 1) := by decide +kernel
theorem dX0_record_57 : decode cX0_record 57 = .ok (.invokevirtual 25, 3) := by decide +kernel
theorem dX0_record_60 : decode cX0_record 60 = .ok (.aload_n 0, 1) := by decide +kernel
theorem dX0_record_61 : decode cX0_record 61 = .ok (.dup, 1) := by decide +kernel
theorem dX0_record_62 : decode cX0_record 62 = .ok (.getfield 18, 3) := by decide +kernel
theorem dX0_record_65 : decode cX0_record 65 = .ok (.iconst 1, 1) := by decide +kernel
theorem dX0_record_66 : decode cX0_record 66 = .ok (.iadd, 1) := by decide +kernel
theorem dX0_record_67 : decode cX0_record 67 = .ok (.putfield 18, 3) := by decide +kernel
theorem dX0_record_70 : decode cX0_record 70 = .ok (.return_, 1) := by decide +kernel
theorem dX0_dropOldest_0 : decode cX0_dropOldest 0 = .ok (.iconst 0, 1) := by decide +kernel
theorem dX0_dropOldest_1 : decode cX0_dropOldest 1 = .ok (.istore_n 1, 1) := by decide +kernel
theorem dX0_dropOldest_2 : decode cX0_dropOldest 2 = .ok (.iload_n 1, 1) := by decide +kernel
theorem dX0_dropOldest_3 : decode cX0_dropOldest 3 = .ok (.iconst 1, 1) := by decide +kernel
theorem dX0_dropOldest_4 : decode cX0_dropOldest 4 = .ok (.iadd, 1) := by decide +kernel
theorem dX0_dropOldest_5 : decode cX0_dropOldest 5 = .ok (.aload_n 0, 1) := by decide +kernel
theorem dX0_dropOldest_6 : decode cX0_dropOldest 6 = .ok (.getfield 11, 3) := by decide +kernel
theorem dX0_dropOldest_9 : decode cX0_dropOldest 9 = .ok (.arraylength, 1) := by decide +kernel
theorem dX0_dropOldest_10 : decode cX0_dropOldest 10 = .ok (.if_icmp .ge 39, 3) := by decide +kernel
theorem dX0_dropOldest_13 : decode cX0_dropOldest 13 = .ok (.aload_n 0, 1) := by decide +kernel
theorem dX0_dropOldest_14 : decode cX0_dropOldest 14 = .ok (.getfield 11, 3) := by decide +kernel
theorem dX0_dropOldest_17 : decode cX0_dropOldest 17 = .ok (.iload_n 1, 1) := by decide +kernel
theorem dX0_dropOldest_18 : decode cX0_dropOldest 18 = .ok (.aaload, 1) := by decide +kernel
theorem dX0_dropOldest_19 : decode cX0_dropOldest 19 = .ok (.astore_n 2, 1) := by decide +kernel
theorem dX0_dropOldest_20 : decode cX0_dropOldest 20 = .ok (.aload_n 0, 1) := by decide +kernel
theorem dX0_dropOldest_21 : decode cX0_dropOldest 21 = .ok (.getfield 11, 3) := by decide +kernel
theorem dX0_dropOldest_24 : decode cX0_dropOldest 24 = .ok (.iload_n 1, 1) := by decide +kernel
theorem dX0_dropOldest_25 : decode cX0_dropOldest 25 = .ok (.aload_n 0, 1) := by decide +kernel
theorem dX0_dropOldest_26 : decode cX0_dropOldest 26 = .ok (.getfield 11, 3) := by decide +kernel
theorem dX0_dropOldest_29 : decode cX0_dropOldest 29 = .ok (.iload_n 1, 1) := by decide +kernel
theorem dX0_dropOldest_30 : decode cX0_dropOldest 30 = .ok (.iconst 1, 1) := by decide +kernel
theorem dX0_dropOldest_31 : decode cX0_dropOldest 31 = .ok (.iadd, 1) := by decide +kernel
theorem dX0_dropOldest_32 : decode cX0_dropOldest 32 = .ok (.aaload, 1) := by decide +kernel
theorem dX0_dropOldest_33 : decode cX0_dropOldest 33 = .ok (.aastore, 1) := by decide +kernel
theorem dX0_dropOldest_34 : decode cX0_dropOldest 34 = .ok (.aload_n 0, 1) := by decide +kernel
theorem dX0_dropOldest_35 : decode cX0_dropOldest 35 = .ok (.getfield 11, 3) := by decide +kernel
theorem dX0_dropOldest_38 : decode cX0_dropOldest 38 = .ok (.iload_n 1, 1) := by decide +kernel
theorem dX0_dropOldest_39 : decode cX0_dropOldest 39 = .ok (.iconst 1, 1) := by decide +kernel
theorem dX0_dropOldest_40 : decode cX0_dropOldest 40 = .ok (.iadd, 1) := by decide +kernel
theorem dX0_dropOldest_41 : decode cX0_dropOldest 41 = .ok (.aload_n 2, 1) := by decide +kernel
theorem dX0_dropOldest_42 : decode cX0_dropOldest 42 = .ok (.aastore, 1) := by decide +kernel
theorem dX0_dropOldest_43 : decode cX0_dropOldest 43 = .ok (.iinc 1 1, 3) := by decide +kernel
theorem dX0_dropOldest_46 : decode cX0_dropOldest 46 = .ok (.goto (-44), 3) := by decide +kernel
theorem dX0_dropOldest_49 : decode cX0_dropOldest 49 = .ok (.aload_n 0, 1) := by decide +kernel
theorem dX0_dropOldest_50 : decode cX0_dropOldest 50 = .ok (.dup, 1) := by decide +kernel
theorem dX0_dropOldest_51 : decode cX0_dropOldest 51 = .ok (.getfield 18, 3) := by decide +kernel
theorem dX0_dropOldest_54 : decode cX0_dropOldest 54 = .ok (.iconst 1, 1) := by decide +kernel
theorem dX0_dropOldest_55 : decode cX0_dropOldest 55 = .ok (.isub, 1) := by decide +kernel
theorem dX0_dropOldest_56 : decode cX0_dropOldest 56 = .ok (.putfield 18, 3) := by decide +kernel
theorem dX0_dropOldest_59 : decode cX0_dropOldest 59 = .ok (.return_, 1) := by decide +kernel
set_option maxRecDepth 20000 in
theorem ggX0_restore_X7_copyFrom : GoodIn wsX0_restore wsX7_copyFrom := goodIn_r _ [7, 8, 9, 10, 11, 12, 13, 14, 15, 16, 17, 18, 19, 20, 21, 22, 23, 24, 25, 26, 27, 28, 29, 30, 31, 32, 33, 34, 35, 6, 36, 37, 38, 39, 40, 41, 42, 43, 44, 45, 46, 47, 48, 49, 52, 53, 54, 55, 56, 57, 58, 59, 60, 61, 62, 63, 64, 65, 66, 67, 68, 69] (by decide +kernel) (by decide +kernel)
set_option maxRecDepth 20000 in
theorem gX0_restore_X7_copyFrom : GoodIn wsX0_restore (wsV RX0 25 RX7 yX7_copyFrom wsX7_copyFrom) := goodIn_app (goodIn_of _ (by decide +kernel)) ggX0_restore_X7_copyFrom
theorem dX0_restore_0 : decode cX0_restore 0 = .ok (.aload_n 0, 1) := by decide +kernel
theorem dX0_restore_1 : decode cX0_restore 1 = .ok (.getfield 18, 3) := by decide +kernel
theorem dX0_restore_4 : decode cX0_restore 4 = .ok (.iconst 1, 1) := by decide +kernel
theorem dX0_restore_5 : decode cX0_restore 5 = .ok (.isub, 1) := by decide +kernel
theorem dX0_restore_6 : decode cX0_restore 6 = .ok (.istore_n 2, 1) := by decide +kernel
theorem dX0_restore_7 : decode cX0_restore 7 = .ok (.iload_n 2, 1) := by decide +kernel
theorem dX0_restore_8 : decode cX0_restore 8 = .ok (.ifCond .lt 36, 3) := by decide +kernel
theorem dX0_restore_11 : decode cX0_restore 11 = .ok (.iload_n 2, 1) := by decide +kernel
theorem dX0_restore_12 : decode cX0_restore 12 = .ok (.aload_n 0, 1) := by decide +kernel
theorem dX0_restore_13 : decode cX0_restore 13 = .ok (.getfield 11, 3) := by decide +kernel
theorem dX0_restore_16 : decode cX0_restore 16 = .ok (.arraylength, 1) := by decide +kernel
theorem dX0_restore_17 : decode cX0_restore 17 = .ok (.if_icmp .ge 27, 3) := by decide +kernel
theorem dX0_restore_20 : decode cX0_restore 20 = .ok (.aload_n 0, 1) := by decide +kernel
theorem dX0_restore_21 : decode cX0_restore 21 = .ok (.getfield 11, 3) := by decide +kernel
theorem dX0_restore_24 : decode cX0_restore 24 = .ok (.iload_n 2, 1) := by decide +kernel
theorem dX0_restore_25 : decode cX0_restore 25 = .ok (.aaload, 1) := by decide +kernel
theorem dX0_restore_26 : decode cX0_restore 26 = .ok (.ifnull 18, 3) := by decide +kernel
theorem dX0_restore_29 : decode cX0_restore 29 = .ok (.aload_n 1, 1) := by decide +kernel
theorem dX0_restore_30 : decode cX0_restore 30 = .ok (.aload_n 0, 1) := by decide +kernel
theorem dX0_restore_31 : decode cX0_restore 31 = .ok (.getfield 11, 3) := by decide +kernel
theorem dX0_restore_34 : decode cX0_restore 34 = .ok (.iload_n 2, 1) := by decide +kernel
theorem dX0_restore_35 : decode cX0_restore 35 = .ok (.aaload, 1) := by decide +kernel
theorem dX0_restore_36 : decode cX0_restore 36 = .ok (.invokevirtual 25, 3) := by decide +kernel
theorem dX0_restore_39 : decode cX0_restore 39 = .ok (.aload_n 0, 1) := by decide +kernel
theorem dX0_restore_40 : decode cX0_restore 40 = .ok (.iload_n 2, 1) := by decide +kernel
theorem dX0_restore_41 : decode cX0_restore 41 = .ok (.putfield 18, 3) := by decide +kernel
theorem dX0_restore_44 : decode cX0_restore 44 = .ok (.return_, 1) := by decide +kernel
end
section
/-! SHEETS AND STATES -/
def shD : SH := (0, 0, [])
theorem gSheet_put {D : gD} {G : gH} {a : Nat} {v : SH} {x y : Int32} (h : gSheet D G a v) : gSheet D (gU G a (.inr (5, [.ref (a + 1), .int x, .int y]))) a (x, y, v.2.2) :=
  ⟨gU_s, gRow_fr h.2 (gOut_up (a := a) (n := 1) gOut_rf (by omega)) (by omega)⟩
theorem gSv_rd' {D : gD} {G : gH} {S : Nat} {v : SV} {x : Int32} (h : gSv D G S v) : gSv D (gU G S (.inr (6, [.ref (S + 1), .ref (S + 3), .ref (S + 4), .ref (S + 13), .ref (S + 15), .ref (S + 17), .ref (S + 19), .int x, .int (nI v.2.2.1.length)]))) S (v.1, x, v.2.2) := by
  have ho : gOut S 1 G (gU G S (.inr (6, [.ref (S + 1), .ref (S + 3), .ref (S + 4), .ref (S + 13), .ref (S + 15), .ref (S + 17), .ref (S + 19), .int x, .int (nI v.2.2.1.length)]))) := gOut_up gOut_rf (by omega)
  obtain ⟨h1, ⟨f, h2, h3⟩, h4, h5, h6, h7⟩ := h
  exact ⟨gU_s, ⟨f, by rw [ho (S + 3) (by omega)]; exact h2, h3⟩, gRow_fr h4 ho (by omega), gList_fr h5 ho (by omega), gAcc_fr h6 ho (by omega), gShs_fr h7 ho (by omega)⟩
theorem gSv_sc' {D : gD} {G : gH} {S : Nat} {v : SV} {sh : List SH} (h : gSv D G S v) (hs : gShs D G (S + 21) sh) : gSv D (gU G S (.inr (6, [.ref (S + 1), .ref (S + 3), .ref (S + 4), .ref (S + 13), .ref (S + 15), .ref (S + 17), .ref (S + 19), .int v.2.1, .int (nI sh.length)]))) S (v.1, v.2.1, sh, v.2.2.2) := by
  have ho : gOut S 1 G (gU G S (.inr (6, [.ref (S + 1), .ref (S + 3), .ref (S + 4), .ref (S + 13), .ref (S + 15), .ref (S + 17), .ref (S + 19), .int v.2.1, .int (nI sh.length)]))) := gOut_up gOut_rf (by omega)
  obtain ⟨h1, ⟨f, h2, h3⟩, h4, h5, h6, h7⟩ := h
  exact ⟨gU_s, ⟨f, by rw [ho (S + 3) (by omega)]; exact h2, h3⟩, gRow_fr h4 ho (by omega), gList_fr h5 ho (by omega), gAcc_fr h6 ho (by omega), gShs_fr hs ho (by omega)⟩
theorem gShs_any {D : gD} {G : gH} {a n : Nat} {sh : List SH} (h : gShs D G a sh) (hn : n ≤ 8) : ∃ sh' : List SH, sh'.length = n ∧ gShs D G a sh' := by
  have h0 : ∀ i : Nat, ∃ c : SH, i < 8 → gSheet D G (a + 3 * i) c := by
    intro i
    by_cases hi : i < 8
    · obtain ⟨c, h1, -⟩ := h.2 i hi
      exact ⟨c, fun _ => h1⟩
    · exact ⟨shD, fun q => absurd q hi⟩
  obtain ⟨f, hf⟩ := Classical.axiomOfChoice h0
  refine ⟨(List.range n).map f, by simp, by simpa using hn, fun i hi => ⟨f i, hf i hi, fun q => by simp⟩⟩
theorem gShs_push {D : gD} {G : gH} {a : Nat} {sh : List SH} (h : gShs D G a sh) (hn : sh.length < 8) : ∃ c : SH, gShs D G a (sh ++ [c]) := by
  obtain ⟨c, h1, -⟩ := h.2 sh.length hn
  refine ⟨c, by simp; omega, fun i hi => ?_⟩
  by_cases q : i = sh.length
  · subst q
    exact ⟨c, h1, fun _ => by simp⟩
  · obtain ⟨c2, g1, g2⟩ := h.2 i hi
    refine ⟨c2, g1, fun hl => ?_⟩
    have hl2 : i < sh.length := by simp at hl; omega
    rw [List.getElem_append_left hl2]
    exact g2 hl2
theorem gSv_gd {D : gD} {G : gH} {S i : Nat} {v : SV} (h : gSv D G S v) (hi : i < v.2.2.1.length) : gSheet D G (S + 21 + 3 * i) (v.2.2.1.getD i shD) := by
  have := gSv_at h hi
  rw [List.getD_eq_getElem?_getD, List.getElem?_eq_getElem hi]
  exact this
theorem gSv_n {D : gD} {G : gH} {S : Nat} {v : SV} (h : gSv D G S v) : v.2.2.1.length ≤ 8 := h.2.2.2.2.2.1
def pBusy (sh : List SH) (r : Int32) : Bool := (List.range sh.length).any (fun i => decide ((sh.getD i shD).1 = r) && decide ((sh.getD i shD).2.1 = 0))
def pShN (sh : List SH) (st : Int32) (n : Nat) : Nat := (List.range n).countP (fun i => decide ((sh.getD i shD).2.1 = st))
def pMkS (sh : List SH) (st : Int32) : Nat → Nat
  | 0 => 0
  | n + 1 => pMkS sh st n + (if (sh.getD n shD).2.1 = st then (sh.getD n shD).2.2.length else 0)
def pMg (ms : List Int32) (r : Int32) (li : ML) : Nat → ML
  | 0 => li
  | n + 1 => pTake (pMg ms r li n) (ms.getD n 0) r
def pMgU (ms : List Int32) (r : Int32) (li : ML) : Nat → Nat
  | 0 => 0
  | n + 1 => pMgU ms r li n + (if ms.getD n 0 ∈ (pMg ms r li n).1 then 1 else 0)
theorem pC_le {f : Nat → Bool} {n : Nat} : (List.range n).countP f ≤ n := by
  have := List.countP_le_length (p := f) (l := List.range n)
  simpa using this
set_option maxRecDepth 20000 in
theorem in_X6_startFor_X6 : ∀ w ∈ wsX60, w ∈ wsX6_startFor := by decide +kernel
set_option maxRecDepth 20000 in
theorem fd_X6_startFor_20 : gFd wsX6_startFor RX6 20 5 RX6 TX6 3 1 := ⟨in_X6_startFor_X6, rfl, by decide, by decide +kernel⟩
set_option maxRecDepth 20000 in
theorem fd_X6_startFor_24 : gFd wsX6_startFor RX6 24 5 RX6 TX6 3 2 := ⟨in_X6_startFor_X6, rfl, by decide, by decide +kernel⟩
set_option maxRecDepth 20000 in
theorem fd_X6_startFor_14 : gFd wsX6_startFor RX6 14 5 RX6 TX6 3 0 := ⟨in_X6_startFor_X6, rfl, by decide, by decide +kernel⟩
theorem cb_X6_startFor__X5_cutTo : gCb yX5_cutTo cX5_cutTo 2 none wsX5_cutTo (gR 0) (gR 1) 0 0 1 := ⟨rfl, rfl, rfl, by decide +kernel, by decide⟩
set_option maxRecDepth 20000 in
theorem in_X6_copyFrom_X6 : ∀ w ∈ wsX60, w ∈ wsX6_copyFrom := by decide +kernel
set_option maxRecDepth 20000 in
theorem fd_X6_copyFrom_20 : gFd wsX6_copyFrom RX6 20 5 RX6 TX6 3 1 := ⟨in_X6_copyFrom_X6, rfl, by decide, by decide +kernel⟩
set_option maxRecDepth 20000 in
theorem fd_X6_copyFrom_24 : gFd wsX6_copyFrom RX6 24 5 RX6 TX6 3 2 := ⟨in_X6_copyFrom_X6, rfl, by decide, by decide +kernel⟩
set_option maxRecDepth 20000 in
theorem fd_X6_copyFrom_14 : gFd wsX6_copyFrom RX6 14 5 RX6 TX6 3 0 := ⟨in_X6_copyFrom_X6, rfl, by decide, by decide +kernel⟩
theorem cb_X6_copyFrom__X5_copyFrom : gCb yX5_copyFrom cX5_copyFrom 3 none wsX5_copyFrom (gR 0) (gR 1) 0 0 1 := ⟨rfl, rfl, rfl, by decide +kernel, by decide⟩
set_option maxRecDepth 20000 in
theorem in_X7_sheetNumbered_X7 : ∀ w ∈ wsX70, w ∈ wsX7_sheetNumbered := by decide +kernel
set_option maxRecDepth 20000 in
theorem fd_X7_sheetNumbered_61 : gFd wsX7_sheetNumbered RX7 61 6 RX7 TX7 9 8 := ⟨in_X7_sheetNumbered_X7, rfl, by decide, by decide +kernel⟩
set_option maxRecDepth 20000 in
theorem fd_X7_sheetNumbered_22 : gFd wsX7_sheetNumbered RX7 22 6 RX7 TX7 9 1 := ⟨in_X7_sheetNumbered_X7, rfl, by decide, by decide +kernel⟩
set_option maxRecDepth 20000 in
theorem in_X7_hasSheetOut_X7 : ∀ w ∈ wsX70, w ∈ wsX7_hasSheetOut := by decide +kernel
set_option maxRecDepth 20000 in
theorem fd_X7_hasSheetOut_61 : gFd wsX7_hasSheetOut RX7 61 6 RX7 TX7 9 8 := ⟨in_X7_hasSheetOut_X7, rfl, by decide, by decide +kernel⟩
theorem cb_X7_hasSheetOut__X7_sheetNumbered : gCb yX7_sheetNumbered cX7_sheetNumbered 2 (some (.object "ProofSheets$Sheet")) wsX7_sheetNumbered (gR 0) (gR 1) 0 0 1 := ⟨rfl, rfl, rfl, by decide +kernel, by decide⟩
set_option maxRecDepth 20000 in
theorem in_X7_hasSheetOut_X6 : ∀ w ∈ wsX60, w ∈ wsX7_hasSheetOut := by decide +kernel
set_option maxRecDepth 20000 in
theorem fd_X7_hasSheetOut_81 : gFn wsX7_hasSheetOut RX7 81 5 RX6 TX6 3 1 := ⟨in_X7_hasSheetOut_X6, rfl, by decide, by decide +kernel⟩
set_option maxRecDepth 20000 in
theorem fd_X7_hasSheetOut_84 : gFn wsX7_hasSheetOut RX7 84 5 RX6 TX6 3 2 := ⟨in_X7_hasSheetOut_X6, rfl, by decide, by decide +kernel⟩
set_option maxRecDepth 20000 in
theorem in_X7_howManySheetsAre_X7 : ∀ w ∈ wsX70, w ∈ wsX7_howManySheetsAre := by decide +kernel
set_option maxRecDepth 20000 in
theorem fd_X7_howManySheetsAre_61 : gFd wsX7_howManySheetsAre RX7 61 6 RX7 TX7 9 8 := ⟨in_X7_howManySheetsAre_X7, rfl, by decide, by decide +kernel⟩
theorem cb_X7_howManySheetsAre__X7_sheetNumbered : gCb yX7_sheetNumbered cX7_sheetNumbered 2 (some (.object "ProofSheets$Sheet")) wsX7_sheetNumbered (gR 0) (gR 1) 0 0 1 := ⟨rfl, rfl, rfl, by decide +kernel, by decide⟩
set_option maxRecDepth 20000 in
theorem in_X7_howManySheetsAre_X6 : ∀ w ∈ wsX60, w ∈ wsX7_howManySheetsAre := by decide +kernel
set_option maxRecDepth 20000 in
theorem fd_X7_howManySheetsAre_84 : gFn wsX7_howManySheetsAre RX7 84 5 RX6 TX6 3 2 := ⟨in_X7_howManySheetsAre_X6, rfl, by decide, by decide +kernel⟩
set_option maxRecDepth 20000 in
theorem in_X7_marksOnSheetsThatAre_X7 : ∀ w ∈ wsX70, w ∈ wsX7_marksOnSheetsThatAre := by decide +kernel
set_option maxRecDepth 20000 in
theorem fd_X7_marksOnSheetsThatAre_61 : gFd wsX7_marksOnSheetsThatAre RX7 61 6 RX7 TX7 9 8 := ⟨in_X7_marksOnSheetsThatAre_X7, rfl, by decide, by decide +kernel⟩
theorem cb_X7_marksOnSheetsThatAre__X7_sheetNumbered : gCb yX7_sheetNumbered cX7_sheetNumbered 2 (some (.object "ProofSheets$Sheet")) wsX7_sheetNumbered (gR 0) (gR 1) 0 0 1 := ⟨rfl, rfl, rfl, by decide +kernel, by decide⟩
set_option maxRecDepth 20000 in
theorem in_X7_marksOnSheetsThatAre_X6 : ∀ w ∈ wsX60, w ∈ wsX7_marksOnSheetsThatAre := by decide +kernel
set_option maxRecDepth 20000 in
theorem fd_X7_marksOnSheetsThatAre_84 : gFn wsX7_marksOnSheetsThatAre RX7 84 5 RX6 TX6 3 2 := ⟨in_X7_marksOnSheetsThatAre_X6, rfl, by decide, by decide +kernel⟩
set_option maxRecDepth 20000 in
theorem fd_X7_marksOnSheetsThatAre_87 : gFn wsX7_marksOnSheetsThatAre RX7 87 5 RX6 TX6 3 0 := ⟨in_X7_marksOnSheetsThatAre_X6, rfl, by decide, by decide +kernel⟩
theorem cb_X7_marksOnSheetsThatAre__X5_used : gCb yX5_used cX5_used 1 (some .int) wsX5_used (gR 0) (gR 1) 0 0 0 := ⟨rfl, rfl, rfl, by decide +kernel, by decide⟩
set_option maxRecDepth 20000 in
theorem in_X7_account_X7 : ∀ w ∈ wsX70, w ∈ wsX7_account := by decide +kernel
set_option maxRecDepth 20000 in
theorem fd_X7_account_33 : gFd wsX7_account RX7 33 6 RX7 TX7 9 3 := ⟨in_X7_account_X7, rfl, by decide, by decide +kernel⟩
theorem cb_X7_account__X5_get : gCb yX5_get cX5_get 2 (some .int) wsX5_get (gR 1) (gR 3) 0 0 1 := ⟨rfl, rfl, rfl, by decide +kernel, by decide⟩
set_option maxRecDepth 20000 in
theorem fd_X7_account_29 : gFd wsX7_account RX7 29 6 RX7 TX7 9 2 := ⟨in_X7_account_X7, rfl, by decide, by decide +kernel⟩
theorem cb_X7_account__X2_howManyAreOpen : gCb yX2_howManyAreOpen cX2_howManyAreOpen 3 (some .int) wsX2_howManyAreOpen (gR 2) (gR 3) 0 0 0 := ⟨rfl, rfl, rfl, by decide +kernel, by decide⟩
theorem cb_X7_account__X7_marksOnSheetsThatAre : gCb yX7_marksOnSheetsThatAre cX7_marksOnSheetsThatAre 5 (some .int) wsX7_marksOnSheetsThatAre (gR 1) (gR 3) 0 0 1 := ⟨rfl, rfl, rfl, by decide +kernel, by decide⟩
set_option maxRecDepth 20000 in
theorem in_X7_canBeFinished_X7 : ∀ w ∈ wsX70, w ∈ wsX7_canBeFinished := by decide +kernel
set_option maxRecDepth 20000 in
theorem fd_X7_canBeFinished_57 : gFd wsX7_canBeFinished RX7 57 6 RX7 TX7 9 7 := ⟨in_X7_canBeFinished_X7, rfl, by decide, by decide +kernel⟩
theorem cb_X7_canBeFinished__X7_howManySheetsAre : gCb yX7_howManySheetsAre cX7_howManySheetsAre 5 (some .int) wsX7_howManySheetsAre (gR 1) (gR 3) 0 0 1 := ⟨rfl, rfl, rfl, by decide +kernel, by decide⟩
set_option maxRecDepth 20000 in
theorem fd_X7_canBeFinished_29 : gFd wsX7_canBeFinished RX7 29 6 RX7 TX7 9 2 := ⟨in_X7_canBeFinished_X7, rfl, by decide, by decide +kernel⟩
theorem cb_X7_canBeFinished__X2_howManyAreOpen : gCb yX2_howManyAreOpen cX2_howManyAreOpen 3 (some .int) wsX2_howManyAreOpen (gR 2) (gR 3) 0 0 0 := ⟨rfl, rfl, rfl, by decide +kernel, by decide⟩
set_option maxRecDepth 20000 in
theorem in_X7_keepAnswer_X7 : ∀ w ∈ wsX70, w ∈ wsX7_keepAnswer := by decide +kernel
set_option maxRecDepth 20000 in
theorem fd_X7_keepAnswer_29 : gFd wsX7_keepAnswer RX7 29 6 RX7 TX7 9 2 := ⟨in_X7_keepAnswer_X7, rfl, by decide, by decide +kernel⟩
set_option maxRecDepth 20000 in
theorem in_X7_keepAnswer_X2 : ∀ w ∈ wsX20, w ∈ wsX7_keepAnswer := by decide +kernel
set_option maxRecDepth 20000 in
theorem fd_X7_keepAnswer_111 : gFn wsX7_keepAnswer RX7 111 1 RX2 TX2 4 1 := ⟨in_X7_keepAnswer_X2, rfl, by decide, by decide +kernel⟩
theorem cb_X7_keepAnswer__X5_set : gCb yX5_set cX5_set 3 none wsX5_set (gR 1) (gR 3) 0 0 2 := ⟨rfl, rfl, rfl, by decide +kernel, by decide⟩
set_option maxRecDepth 20000 in
theorem fd_X7_keepAnswer_33 : gFd wsX7_keepAnswer RX7 33 6 RX7 TX7 9 3 := ⟨in_X7_keepAnswer_X7, rfl, by decide, by decide +kernel⟩
theorem cb_X7_keepAnswer__X5_add : gCb yX5_add cX5_add 3 none wsX5_add (gR 2) (gR 3) 0 0 2 := ⟨rfl, rfl, rfl, by decide +kernel, by decide⟩
set_option maxRecDepth 20000 in
theorem in_X7_addSheet_X7 : ∀ w ∈ wsX70, w ∈ wsX7_addSheet := by decide +kernel
set_option maxRecDepth 20000 in
theorem fd_X7_addSheet_61 : gFd wsX7_addSheet RX7 61 6 RX7 TX7 9 8 := ⟨in_X7_addSheet_X7, rfl, by decide, by decide +kernel⟩
theorem cb_X7_addSheet__X7_sheetNumbered : gCb yX7_sheetNumbered cX7_sheetNumbered 2 (some (.object "ProofSheets$Sheet")) wsX7_sheetNumbered (gR 0) (gR 3) 0 0 1 := ⟨rfl, rfl, rfl, by decide +kernel, by decide⟩
theorem cb_X7_addSheet__X6_startFor : gCb yX6_startFor cX6_startFor 2 none wsX6_startFor (gR 1) (gR 3) 0 0 1 := ⟨rfl, rfl, rfl, by decide +kernel, by decide⟩
set_option maxRecDepth 20000 in
theorem fd_X7_addSheet_36 : gFd wsX7_addSheet RX7 36 6 RX7 TX7 9 4 := ⟨in_X7_addSheet_X7, rfl, by decide, by decide +kernel⟩
theorem cb_X7_addSheet__X5_add : gCb yX5_add cX5_add 3 none wsX5_add (gR 2) (gR 3) 0 0 2 := ⟨rfl, rfl, rfl, by decide +kernel, by decide⟩
set_option maxHeartbeats 4000000 in
set_option maxRecDepth 100000 in
/-- X6_startFor -/
theorem k6_startFor (l : Launch) (D : gD) (A : Nat → Prop) (hs : Nat) {G : gH} {a : Nat} {v : SH} (x : Int32) (h : gSheet D G a v) : gM l yX6_startFor wsX6_startFor (gR 1) D A hs 0 0 [.ref a, .int x] G (gPv fun G' => gSheet D G' a (x, 0, []) ∧ gOut a 3 G G') := by
  refine gM_intro (by decide) rfl rfl (Nat.le_of_ble_eq_true rfl) ?_
  intro p e s m args below meth c C
  have h1 := h.1
  refine gx_aload_n C dX6_startFor_0 rfl ?_
  refine gx_iload_n C dX6_startFor_1 rfl ?_
  refine gx_put C fd_X6_startFor_20 tyX6_ok nmX6 rfl rfl rfl (hG := h1) (hl := by exact Nat.le_of_ble_eq_true rfl) dX6_startFor_2 ?_
  have z1 := gSheet_put (x := x) (y := v.2.1) h
  refine gx_aload_n C dX6_startFor_5 rfl ?_
  refine gx_iconst (v := 0) C dX6_startFor_6 (by decide) ?_
  refine gx_put C fd_X6_startFor_24 tyX6_ok nmX6 rfl rfl rfl (hG := gU_s) (hl := by exact Nat.le_of_ble_eq_true rfl) dX6_startFor_7 ?_
  have z2 := gSheet_put (x := x) (y := 0) z1
  refine gx_aload_n C dX6_startFor_10 rfl ?_
  refine gx_get C fd_X6_startFor_14 (hG := gU_s) (hv := by rfl) dX6_startFor_11 ?_
  refine gx_iconst (v := 0) C dX6_startFor_14 (by decide) ?_
  refine gx_callV (ci := 4) (T := TX5) (N := 2) C (k5_cutTo l D A hs 0 z2.2) cb_X6_startFor__X5_cutTo gX6_startFor_X5_cutTo rfl (hG := (gRow_ob z2.2)) rfl rfl (Nat.le_of_ble_eq_true rfl) ⟨Nat.le_refl _, Nat.le_refl _⟩ dX6_startFor_15 (gx_kv fun G_15 h_15 => ?_)
  rw [lcut_0] at h_15
  refine gx_vret (mc := 0) C ?_ dX6_startFor_18
  exact ⟨rfl, gSheet_ms z2 h_15.1 h_15.2, gOut_tr (gOut_up (gOut_up gOut_rf (by omega)) (by omega)) (gOut_wd h_15.2 (by omega))⟩
set_option maxHeartbeats 4000000 in
set_option maxRecDepth 100000 in
/-- X6_copyFrom -/
theorem k6_copyFrom (l : Launch) (D : gD) (A : Nat → Prop) (hs : Nat) {G : gH} {a b : Nat} {v w : SH} (h : gSheet D G a v) (h2 : gSheet D G b w) (hd : b + 3 ≤ a ∨ a + 3 ≤ b) : gM l yX6_copyFrom wsX6_copyFrom (gR 1) D A hs 0 0 [.ref a, .ref b] G (gPv fun G' => gSheet D G' a w ∧ gOut a 3 G G') := by
  refine gM_intro (by decide) rfl rfl (Nat.le_of_ble_eq_true rfl) ?_
  intro p e s m args below meth c C
  have h1 := h.1
  refine gx_aload_n C dX6_copyFrom_0 rfl ?_
  refine gx_aload_n C dX6_copyFrom_1 rfl ?_
  refine gx_get C fd_X6_copyFrom_20 (hG := h2.1) (hv := by rfl) dX6_copyFrom_2 ?_
  refine gx_put C fd_X6_copyFrom_20 tyX6_ok nmX6 rfl rfl rfl (hG := h1) (hl := by exact Nat.le_of_ble_eq_true rfl) dX6_copyFrom_5 ?_
  have z1 := gSheet_put (x := w.1) (y := v.2.1) h
  have z1b := gSheet_fr h2 (gOut_up (a := a) (n := 3) gOut_rf (by omega) : gOut a 3 G (gU G a (.inr (5, [.ref (a + 1), .int w.1, .int v.2.1])))) (by omega)
  refine gx_aload_n C dX6_copyFrom_8 rfl ?_
  refine gx_aload_n C dX6_copyFrom_9 rfl ?_
  refine gx_get C fd_X6_copyFrom_24 (hG := z1b.1) (hv := by rfl) dX6_copyFrom_10 ?_
  refine gx_put C fd_X6_copyFrom_24 tyX6_ok nmX6 rfl rfl rfl (hG := gU_s) (hl := by exact Nat.le_of_ble_eq_true rfl) dX6_copyFrom_13 ?_
  have z2 := gSheet_put (x := w.1) (y := w.2.1) z1
  have o2 : gOut a 3 G (gU (gU G a (.inr (5, [.ref (a + 1), .int w.1, .int v.2.1]))) a (.inr (5, [.ref (a + 1), .int w.1, .int w.2.1]))) := gOut_up (gOut_up gOut_rf (by omega)) (by omega)
  have z2b := gSheet_fr h2 o2 (by omega)
  refine gx_aload_n C dX6_copyFrom_16 rfl ?_
  refine gx_get C fd_X6_copyFrom_14 (hG := gU_s) (hv := by rfl) dX6_copyFrom_17 ?_
  refine gx_aload_n C dX6_copyFrom_20 rfl ?_
  refine gx_get C fd_X6_copyFrom_14 (hG := z2b.1) (hv := by rfl) dX6_copyFrom_21 ?_
  refine gx_callV (ci := 4) (T := TX5) (N := 2) C (k5_copyFrom l D A hs z2.2 z2b.2 (by omega) (gRow_le z2b.2).1) cb_X6_copyFrom__X5_copyFrom gX6_copyFrom_X5_copyFrom rfl (hG := (gRow_ob z2.2)) rfl rfl (Nat.le_of_ble_eq_true rfl) ⟨Nat.le_refl _, Nat.le_refl _⟩ dX6_copyFrom_24 (gx_kv fun G_24 h_24 => ?_)
  refine gx_vret (mc := 0) C ?_ dX6_copyFrom_27
  have z3 := gSheet_ms z2 h_24.1 h_24.2
  exact ⟨rfl, z3, gOut_tr o2 (gOut_wd h_24.2 (by omega))⟩
set_option maxHeartbeats 4000000 in
set_option maxRecDepth 100000 in
/-- X7_sheetNumbered -/
theorem k7_sheetAt (l : Launch) (D : gD) (A : Nat → Prop) (hs : Nat) {G : gH} {S : Nat} {v : SV} (hv : gSv D G S v) (j : Nat) (hj : j < v.2.2.1.length) : gM l yX7_sheetNumbered wsX7_sheetNumbered (gR 0) D A hs 0 0 [.ref S, .int (nI j)] G (gPr fun w G' => w = .ref (S + 21 + 3 * j) ∧ G' = G) := by
  refine gM_intro (by decide) rfl rfl (Nat.le_of_ble_eq_true rfl) ?_
  intro p e s m args below meth c C
  have bn := gSv_n hv
  obtain ⟨f, hf1, hf2⟩ := hv.2.1
  refine gx_iload_n C dX7_sheetNumbered_0 rfl ?_
  refine gx_if_lt (tgt := 21) C dX7_sheetNumbered_1 (by decide) (fun c_1 => ?_) (fun c_1 => ?_)
  · exact absurd c_1 (nI_pos (by omega))
  · refine gx_iload_n C dX7_sheetNumbered_4 rfl ?_
    refine gx_aload_n C dX7_sheetNumbered_5 rfl ?_
    refine gx_get C fd_X7_sheetNumbered_61 (hG := hv.1) (hv := by rfl) dX7_sheetNumbered_6 ?_
    refine gx_icmp_ge (tgt := 21) C dX7_sheetNumbered_9 (by decide) (fun c_9 => ?_) (fun c_9 => ?_)
    · exact absurd c_9 (nI_ge hj (by omega))
    · refine gx_iload_n C dX7_sheetNumbered_12 rfl ?_
      refine gx_aload_n C dX7_sheetNumbered_13 rfl ?_
      refine gx_get C fd_X7_sheetNumbered_22 (hG := hv.1) (hv := by rfl) dX7_sheetNumbered_14 ?_
      refine gx_alen (t0 := 1) C (hG := hf1) (ht := by rfl) (hv := by rfl) dX7_sheetNumbered_17 ?_
      refine gx_icmp_lt (tgt := 23) C dX7_sheetNumbered_18 (by decide) (fun c_18 => ?_) (fun c_18 => ?_)
      · refine gx_aload_n C dX7_sheetNumbered_23 rfl ?_
        refine gx_get C fd_X7_sheetNumbered_22 (hG := hv.1) (hv := by rfl) dX7_sheetNumbered_24 ?_
        refine gx_iload_n C dX7_sheetNumbered_27 rfl ?_
        refine gx_aald (t0 := 1) C (hG := hf1) (ht := by rfl) (hin := vp_in_nI (by omega) (by omega)) dX7_sheetNumbered_28 ?_
        refine gx_aret (mc := 0) C (Or.inl ⟨_, rfl⟩) (Or.inr ⟨S + 21 + 3 * j, by rw [nI_clamp (by omega), hf2 j (by omega)]; rfl⟩) ?_ dX7_sheetNumbered_29
        refine ⟨_, rfl, Or.inr ⟨S + 21 + 3 * j, ?_⟩, ?_, rfl⟩ <;> (rw [nI_clamp (by omega), hf2 j (by omega)]; rfl)
      · exact absurd (nI_lt (a := j) (b := 8) (by omega) (by omega)) c_18
set_option maxHeartbeats 4000000 in
set_option maxRecDepth 100000 in
/-- X7_sheetNumbered -/
theorem k7_sheetNo (l : Launch) (D : gD) (A : Nat → Prop) (hs : Nat) {G : gH} {S : Nat} {v : SV} (hv : gSv D G S v) (i : Int32) (hi : ¬ gIn i v.2.2.1.length = true) : gM l yX7_sheetNumbered wsX7_sheetNumbered (gR 0) D A hs 0 0 [.ref S, .int i] G (gPr fun w G' => w = .null ∧ G' = G) := by
  refine gM_intro (by decide) rfl rfl (Nat.le_of_ble_eq_true rfl) ?_
  intro p e s m args below meth c C
  have bn := gSv_n hv
  obtain ⟨f, hf1, hf2⟩ := hv.2.1
  refine gx_iload_n C dX7_sheetNumbered_0 rfl ?_
  refine gx_if_lt (tgt := 21) C dX7_sheetNumbered_1 (by decide) (fun c_1 => ?_) (fun c_1 => ?_)
  · refine gx_null C dX7_sheetNumbered_21 ?_
    refine gx_aret (mc := 0) C (Or.inl ⟨_, rfl⟩) (Or.inl rfl) ?_ dX7_sheetNumbered_22
    exact ⟨_, rfl, Or.inl rfl, rfl, rfl⟩
  · refine gx_iload_n C dX7_sheetNumbered_4 rfl ?_
    refine gx_aload_n C dX7_sheetNumbered_5 rfl ?_
    refine gx_get C fd_X7_sheetNumbered_61 (hG := hv.1) (hv := by rfl) dX7_sheetNumbered_6 ?_
    refine gx_icmp_ge (tgt := 21) C dX7_sheetNumbered_9 (by decide) (fun c_9 => ?_) (fun c_9 => ?_)
    · refine gx_null C dX7_sheetNumbered_21 ?_
      refine gx_aret (mc := 0) C (Or.inl ⟨_, rfl⟩) (Or.inl rfl) ?_ dX7_sheetNumbered_22
      exact ⟨_, rfl, Or.inl rfl, rfl, rfl⟩
    · refine gx_iload_n C dX7_sheetNumbered_12 rfl ?_
      refine gx_aload_n C dX7_sheetNumbered_13 rfl ?_
      refine gx_get C fd_X7_sheetNumbered_22 (hG := hv.1) (hv := by rfl) dX7_sheetNumbered_14 ?_
      refine gx_alen (t0 := 1) C (hG := hf1) (ht := by rfl) (hv := by rfl) dX7_sheetNumbered_17 ?_
      refine gx_icmp_lt (tgt := 23) C dX7_sheetNumbered_18 (by decide) (fun c_18 => ?_) (fun c_18 => ?_)
      · exact absurd (gIn_t c_1 c_9 (by omega)) hi
      · refine gx_null C dX7_sheetNumbered_21 ?_
        refine gx_aret (mc := 0) C (Or.inl ⟨_, rfl⟩) (Or.inl rfl) ?_ dX7_sheetNumbered_22
        exact ⟨_, rfl, Or.inl rfl, rfl, rfl⟩
set_option maxHeartbeats 4000000 in
set_option maxRecDepth 100000 in
/-- X7_hasSheetOut -/
theorem k7_hasSheetOut (l : Launch) (D : gD) (A : Nat → Prop) (hs : Nat) {G : gH} {S : Nat} {v : SV} (hv : gSv D G S v) (z : Int32) : gM l yX7_hasSheetOut wsX7_hasSheetOut (gR 1) D A hs 0 0 [.ref S, .int z] G (gPi fun x G' => x = (if pBusy v.2.2.1 z then 1 else 0) ∧ G' = G) := by
  refine gM_intro (by decide) rfl rfl (Nat.le_of_ble_eq_true rfl) ?_
  intro p e s m args below meth c C
  have bn := gSv_n hv
  have hloop : ∀ (n j : Nat) (V3 : Option Value), v.2.2.1.length < j + n → j ≤ v.2.2.1.length → (∀ b, b < j → ¬ (decide ((v.2.2.1.getD b shD).1 = z) && decide ((v.2.2.1.getD b shD).2.1 = 0)) = true) → gX p l e (gR 1) s m args below meth c D A 4 hs 0 0 (MQ below (gQ D A hs 0 (gPi fun x G' => x = (if pBusy v.2.2.1 z then 1 else 0) ∧ G' = G)) args s 0 0 A) G [some (.ref S), some (.int z), some (.int (nI j)), V3] 2 [] := by
    intro n
    induction n with
    | zero => intro j V3 hm hj0 hI; exact absurd hm (by omega)
    | succ n ih =>
      intro j V3 hm hj0 hI
      refine gx_iload_n C dX7_hasSheetOut_2 rfl ?_
      refine gx_aload_n C dX7_hasSheetOut_3 rfl ?_
      refine gx_get C fd_X7_hasSheetOut_61 (hG := hv.1) (hv := by rfl) dX7_hasSheetOut_4 ?_
      refine gx_icmp_ge (tgt := 43) C dX7_hasSheetOut_7 (by decide) (fun c_7 => ?_) (fun c_7 => ?_)
      · have hj : ¬ j < v.2.2.1.length := fun q => nI_ge q (by omega) c_7
        refine gx_iconst (v := 0) C dX7_hasSheetOut_43 (by decide) ?_
        refine gx_zret (mc := 0) C rfl ?_ dX7_hasSheetOut_44
        have e : j = v.2.2.1.length := by omega
        subst e
        exact ⟨_, rfl, by rw [if_neg (by rw [show pBusy v.2.2.1 z = false from pAny_f hI]; decide)], rfl⟩
      · have hj : j < v.2.2.1.length := by
          rcases Nat.lt_or_ge (j) (v.2.2.1.length) with q | q
          · exact q
          · exact absurd (nI_le q (by omega)) c_7
        refine gx_aload_n C dX7_hasSheetOut_10 rfl ?_
        refine gx_iload_n C dX7_hasSheetOut_11 rfl ?_
        refine gx_callV (ci := 6) (T := TX7) (N := 9) C (k7_sheetAt l D A hs hv j hj) cb_X7_hasSheetOut__X7_sheetNumbered gX7_hasSheetOut_X7_sheetNumbered rfl (hG := hv.1) rfl rfl (Nat.le_of_ble_eq_true rfl) ⟨Nat.le_refl _, Nat.le_refl _⟩ dX7_hasSheetOut_12 (gx_kr fun w_12 G_12 hw_12 h_12 => ?_)
        obtain ⟨rfl, rfl⟩ := h_12
        have hsj := gSv_gd hv hj
        refine gx_astore_n C dX7_hasSheetOut_15 (by decide) ?_
        refine gx_aload_n C dX7_hasSheetOut_16 rfl ?_
        refine gx_ifnull C dX7_hasSheetOut_17 ?_
        refine gx_aload_n C dX7_hasSheetOut_20 rfl ?_
        refine gx_getN C fd_X7_hasSheetOut_81 (hG := hsj.1) (hv := by rfl) dX7_hasSheetOut_21 ?_
        refine gx_iload_n C dX7_hasSheetOut_24 rfl ?_
        refine gx_icmp_ne (tgt := 37) C dX7_hasSheetOut_25 (by decide) (fun c_25 => ?_) (fun c_25 => ?_)
        · first | refine gx_iincN C dX7_hasSheetOut_37 rfl (by decide) ?_ | refine gx_iinc1 C dX7_hasSheetOut_37 rfl (by decide) ?_
          refine gx_goto (tgt := 2) C dX7_hasSheetOut_40 (by decide) ?_
          refine ih (j + 1) _ (by omega) (by omega) (fun b hb => ?_)
          by_cases q : b = j
          · subst q; simp only [Bool.and_eq_true, decide_eq_true_eq]; rintro ⟨q1, q2⟩; first | exact c_25 q1 | exact c_32 q2
          · exact hI b (by omega)
        · refine gx_aload_n C dX7_hasSheetOut_28 rfl ?_
          refine gx_getN C fd_X7_hasSheetOut_84 (hG := hsj.1) (hv := by rfl) dX7_hasSheetOut_29 ?_
          refine gx_if_ne (tgt := 37) C dX7_hasSheetOut_32 (by decide) (fun c_32 => ?_) (fun c_32 => ?_)
          · first | refine gx_iincN C dX7_hasSheetOut_37 rfl (by decide) ?_ | refine gx_iinc1 C dX7_hasSheetOut_37 rfl (by decide) ?_
            refine gx_goto (tgt := 2) C dX7_hasSheetOut_40 (by decide) ?_
            refine ih (j + 1) _ (by omega) (by omega) (fun b hb => ?_)
            by_cases q : b = j
            · subst q; simp only [Bool.and_eq_true, decide_eq_true_eq]; rintro ⟨q1, q2⟩; first | exact c_25 q1 | exact c_32 q2
            · exact hI b (by omega)
          · refine gx_iconst (v := 1) C dX7_hasSheetOut_35 (by decide) ?_
            refine gx_zret (mc := 0) C rfl ?_ dX7_hasSheetOut_36
            have q : pBusy v.2.2.1 z = true := pAny_t hj (by simp only [Bool.and_eq_true, decide_eq_true_eq]; exact ⟨c_25, c_32⟩)
            exact ⟨_, rfl, by rw [if_pos q], rfl⟩
  refine gx_iconst (v := 0) C dX7_hasSheetOut_0 (by decide) ?_
  refine gx_istore_n C dX7_hasSheetOut_1 (by decide) ?_
  exact hloop (v.2.2.1.length + 1) 0 _ (by omega) (by omega) (fun b hb => absurd hb (by omega))
set_option maxHeartbeats 4000000 in
set_option maxRecDepth 100000 in
/-- X7_howManySheetsAre -/
theorem k7_howManySheetsAre (l : Launch) (D : gD) (A : Nat → Prop) (hs : Nat) {G : gH} {S : Nat} {v : SV} (hv : gSv D G S v) (z : Int32) : gM l yX7_howManySheetsAre wsX7_howManySheetsAre (gR 1) D A hs 0 0 [.ref S, .int z] G (gPi fun x G' => x = nI (pShN v.2.2.1 z v.2.2.1.length) ∧ G' = G) := by
  refine gM_intro (by decide) rfl rfl (Nat.le_of_ble_eq_true rfl) ?_
  intro p e s m args below meth c C
  have bn := gSv_n hv
  have hloop : ∀ (n j : Nat) (V4 : Option Value), v.2.2.1.length < j + n → j ≤ v.2.2.1.length → gX p l e (gR 1) s m args below meth c D A 5 hs 0 0 (MQ below (gQ D A hs 0 (gPi fun x G' => x = nI (pShN v.2.2.1 z v.2.2.1.length) ∧ G' = G)) args s 0 0 A) G [some (.ref S), some (.int z), some (.int (nI (pShN v.2.2.1 z j))), some (.int (nI j)), V4] 4 [] := by
    intro n
    induction n with
    | zero => intro j V4 hm hj0; exact absurd hm (by omega)
    | succ n ih =>
      intro j V4 hm hj0
      refine gx_iload_n C dX7_howManySheetsAre_4 rfl ?_
      refine gx_aload_n C dX7_howManySheetsAre_5 rfl ?_
      refine gx_get C fd_X7_howManySheetsAre_61 (hG := hv.1) (hv := by rfl) dX7_howManySheetsAre_6 ?_
      refine gx_icmp_ge (tgt := 42) C dX7_howManySheetsAre_9 (by decide) (fun c_9 => ?_) (fun c_9 => ?_)
      · have hj : ¬ j < v.2.2.1.length := fun q => nI_ge q (by omega) c_9
        refine gx_iload_n C dX7_howManySheetsAre_42 rfl ?_
        refine gx_zret (mc := 0) C rfl ?_ dX7_howManySheetsAre_43
        have e : j = v.2.2.1.length := by omega
        subst e
        exact ⟨_, rfl, rfl, rfl⟩
      · have hj : j < v.2.2.1.length := by
          rcases Nat.lt_or_ge (j) (v.2.2.1.length) with q | q
          · exact q
          · exact absurd (nI_le q (by omega)) c_9
        refine gx_aload_n C dX7_howManySheetsAre_12 rfl ?_
        refine gx_iload_n C dX7_howManySheetsAre_13 rfl ?_
        refine gx_callV (ci := 6) (T := TX7) (N := 9) C (k7_sheetAt l D A hs hv j hj) cb_X7_howManySheetsAre__X7_sheetNumbered gX7_howManySheetsAre_X7_sheetNumbered rfl (hG := hv.1) rfl rfl (Nat.le_of_ble_eq_true rfl) ⟨Nat.le_refl _, Nat.le_refl _⟩ dX7_howManySheetsAre_14 (gx_kr fun w_14 G_14 hw_14 h_14 => ?_)
        obtain ⟨rfl, rfl⟩ := h_14
        have hsj := gSv_gd hv hj
        refine gx_astore C dX7_howManySheetsAre_17 (by decide) ?_
        refine gx_aload C dX7_howManySheetsAre_19 rfl ?_
        refine gx_ifnull C dX7_howManySheetsAre_21 ?_
        refine gx_aload C dX7_howManySheetsAre_24 rfl ?_
        refine gx_getN C fd_X7_howManySheetsAre_84 (hG := hsj.1) (hv := by rfl) dX7_howManySheetsAre_26 ?_
        refine gx_iload_n C dX7_howManySheetsAre_29 rfl ?_
        refine gx_icmp_ne (tgt := 36) C dX7_howManySheetsAre_30 (by decide) (fun c_30 => ?_) (fun c_30 => ?_)
        · have hx : pShN v.2.2.1 z (j + 1) = pShN v.2.2.1 z j := (pC_n (f := fun i => decide ((v.2.2.1.getD i shD).2.1 = z)) (n := j) (by simpa using c_30)).symm
          first | refine gx_iincN C dX7_howManySheetsAre_36 rfl (by decide) ?_ | refine gx_iinc1 C dX7_howManySheetsAre_36 rfl (by decide) ?_
          refine gx_goto (tgt := 4) C dX7_howManySheetsAre_39 (by decide) ?_
          refine gx_V ?_ (ih (j + 1) (some (.ref (S + 21 + 3 * j))) (by omega) (by omega))
          rw [hx]
          rfl
        · have hx : pShN v.2.2.1 z (j + 1) = pShN v.2.2.1 z j + 1 := (pC_s (f := fun i => decide ((v.2.2.1.getD i shD).2.1 = z)) (n := j) (by simpa using c_30)).symm
          first | refine gx_iincN C dX7_howManySheetsAre_33 rfl (by decide) ?_ | refine gx_iinc1 C dX7_howManySheetsAre_33 rfl (by decide) ?_
          first | refine gx_iincN C dX7_howManySheetsAre_36 rfl (by decide) ?_ | refine gx_iinc1 C dX7_howManySheetsAre_36 rfl (by decide) ?_
          refine gx_goto (tgt := 4) C dX7_howManySheetsAre_39 (by decide) ?_
          refine gx_V ?_ (ih (j + 1) (some (.ref (S + 21 + 3 * j))) (by omega) (by omega))
          rw [hx]
          rfl
  refine gx_iconst (v := 0) C dX7_howManySheetsAre_0 (by decide) ?_
  refine gx_istore_n C dX7_howManySheetsAre_1 (by decide) ?_
  refine gx_iconst (v := 0) C dX7_howManySheetsAre_2 (by decide) ?_
  refine gx_istore_n C dX7_howManySheetsAre_3 (by decide) ?_
  exact hloop (v.2.2.1.length + 1) 0 _ (by omega) (by omega)
set_option maxHeartbeats 4000000 in
set_option maxRecDepth 100000 in
/-- X7_marksOnSheetsThatAre -/
theorem k7_marksOn (l : Launch) (D : gD) (A : Nat → Prop) (hs : Nat) {G : gH} {S : Nat} {v : SV} (hv : gSv D G S v) (z : Int32) : gM l yX7_marksOnSheetsThatAre wsX7_marksOnSheetsThatAre (gR 1) D A hs 0 0 [.ref S, .int z] G (gPi fun x G' => x = nI (pMkS v.2.2.1 z v.2.2.1.length) ∧ G' = G) := by
  refine gM_intro (by decide) rfl rfl (Nat.le_of_ble_eq_true rfl) ?_
  intro p e s m args below meth c C
  have bn := gSv_n hv
  have hloop : ∀ (n j : Nat) (V4 : Option Value), v.2.2.1.length < j + n → j ≤ v.2.2.1.length → gX p l e (gR 1) s m args below meth c D A 5 hs 0 0 (MQ below (gQ D A hs 0 (gPi fun x G' => x = nI (pMkS v.2.2.1 z v.2.2.1.length) ∧ G' = G)) args s 0 0 A) G [some (.ref S), some (.int z), some (.int (nI (pMkS v.2.2.1 z j))), some (.int (nI j)), V4] 4 [] := by
    intro n
    induction n with
    | zero => intro j V4 hm hj0; exact absurd hm (by omega)
    | succ n ih =>
      intro j V4 hm hj0
      refine gx_iload_n C dX7_marksOnSheetsThatAre_4 rfl ?_
      refine gx_aload_n C dX7_marksOnSheetsThatAre_5 rfl ?_
      refine gx_get C fd_X7_marksOnSheetsThatAre_61 (hG := hv.1) (hv := by rfl) dX7_marksOnSheetsThatAre_6 ?_
      refine gx_icmp_ge (tgt := 50) C dX7_marksOnSheetsThatAre_9 (by decide) (fun c_9 => ?_) (fun c_9 => ?_)
      · have hj : ¬ j < v.2.2.1.length := fun q => nI_ge q (by omega) c_9
        refine gx_iload_n C dX7_marksOnSheetsThatAre_50 rfl ?_
        refine gx_zret (mc := 0) C rfl ?_ dX7_marksOnSheetsThatAre_51
        have e : j = v.2.2.1.length := by omega
        subst e
        exact ⟨_, rfl, rfl, rfl⟩
      · have hj : j < v.2.2.1.length := by
          rcases Nat.lt_or_ge (j) (v.2.2.1.length) with q | q
          · exact q
          · exact absurd (nI_le q (by omega)) c_9
        refine gx_aload_n C dX7_marksOnSheetsThatAre_12 rfl ?_
        refine gx_iload_n C dX7_marksOnSheetsThatAre_13 rfl ?_
        refine gx_callV (ci := 6) (T := TX7) (N := 9) C (k7_sheetAt l D A hs hv j hj) cb_X7_marksOnSheetsThatAre__X7_sheetNumbered gX7_marksOnSheetsThatAre_X7_sheetNumbered rfl (hG := hv.1) rfl rfl (Nat.le_of_ble_eq_true rfl) ⟨Nat.le_refl _, Nat.le_refl _⟩ dX7_marksOnSheetsThatAre_14 (gx_kr fun w_14 G_14 hw_14 h_14 => ?_)
        obtain ⟨rfl, rfl⟩ := h_14
        have hsj := gSv_gd hv hj
        refine gx_astore C dX7_marksOnSheetsThatAre_17 (by decide) ?_
        refine gx_aload C dX7_marksOnSheetsThatAre_19 rfl ?_
        refine gx_ifnull C dX7_marksOnSheetsThatAre_21 ?_
        refine gx_aload C dX7_marksOnSheetsThatAre_24 rfl ?_
        refine gx_getN C fd_X7_marksOnSheetsThatAre_84 (hG := hsj.1) (hv := by rfl) dX7_marksOnSheetsThatAre_26 ?_
        refine gx_iload_n C dX7_marksOnSheetsThatAre_29 rfl ?_
        refine gx_icmp_ne (tgt := 44) C dX7_marksOnSheetsThatAre_30 (by decide) (fun c_30 => ?_) (fun c_30 => ?_)
        · have hx : pMkS v.2.2.1 z (j + 1) = pMkS v.2.2.1 z j := by rw [pMkS, if_neg c_30]; rfl
          first | refine gx_iincN C dX7_marksOnSheetsThatAre_44 rfl (by decide) ?_ | refine gx_iinc1 C dX7_marksOnSheetsThatAre_44 rfl (by decide) ?_
          refine gx_goto (tgt := 4) C dX7_marksOnSheetsThatAre_47 (by decide) ?_
          refine gx_V ?_ (ih (j + 1) (some (.ref (S + 21 + 3 * j))) (by omega) (by omega))
          rw [hx]
          first | rfl | (rw [nI_add (pMkS v.2.2.1 z j)]; rfl)
        · have hx : pMkS v.2.2.1 z (j + 1) = pMkS v.2.2.1 z j + (v.2.2.1.getD j shD).2.2.length := by rw [pMkS, if_pos c_30]
          refine gx_iload_n C dX7_marksOnSheetsThatAre_33 rfl ?_
          refine gx_aload C dX7_marksOnSheetsThatAre_34 rfl ?_
          refine gx_getN C fd_X7_marksOnSheetsThatAre_87 (hG := hsj.1) (hv := by rfl) dX7_marksOnSheetsThatAre_36 ?_
          refine gx_callV (ci := 4) (T := TX5) (N := 2) C (k5_used l D A hs hsj.2) cb_X7_marksOnSheetsThatAre__X5_used gX7_marksOnSheetsThatAre_X5_used rfl (hG := (gRow_ob hsj.2)) rfl rfl (Nat.le_of_ble_eq_true rfl) ⟨Nat.le_refl _, Nat.le_refl _⟩ dX7_marksOnSheetsThatAre_39 (gx_ki fun r_39 G_39 h_39 => ?_)
          obtain ⟨rfl, rfl⟩ := h_39
          refine gx_iadd C dX7_marksOnSheetsThatAre_42 ?_
          refine gx_istore_n C dX7_marksOnSheetsThatAre_43 (by decide) ?_
          first | refine gx_iincN C dX7_marksOnSheetsThatAre_44 rfl (by decide) ?_ | refine gx_iinc1 C dX7_marksOnSheetsThatAre_44 rfl (by decide) ?_
          refine gx_goto (tgt := 4) C dX7_marksOnSheetsThatAre_47 (by decide) ?_
          refine gx_V ?_ (ih (j + 1) (some (.ref (S + 21 + 3 * j))) (by omega) (by omega))
          rw [hx]
          first | rfl | (rw [nI_add (pMkS v.2.2.1 z j)]; rfl)
  refine gx_iconst (v := 0) C dX7_marksOnSheetsThatAre_0 (by decide) ?_
  refine gx_istore_n C dX7_marksOnSheetsThatAre_1 (by decide) ?_
  refine gx_iconst (v := 0) C dX7_marksOnSheetsThatAre_2 (by decide) ?_
  refine gx_istore_n C dX7_marksOnSheetsThatAre_3 (by decide) ?_
  exact hloop (v.2.2.1.length + 1) 0 _ (by omega) (by omega)
set_option maxHeartbeats 4000000 in
set_option maxRecDepth 100000 in
/-- X7_account -/
theorem k7_account (l : Launch) (D : gD) (A : Nat → Prop) (hs : Nat) {G : gH} {S : Nat} {v : SV} (hv : gSv D G S v) (z : Int32) : gM l yX7_account wsX7_account (gR 3) D A hs 0 0 [.ref S, .int z] G (gPi fun x G' => x = (if z = 5 then nI (pMkS v.2.2.1 0 v.2.2.1.length + pMkS v.2.2.1 1 v.2.2.1.length + pMkS v.2.2.1 2 v.2.2.1.length) else if z = 6 then nI (pOpenN v.2.2.2.1.2.1 v.2.2.2.1.2.1.length) else lget v.2.2.2.2.1 z) ∧ G' = G) := by
  refine gM_intro (by decide) rfl rfl (Nat.le_of_ble_eq_true rfl) ?_
  intro p e s m args below meth c C
  have bn := gSv_n hv
  refine gx_iload_n C dX7_account_0 rfl ?_
  refine gx_iconst (v := 5) C dX7_account_1 (by decide) ?_
  refine gx_icmp_ne (tgt := 23) C dX7_account_2 (by decide) (fun c_2 => ?_) (fun c_2 => ?_)
  · refine gx_iload_n C dX7_account_23 rfl ?_
    refine gx_bipush (v := 6) C dX7_account_24 (by decide) ?_
    refine gx_icmp_ne (tgt := 39) C dX7_account_26 (by decide) (fun c_26 => ?_) (fun c_26 => ?_)
    · refine gx_aload_n C dX7_account_39 rfl ?_
      refine gx_get C fd_X7_account_33 (hG := hv.1) (hv := by rfl) dX7_account_40 ?_
      refine gx_iload_n C dX7_account_43 rfl ?_
      refine gx_callV (ci := 4) (T := TX5) (N := 2) C (k5_get l D A hs z (gSv_ac hv).1) cb_X7_account__X5_get gX7_account_X5_get rfl (hG := (gRow_ob (gSv_ac hv).1)) rfl rfl (Nat.le_of_ble_eq_true rfl) ⟨Nat.le_refl _, Nat.le_refl _⟩ dX7_account_44 (gx_ki fun r_44 G_44 h_44 => ?_)
      obtain ⟨rfl, rfl⟩ := h_44
      refine gx_zret (mc := 0) C rfl ?_ dX7_account_47
      first
        | exact ⟨_, rfl, by rw [if_neg c_2, if_neg c_26], rfl⟩
        | exact ⟨_, rfl, by rw [if_neg c_2, if_pos c_26], rfl⟩
    · refine gx_aload_n C dX7_account_29 rfl ?_
      refine gx_get C fd_X7_account_29 (hG := hv.1) (hv := by rfl) dX7_account_30 ?_
      refine gx_callV (ci := 1) (T := TX2) (N := 4) C (k2_howManyAreOpen l D A hs (gSv_li hv)) cb_X7_account__X2_howManyAreOpen gX7_account_X2_howManyAreOpen rfl (hG := (gSv_li hv).1) rfl rfl (Nat.le_of_ble_eq_true rfl) ⟨Nat.le_refl _, Nat.le_refl _⟩ dX7_account_33 (gx_ki fun r_33 G_33 h_33 => ?_)
      obtain ⟨rfl, rfl⟩ := h_33
      refine gx_goto (tgt := 47) C dX7_account_36 (by decide) ?_
      refine gx_zret (mc := 0) C rfl ?_ dX7_account_47
      first
        | exact ⟨_, rfl, by rw [if_neg c_2, if_neg c_26], rfl⟩
        | exact ⟨_, rfl, by rw [if_neg c_2, if_pos c_26], rfl⟩
  · refine gx_aload_n C dX7_account_5 rfl ?_
    refine gx_iconst (v := 0) C dX7_account_6 (by decide) ?_
    refine gx_callV (ci := 6) (T := TX7) (N := 9) C (k7_marksOn l D A hs hv 0) cb_X7_account__X7_marksOnSheetsThatAre gX7_account_X7_marksOnSheetsThatAre rfl (hG := hv.1) rfl rfl (Nat.le_of_ble_eq_true rfl) ⟨Nat.le_refl _, Nat.le_refl _⟩ dX7_account_7 (gx_ki fun r_7 G_7 h_7 => ?_)
    obtain ⟨rfl, rfl⟩ := h_7
    refine gx_aload_n C dX7_account_10 rfl ?_
    refine gx_iconst (v := 1) C dX7_account_11 (by decide) ?_
    refine gx_callV (ci := 6) (T := TX7) (N := 9) C (k7_marksOn l D A hs hv 1) cb_X7_account__X7_marksOnSheetsThatAre gX7_account_X7_marksOnSheetsThatAre rfl (hG := hv.1) rfl rfl (Nat.le_of_ble_eq_true rfl) ⟨Nat.le_refl _, Nat.le_refl _⟩ dX7_account_12 (gx_ki fun r_12 G_12 h_12 => ?_)
    obtain ⟨rfl, rfl⟩ := h_12
    refine gx_iadd C dX7_account_15 ?_
    refine gx_aload_n C dX7_account_16 rfl ?_
    refine gx_iconst (v := 2) C dX7_account_17 (by decide) ?_
    refine gx_callV (ci := 6) (T := TX7) (N := 9) C (k7_marksOn l D A hs hv 2) cb_X7_account__X7_marksOnSheetsThatAre gX7_account_X7_marksOnSheetsThatAre rfl (hG := hv.1) rfl rfl (Nat.le_of_ble_eq_true rfl) ⟨Nat.le_refl _, Nat.le_refl _⟩ dX7_account_18 (gx_ki fun r_18 G_18 h_18 => ?_)
    obtain ⟨rfl, rfl⟩ := h_18
    refine gx_iadd C dX7_account_21 ?_
    refine gx_zret (mc := 0) C rfl ?_ dX7_account_22
    exact ⟨_, rfl, by rw [if_pos c_2, nI_add, nI_add], rfl⟩
set_option maxHeartbeats 4000000 in
set_option maxRecDepth 100000 in
/-- X7_canBeFinished -/
theorem k7_canBeFinished (l : Launch) (D : gD) (A : Nat → Prop) (hs : Nat) {G : gH} {S : Nat} {v : SV} (hv : gSv D G S v) : gM l yX7_canBeFinished wsX7_canBeFinished (gR 3) D A hs 0 0 [.ref S] G (gPi fun x G' => x = (if ¬ v.2.1 = 0 ∧ pShN v.2.2.1 0 v.2.2.1.length = 0 ∧ pShN v.2.2.1 1 v.2.2.1.length = 0 ∧ pOpenN v.2.2.2.1.2.1 v.2.2.2.1.2.1.length = 0 then (1 : Int32) else 0) ∧ G' = G) := by
  refine gM_intro (by decide) rfl rfl (Nat.le_of_ble_eq_true rfl) ?_
  intro p e s m args below meth c C
  have bn := gSv_n hv
  have b1 : pShN v.2.2.1 0 v.2.2.1.length ≤ v.2.2.1.length := pC_le
  have b2 : pShN v.2.2.1 1 v.2.2.1.length ≤ v.2.2.1.length := pC_le
  have b4 := (gRow_le (gSv_li hv).2.2.1).1
  have b3 : pOpenN v.2.2.2.1.2.1 v.2.2.2.1.2.1.length ≤ v.2.2.2.1.2.1.length := pC_le
  refine gx_aload_n C dX7_canBeFinished_0 rfl ?_
  refine gx_get C fd_X7_canBeFinished_57 (hG := hv.1) (hv := by rfl) dX7_canBeFinished_1 ?_
  refine gx_if_eq (tgt := 37) C dX7_canBeFinished_4 (by decide) (fun c_4 => ?_) (fun c_4 => ?_)
  · have hx : (if ¬ v.2.1 = 0 ∧ pShN v.2.2.1 0 v.2.2.1.length = 0 ∧ pShN v.2.2.1 1 v.2.2.1.length = 0 ∧ pOpenN v.2.2.2.1.2.1 v.2.2.2.1.2.1.length = 0 then (1 : Int32) else 0) = 0 := if_neg (fun q => q.1 c_4)
    refine gx_iconst (v := 0) C dX7_canBeFinished_37 (by decide) ?_
    refine gx_zret (mc := 0) C rfl ?_ dX7_canBeFinished_38
    exact ⟨_, rfl, hx.symm, rfl⟩
  · refine gx_aload_n C dX7_canBeFinished_7 rfl ?_
    refine gx_iconst (v := 0) C dX7_canBeFinished_8 (by decide) ?_
    refine gx_callV (ci := 6) (T := TX7) (N := 9) C (k7_howManySheetsAre l D A hs hv 0) cb_X7_canBeFinished__X7_howManySheetsAre gX7_canBeFinished_X7_howManySheetsAre rfl (hG := hv.1) rfl rfl (Nat.le_of_ble_eq_true rfl) ⟨Nat.le_refl _, Nat.le_refl _⟩ dX7_canBeFinished_9 (gx_ki fun r_9 G_9 h_9 => ?_)
    obtain ⟨rfl, rfl⟩ := h_9
    refine gx_if_ne (tgt := 37) C dX7_canBeFinished_12 (by decide) (fun c_12 => ?_) (fun c_12 => ?_)
    · have hx : (if ¬ v.2.1 = 0 ∧ pShN v.2.2.1 0 v.2.2.1.length = 0 ∧ pShN v.2.2.1 1 v.2.2.1.length = 0 ∧ pOpenN v.2.2.2.1.2.1 v.2.2.2.1.2.1.length = 0 then (1 : Int32) else 0) = 0 := if_neg (fun q => c_12 (by rw [q.2.1]; rfl))
      refine gx_iconst (v := 0) C dX7_canBeFinished_37 (by decide) ?_
      refine gx_zret (mc := 0) C rfl ?_ dX7_canBeFinished_38
      exact ⟨_, rfl, hx.symm, rfl⟩
    · refine gx_aload_n C dX7_canBeFinished_15 rfl ?_
      refine gx_iconst (v := 1) C dX7_canBeFinished_16 (by decide) ?_
      refine gx_callV (ci := 6) (T := TX7) (N := 9) C (k7_howManySheetsAre l D A hs hv 1) cb_X7_canBeFinished__X7_howManySheetsAre gX7_canBeFinished_X7_howManySheetsAre rfl (hG := hv.1) rfl rfl (Nat.le_of_ble_eq_true rfl) ⟨Nat.le_refl _, Nat.le_refl _⟩ dX7_canBeFinished_17 (gx_ki fun r_17 G_17 h_17 => ?_)
      obtain ⟨rfl, rfl⟩ := h_17
      refine gx_if_ne (tgt := 37) C dX7_canBeFinished_20 (by decide) (fun c_20 => ?_) (fun c_20 => ?_)
      · have hx : (if ¬ v.2.1 = 0 ∧ pShN v.2.2.1 0 v.2.2.1.length = 0 ∧ pShN v.2.2.1 1 v.2.2.1.length = 0 ∧ pOpenN v.2.2.2.1.2.1 v.2.2.2.1.2.1.length = 0 then (1 : Int32) else 0) = 0 := if_neg (fun q => c_20 (by rw [q.2.2.1]; rfl))
        refine gx_iconst (v := 0) C dX7_canBeFinished_37 (by decide) ?_
        refine gx_zret (mc := 0) C rfl ?_ dX7_canBeFinished_38
        exact ⟨_, rfl, hx.symm, rfl⟩
      · refine gx_aload_n C dX7_canBeFinished_23 rfl ?_
        refine gx_get C fd_X7_canBeFinished_29 (hG := hv.1) (hv := by rfl) dX7_canBeFinished_24 ?_
        refine gx_callV (ci := 1) (T := TX2) (N := 4) C (k2_howManyAreOpen l D A hs (gSv_li hv)) cb_X7_canBeFinished__X2_howManyAreOpen gX7_canBeFinished_X2_howManyAreOpen rfl (hG := (gSv_li hv).1) rfl rfl (Nat.le_of_ble_eq_true rfl) ⟨Nat.le_refl _, Nat.le_refl _⟩ dX7_canBeFinished_27 (gx_ki fun r_27 G_27 h_27 => ?_)
        obtain ⟨rfl, rfl⟩ := h_27
        refine gx_if_ne (tgt := 37) C dX7_canBeFinished_30 (by decide) (fun c_30 => ?_) (fun c_30 => ?_)
        · have hx : (if ¬ v.2.1 = 0 ∧ pShN v.2.2.1 0 v.2.2.1.length = 0 ∧ pShN v.2.2.1 1 v.2.2.1.length = 0 ∧ pOpenN v.2.2.2.1.2.1 v.2.2.2.1.2.1.length = 0 then (1 : Int32) else 0) = 0 := if_neg (fun q => c_30 (by rw [q.2.2.2]; rfl))
          refine gx_iconst (v := 0) C dX7_canBeFinished_37 (by decide) ?_
          refine gx_zret (mc := 0) C rfl ?_ dX7_canBeFinished_38
          exact ⟨_, rfl, hx.symm, rfl⟩
        · have hx : (if ¬ v.2.1 = 0 ∧ pShN v.2.2.1 0 v.2.2.1.length = 0 ∧ pShN v.2.2.1 1 v.2.2.1.length = 0 ∧ pOpenN v.2.2.2.1.2.1 v.2.2.2.1.2.1.length = 0 then (1 : Int32) else 0) = 1 := if_pos ⟨c_4, (nI_eq (b := 0) (by omega) (by omega)).mp c_12, (nI_eq (b := 0) (by omega) (by omega)).mp c_20, (nI_eq (b := 0) (by omega) (by omega)).mp c_30⟩
          refine gx_iconst (v := 1) C dX7_canBeFinished_33 (by decide) ?_
          refine gx_goto (tgt := 38) C dX7_canBeFinished_34 (by decide) ?_
          refine gx_zret (mc := 0) C rfl ?_ dX7_canBeFinished_38
          exact ⟨_, rfl, hx.symm, rfl⟩
set_option maxHeartbeats 4000000 in
set_option maxRecDepth 100000 in
/-- X7_keepAnswer -/
theorem k7_keepAnswer (l : Launch) (D : gD) (A : Nat → Prop) (hs : Nat) {G : gH} {S : Nat} {v : SV} (hv : gSv D G S v) (k z : Int32) : gM l yX7_keepAnswer wsX7_keepAnswer (gR 3) D A hs 0 0 [.ref S, .int k, .int z] G (gPv fun G' => gSv D G' S (v.1, v.2.1, v.2.2.1, (v.2.2.2.1.1, lset v.2.2.2.1.2.1 k z, v.2.2.2.1.2.2), (lset v.2.2.2.2.1 (if z = 1 then 2 else 3) (lget v.2.2.2.2.1 (if z = 1 then 2 else 3) + 1), v.2.2.2.2.2)) ∧ gOut S 45 G G') := by
  refine gM_intro (by decide) rfl rfl (Nat.le_of_ble_eq_true rfl) ?_
  intro p e s m args below meth c C
  have bn := gSv_n hv
  refine gx_aload_n C dX7_keepAnswer_0 rfl ?_
  refine gx_get C fd_X7_keepAnswer_29 (hG := hv.1) (hv := by rfl) dX7_keepAnswer_1 ?_
  refine gx_getN C fd_X7_keepAnswer_111 (hG := (gSv_li hv).1) (hv := by rfl) dX7_keepAnswer_4 ?_
  refine gx_iload_n C dX7_keepAnswer_7 rfl ?_
  refine gx_iload_n C dX7_keepAnswer_8 rfl ?_
  refine gx_callV (ci := 4) (T := TX5) (N := 2) C (k5_set l D A hs k z (gSv_li hv).2.2.1) cb_X7_keepAnswer__X5_set gX7_keepAnswer_X5_set rfl (hG := (gRow_ob (gSv_li hv).2.2.1)) rfl rfl (Nat.le_of_ble_eq_true rfl) ⟨Nat.le_refl _, Nat.le_refl _⟩ dX7_keepAnswer_9 (gx_kv fun G_9 h_9 => ?_)
  have s1 := gSv_li' hv (gList_1 (gSv_li hv) h_9.1 h_9.2) (gOut_wd h_9.2 (by omega))
  refine gx_aload_n C dX7_keepAnswer_12 rfl ?_
  refine gx_get C fd_X7_keepAnswer_33 (hG := s1.1) (hv := by rfl) dX7_keepAnswer_13 ?_
  refine gx_iload_n C dX7_keepAnswer_16 rfl ?_
  refine gx_iconst (v := 1) C dX7_keepAnswer_17 (by decide) ?_
  refine gx_icmp_ne (tgt := 25) C dX7_keepAnswer_18 (by decide) (fun c_18 => ?_) (fun c_18 => ?_)
  · have ez : (if z = 1 then (2 : Int32) else 3) = 3 := if_neg c_18
    refine gx_iconst (v := 3) C dX7_keepAnswer_25 (by decide) ?_
    refine gx_top ez.symm ?_
    refine gx_iconst (v := 1) C dX7_keepAnswer_26 (by decide) ?_
    refine gx_callV (ci := 4) (T := TX5) (N := 2) C (k5_add l D A hs (if z = 1 then 2 else 3) 1 (gSv_ac s1).1) cb_X7_keepAnswer__X5_add gX7_keepAnswer_X5_add rfl (hG := (gRow_ob (gSv_ac s1).1)) rfl rfl (Nat.le_of_ble_eq_true rfl) ⟨Nat.le_refl _, Nat.le_refl _⟩ dX7_keepAnswer_27 (gx_kv fun G_27 h_27 => ?_)
    refine gx_vret (mc := 0) C ?_ dX7_keepAnswer_30
    have s2 := gSv_ac' s1 (gAcc_0 (gSv_ac s1) h_27.1 h_27.2) (gOut_wd h_27.2 (by omega))
    exact ⟨rfl, s2, gOut_tr (gOut_wd h_9.2 (by omega)) (gOut_wd h_27.2 (by omega))⟩
  · have ez : (if z = 1 then (2 : Int32) else 3) = 2 := if_pos c_18
    refine gx_iconst (v := 2) C dX7_keepAnswer_21 (by decide) ?_
    refine gx_goto (tgt := 26) C dX7_keepAnswer_22 (by decide) ?_
    refine gx_top ez.symm ?_
    refine gx_iconst (v := 1) C dX7_keepAnswer_26 (by decide) ?_
    refine gx_callV (ci := 4) (T := TX5) (N := 2) C (k5_add l D A hs (if z = 1 then 2 else 3) 1 (gSv_ac s1).1) cb_X7_keepAnswer__X5_add gX7_keepAnswer_X5_add rfl (hG := (gRow_ob (gSv_ac s1).1)) rfl rfl (Nat.le_of_ble_eq_true rfl) ⟨Nat.le_refl _, Nat.le_refl _⟩ dX7_keepAnswer_27 (gx_kv fun G_27 h_27 => ?_)
    refine gx_vret (mc := 0) C ?_ dX7_keepAnswer_30
    have s2 := gSv_ac' s1 (gAcc_0 (gSv_ac s1) h_27.1 h_27.2) (gOut_wd h_27.2 (by omega))
    exact ⟨rfl, s2, gOut_tr (gOut_wd h_9.2 (by omega)) (gOut_wd h_27.2 (by omega))⟩
set_option maxHeartbeats 4000000 in
set_option maxRecDepth 100000 in
/-- X7_addSheet -/
theorem k7_addSheet (l : Launch) (D : gD) (A : Nat → Prop) (hs : Nat) {G : gH} {S : Nat} {v : SV} (hv : gSv D G S v) (z : Int32) (h8 : v.2.2.1.length < 8) : gM l yX7_addSheet wsX7_addSheet (gR 3) D A hs 0 0 [.ref S, .int z] G (gPi fun x G' => x = nI v.2.2.1.length ∧ gSv D G' S (v.1, v.2.1, v.2.2.1 ++ [(z, 0, [])], v.2.2.2.1, (v.2.2.2.2.1, lset v.2.2.2.2.2.1 z (lget v.2.2.2.2.2.1 z + 1), v.2.2.2.2.2.2)) ∧ gOut S 45 G G') := by
  refine gM_intro (by decide) rfl rfl (Nat.le_of_ble_eq_true rfl) ?_
  intro p e s m args below meth c C
  have bn := gSv_n hv
  obtain ⟨c0, hc0⟩ := gShs_push (gSv_sh hv) h8
  have el : (v.2.2.1 ++ [c0]).length = v.2.2.1.length + 1 := by simp
  have s1 := gSv_sc' hv hc0
  rw [el] at s1
  have e1 : (nI (v.2.2.1.length + 1) - 1 : Int32) = nI v.2.2.1.length := gz_pred (n := v.2.2.1.length + 1) (by omega)
  refine gx_aload_n C dX7_addSheet_0 rfl ?_
  refine gx_dup C dX7_addSheet_1 rfl ?_
  refine gx_get C fd_X7_addSheet_61 (hG := hv.1) (hv := by rfl) dX7_addSheet_2 ?_
  refine gx_iconst (v := 1) C dX7_addSheet_5 (by decide) ?_
  refine gx_iadd C dX7_addSheet_6 ?_
  refine gx_top (nI_1 _) ?_
  refine gx_put C fd_X7_addSheet_61 tyX7_ok nmX7 rfl rfl rfl (hG := hv.1) (hl := by exact Nat.le_of_ble_eq_true rfl) dX7_addSheet_7 ?_
  refine gx_aload_n C dX7_addSheet_10 rfl ?_
  refine gx_aload_n C dX7_addSheet_11 rfl ?_
  refine gx_get C fd_X7_addSheet_61 (hG := gU_s) (hv := by rfl) dX7_addSheet_12 ?_
  refine gx_iconst (v := 1) C dX7_addSheet_15 (by decide) ?_
  refine gx_isub C dX7_addSheet_16 ?_
  refine gx_top e1 ?_
  refine gx_callV (ci := 6) (T := TX7) (N := 9) C (k7_sheetAt l D A hs s1 v.2.2.1.length (by rw [el]; omega)) cb_X7_addSheet__X7_sheetNumbered gX7_addSheet_X7_sheetNumbered rfl (hG := gU_s) rfl rfl (Nat.le_of_ble_eq_true rfl) ⟨Nat.le_refl _, Nat.le_refl _⟩ dX7_addSheet_17 (gx_kr fun w_17 G_17 hw_17 h_17 => ?_)
  obtain ⟨rfl, rfl⟩ := h_17
  have hsj := gSv_gd s1 (i := v.2.2.1.length) (by rw [el]; omega)
  refine gx_astore_n C dX7_addSheet_20 (by decide) ?_
  refine gx_aload_n C dX7_addSheet_21 rfl ?_
  refine gx_ifnull C dX7_addSheet_22 ?_
  refine gx_aload_n C dX7_addSheet_25 rfl ?_
  refine gx_iload_n C dX7_addSheet_26 rfl ?_
  refine gx_callV (ci := 5) (T := TX6) (N := 3) C (k6_startFor l D A hs z hsj) cb_X7_addSheet__X6_startFor gX7_addSheet_X6_startFor rfl (hG := hsj.1) rfl rfl (Nat.le_of_ble_eq_true rfl) ⟨Nat.le_refl _, Nat.le_refl _⟩ dX7_addSheet_27 (gx_kv fun G_27 h_27 => ?_)
  have s2 := gSv_sh' s1 (i := v.2.2.1.length) (by rw [el]; omega) h_27.1 h_27.2
  refine gx_aload_n C dX7_addSheet_30 rfl ?_
  refine gx_get C fd_X7_addSheet_36 (hG := s2.1) (hv := by rfl) dX7_addSheet_31 ?_
  refine gx_iload_n C dX7_addSheet_34 rfl ?_
  refine gx_iconst (v := 1) C dX7_addSheet_35 (by decide) ?_
  refine gx_callV (ci := 4) (T := TX5) (N := 2) C (k5_add l D A hs z 1 (gSv_ac s2).2.1) cb_X7_addSheet__X5_add gX7_addSheet_X5_add rfl (hG := (gRow_ob (gSv_ac s2).2.1)) rfl rfl (Nat.le_of_ble_eq_true rfl) ⟨Nat.le_refl _, Nat.le_refl _⟩ dX7_addSheet_36 (gx_kv fun G_36 h_36 => ?_)
  have s3 := gSv_ac' s2 (gAcc_1 (gSv_ac s2) h_36.1 h_36.2) (gOut_wd h_36.2 (by omega))
  refine gx_aload_n C dX7_addSheet_39 rfl ?_
  refine gx_get C fd_X7_addSheet_61 (hG := s3.1) (hv := by rfl) dX7_addSheet_40 ?_
  refine gx_iconst (v := 1) C dX7_addSheet_43 (by decide) ?_
  refine gx_isub C dX7_addSheet_44 ?_
  refine gx_top (show _ = nI v.2.2.1.length from by rw [List.length_set, el]; exact e1) ?_
  refine gx_zret (mc := 0) C rfl ?_ dX7_addSheet_45
  have ee : (v.2.2.1 ++ [c0]).set v.2.2.1.length (z, 0, []) = v.2.2.1 ++ [(z, 0, [])] := by simp
  refine ⟨_, rfl, rfl, ?_, gOut_tr (gOut_tr (gOut_up gOut_rf (by omega)) (gOut_wd h_27.2 (by omega))) (gOut_wd h_36.2 (by omega))⟩
  rw [← ee]
  exact s3
end
section
/-! STATES: the walks that change much -/
theorem gD_set {sh : List SH} {i : Nat} {c : SH} (h : i < sh.length) : (sh.set i c).getD i shD = c := by
  rw [List.getD_eq_getElem?_getD, List.getElem?_set_self h]
  rfl
theorem pTake_s {cs : List Int32} {j : Nat} (h : j < cs.length) : cs.take (j + 1) = cs.take j ++ [cs.getD j 0] := by
  rw [List.take_succ, List.getElem?_eq_getElem h, List.getD_eq_getElem?_getD, List.getElem?_eq_getElem h]
  rfl
theorem gD_self {sh : List SH} {i : Nat} (h : i < sh.length) : sh.set i ((sh.getD i shD).1, (sh.getD i shD).2.1, (sh.getD i shD).2.2) = sh := by
  have e : ((sh.getD i shD).1, (sh.getD i shD).2.1, (sh.getD i shD).2.2) = sh[i] := by
    rw [List.getD_eq_getElem?_getD, List.getElem?_eq_getElem h]
    rfl
  rw [e, List.set_getElem_self]
theorem cb_X7_copySheet__X6_copyFrom : gCb yX6_copyFrom cX6_copyFrom 2 none wsX6_copyFrom (gR 1) (gR 2) 0 0 1 := ⟨rfl, rfl, rfl, by decide +kernel, by decide⟩
set_option maxRecDepth 20000 in
theorem in_X7_copyFrom_X7 : ∀ w ∈ wsX70, w ∈ wsX7_copyFrom := by decide +kernel
set_option maxRecDepth 20000 in
theorem fd_X7_copyFrom_61 : gFd wsX7_copyFrom RX7 61 6 RX7 TX7 9 8 := ⟨in_X7_copyFrom_X7, rfl, by decide, by decide +kernel⟩
theorem cb_X7_copyFrom__X7_sheetNumbered : gCb yX7_sheetNumbered cX7_sheetNumbered 2 (some (.object "ProofSheets$Sheet")) wsX7_sheetNumbered (gR 0) (gR 3) 0 0 1 := ⟨rfl, rfl, rfl, by decide +kernel, by decide⟩
theorem cb_X7_copyFrom__X7_copySheet : gCb yX7_copySheet cX7_copySheet 2 none wsX7_copySheet (gR 2) (gR 3) 0 0 2 := ⟨rfl, rfl, rfl, by decide +kernel, by decide⟩
set_option maxRecDepth 20000 in
theorem fd_X7_copyFrom_14 : gFd wsX7_copyFrom RX7 14 6 RX7 TX7 9 0 := ⟨in_X7_copyFrom_X7, rfl, by decide, by decide +kernel⟩
theorem cb_X7_copyFrom__X5_copyFrom : gCb yX5_copyFrom cX5_copyFrom 3 none wsX5_copyFrom (gR 0) (gR 3) 0 0 1 := ⟨rfl, rfl, rfl, by decide +kernel, by decide⟩
set_option maxRecDepth 20000 in
theorem fd_X7_copyFrom_29 : gFd wsX7_copyFrom RX7 29 6 RX7 TX7 9 2 := ⟨in_X7_copyFrom_X7, rfl, by decide, by decide +kernel⟩
theorem cb_X7_copyFrom__X2_copyFrom : gCb yX2_copyFrom cX2_copyFrom 2 none wsX2_copyFrom (gR 1) (gR 3) 0 0 1 := ⟨rfl, rfl, rfl, by decide +kernel, by decide⟩
set_option maxRecDepth 20000 in
theorem fd_X7_copyFrom_33 : gFd wsX7_copyFrom RX7 33 6 RX7 TX7 9 3 := ⟨in_X7_copyFrom_X7, rfl, by decide, by decide +kernel⟩
set_option maxRecDepth 20000 in
theorem fd_X7_copyFrom_36 : gFd wsX7_copyFrom RX7 36 6 RX7 TX7 9 4 := ⟨in_X7_copyFrom_X7, rfl, by decide, by decide +kernel⟩
set_option maxRecDepth 20000 in
theorem fd_X7_copyFrom_39 : gFd wsX7_copyFrom RX7 39 6 RX7 TX7 9 5 := ⟨in_X7_copyFrom_X7, rfl, by decide, by decide +kernel⟩
set_option maxRecDepth 20000 in
theorem fd_X7_copyFrom_42 : gFd wsX7_copyFrom RX7 42 6 RX7 TX7 9 6 := ⟨in_X7_copyFrom_X7, rfl, by decide, by decide +kernel⟩
set_option maxRecDepth 20000 in
theorem fd_X7_copyFrom_57 : gFd wsX7_copyFrom RX7 57 6 RX7 TX7 9 7 := ⟨in_X7_copyFrom_X7, rfl, by decide, by decide +kernel⟩
theorem cb_X7_writeOn__X5_used : gCb yX5_used cX5_used 1 (some .int) wsX5_used (gR 0) (gR 3) 0 0 0 := ⟨rfl, rfl, rfl, by decide +kernel, by decide⟩
set_option maxRecDepth 20000 in
theorem in_X7_writeOn_X7 : ∀ w ∈ wsX70, w ∈ wsX7_writeOn := by decide +kernel
set_option maxRecDepth 20000 in
theorem fd_X7_writeOn_33 : gFd wsX7_writeOn RX7 33 6 RX7 TX7 9 3 := ⟨in_X7_writeOn_X7, rfl, by decide, by decide +kernel⟩
theorem cb_X7_writeOn__X5_add : gCb yX5_add cX5_add 3 none wsX5_add (gR 2) (gR 3) 0 0 2 := ⟨rfl, rfl, rfl, by decide +kernel, by decide⟩
set_option maxRecDepth 20000 in
theorem fd_X7_writeOn_39 : gFd wsX7_writeOn RX7 39 6 RX7 TX7 9 5 := ⟨in_X7_writeOn_X7, rfl, by decide, by decide +kernel⟩
set_option maxRecDepth 20000 in
theorem in_X7_writeOn_X6 : ∀ w ∈ wsX60, w ∈ wsX7_writeOn := by decide +kernel
set_option maxRecDepth 20000 in
theorem fd_X7_writeOn_81 : gFn wsX7_writeOn RX7 81 5 RX6 TX6 3 1 := ⟨in_X7_writeOn_X6, rfl, by decide, by decide +kernel⟩
set_option maxRecDepth 20000 in
theorem fd_X7_writeOn_87 : gFn wsX7_writeOn RX7 87 5 RX6 TX6 3 0 := ⟨in_X7_writeOn_X6, rfl, by decide, by decide +kernel⟩
theorem cb_X7_writeOn__X5_get : gCb yX5_get cX5_get 2 (some .int) wsX5_get (gR 1) (gR 3) 0 0 1 := ⟨rfl, rfl, rfl, by decide +kernel, by decide⟩
theorem cb_X7_writeOn__X5_append : gCb yX5_append cX5_append 2 none wsX5_append (gR 0) (gR 3) 0 0 1 := ⟨rfl, rfl, rfl, by decide +kernel, by decide⟩
set_option maxRecDepth 20000 in
theorem in_X7_mergeMarksOf_X6 : ∀ w ∈ wsX60, w ∈ wsX7_mergeMarksOf := by decide +kernel
set_option maxRecDepth 20000 in
theorem fd_X7_mergeMarksOf_87 : gFn wsX7_mergeMarksOf RX7 87 5 RX6 TX6 3 0 := ⟨in_X7_mergeMarksOf_X6, rfl, by decide, by decide +kernel⟩
theorem cb_X7_mergeMarksOf__X5_used : gCb yX5_used cX5_used 1 (some .int) wsX5_used (gR 0) (gR 4) 0 0 0 := ⟨rfl, rfl, rfl, by decide +kernel, by decide⟩
set_option maxRecDepth 20000 in
theorem fd_X7_mergeMarksOf_84 : gFn wsX7_mergeMarksOf RX7 84 5 RX6 TX6 3 2 := ⟨in_X7_mergeMarksOf_X6, rfl, by decide, by decide +kernel⟩
set_option maxRecDepth 20000 in
theorem in_X7_mergeMarksOf_X7 : ∀ w ∈ wsX70, w ∈ wsX7_mergeMarksOf := by decide +kernel
set_option maxRecDepth 20000 in
theorem fd_X7_mergeMarksOf_33 : gFd wsX7_mergeMarksOf RX7 33 6 RX7 TX7 9 3 := ⟨in_X7_mergeMarksOf_X7, rfl, by decide, by decide +kernel⟩
theorem cb_X7_mergeMarksOf__X5_add : gCb yX5_add cX5_add 3 none wsX5_add (gR 2) (gR 4) 0 0 2 := ⟨rfl, rfl, rfl, by decide +kernel, by decide⟩
set_option maxRecDepth 20000 in
theorem fd_X7_mergeMarksOf_42 : gFd wsX7_mergeMarksOf RX7 42 6 RX7 TX7 9 6 := ⟨in_X7_mergeMarksOf_X7, rfl, by decide, by decide +kernel⟩
set_option maxRecDepth 20000 in
theorem fd_X7_mergeMarksOf_81 : gFn wsX7_mergeMarksOf RX7 81 5 RX6 TX6 3 1 := ⟨in_X7_mergeMarksOf_X6, rfl, by decide, by decide +kernel⟩
set_option maxRecDepth 20000 in
theorem fd_X7_mergeMarksOf_29 : gFd wsX7_mergeMarksOf RX7 29 6 RX7 TX7 9 2 := ⟨in_X7_mergeMarksOf_X7, rfl, by decide, by decide +kernel⟩
theorem cb_X7_mergeMarksOf__X5_get : gCb yX5_get cX5_get 2 (some .int) wsX5_get (gR 1) (gR 4) 0 0 1 := ⟨rfl, rfl, rfl, by decide +kernel, by decide⟩
theorem cb_X7_mergeMarksOf__X2_take : gCb yX2_take cX2_take 4 (some .boolean) wsX2_take (gR 3) (gR 4) 0 0 2 := ⟨rfl, rfl, rfl, by decide +kernel, by decide⟩
set_option maxRecDepth 20000 in
theorem in_X7_endRound_X7 : ∀ w ∈ wsX70, w ∈ wsX7_endRound := by decide +kernel
set_option maxRecDepth 20000 in
theorem fd_X7_endRound_33 : gFd wsX7_endRound RX7 33 6 RX7 TX7 9 3 := ⟨in_X7_endRound_X7, rfl, by decide, by decide +kernel⟩
theorem cb_X7_endRound__X7_marksOnSheetsThatAre : gCb yX7_marksOnSheetsThatAre cX7_marksOnSheetsThatAre 5 (some .int) wsX7_marksOnSheetsThatAre (gR 1) (gR 3) 0 0 1 := ⟨rfl, rfl, rfl, by decide +kernel, by decide⟩
theorem cb_X7_endRound__X5_add : gCb yX5_add cX5_add 3 none wsX5_add (gR 2) (gR 3) 0 0 2 := ⟨rfl, rfl, rfl, by decide +kernel, by decide⟩
set_option maxRecDepth 20000 in
theorem fd_X7_endRound_14 : gFd wsX7_endRound RX7 14 6 RX7 TX7 9 0 := ⟨in_X7_endRound_X7, rfl, by decide, by decide +kernel⟩
theorem cb_X7_endRound__X5_copyFrom : gCb yX5_copyFrom cX5_copyFrom 3 none wsX5_copyFrom (gR 0) (gR 3) 0 0 1 := ⟨rfl, rfl, rfl, by decide +kernel, by decide⟩
set_option maxRecDepth 20000 in
theorem fd_X7_endRound_29 : gFd wsX7_endRound RX7 29 6 RX7 TX7 9 2 := ⟨in_X7_endRound_X7, rfl, by decide, by decide +kernel⟩
theorem cb_X7_endRound__X2_empty : gCb yX2_empty cX2_empty 1 none wsX2_empty (gR 1) (gR 3) 0 0 0 := ⟨rfl, rfl, rfl, by decide +kernel, by decide⟩
set_option maxRecDepth 20000 in
theorem fd_X7_endRound_61 : gFd wsX7_endRound RX7 61 6 RX7 TX7 9 8 := ⟨in_X7_endRound_X7, rfl, by decide, by decide +kernel⟩
set_option maxRecDepth 20000 in
theorem fd_X7_endRound_57 : gFd wsX7_endRound RX7 57 6 RX7 TX7 9 7 := ⟨in_X7_endRound_X7, rfl, by decide, by decide +kernel⟩
set_option maxHeartbeats 4000000 in
set_option maxRecDepth 100000 in
/-- X7_copySheet -/
theorem k7_copySheet (l : Launch) (D : gD) (A : Nat → Prop) (hs : Nat) {G : gH} {a b : Nat} {v w : SH} (h : gSheet D G a v) (h2 : gSheet D G b w) (hd : b + 3 ≤ a ∨ a + 3 ≤ b) : gM l yX7_copySheet wsX7_copySheet (gR 2) D A hs 0 0 [.ref a, .ref b] G (gPv fun G' => gSheet D G' a w ∧ gOut a 3 G G') := by
  refine gM_intro (by decide) rfl rfl (Nat.le_of_ble_eq_true rfl) ?_
  intro p e s m args below meth c C
  refine gx_aload_n C dX7_copySheet_0 rfl ?_
  refine gx_ifnull C dX7_copySheet_1 ?_
  refine gx_aload_n C dX7_copySheet_4 rfl ?_
  refine gx_ifnull C dX7_copySheet_5 ?_
  refine gx_aload_n C dX7_copySheet_8 rfl ?_
  refine gx_aload_n C dX7_copySheet_9 rfl ?_
  refine gx_callV (ci := 5) (T := TX6) (N := 3) C (k6_copyFrom l D A hs h h2 hd) cb_X7_copySheet__X6_copyFrom gX7_copySheet_X6_copyFrom rfl (hG := h.1) rfl rfl (Nat.le_of_ble_eq_true rfl) ⟨Nat.le_refl _, Nat.le_refl _⟩ dX7_copySheet_10 (gx_kv fun G_10 h_10 => ?_)
  refine gx_vret (mc := 0) C ?_ dX7_copySheet_13
  exact ⟨rfl, h_10⟩
set_option maxHeartbeats 4000000 in
set_option maxRecDepth 100000 in
/-- X7_copyFrom -/
theorem k7_copyFrom (l : Launch) (D : gD) (A : Nat → Prop) (hs : Nat) {G : gH} {S b : Nat} {v w : SV} (hv : gSv D G S v) (hw : gSv D G b w) (hd : b + 45 ≤ S ∨ S + 45 ≤ b) : gM l yX7_copyFrom wsX7_copyFrom (gR 3) D A hs 0 0 [.ref S, .ref b] G (gPv fun G' => gSv D G' S w ∧ gOut S 45 G G') := by
  refine gM_intro (by decide) rfl rfl (Nat.le_of_ble_eq_true rfl) ?_
  intro p e s m args below meth c C
  have bn := gSv_n hv
  have bw := gSv_n hw
  have hloop : ∀ (n j : Nat) (G1 : gH) (shk : List SH), w.2.2.1.length < j + n → j ≤ w.2.2.1.length → gSv D G1 S (w.1, w.2.1, shk, w.2.2.2) ∧ shk.length = w.2.2.1.length ∧ (∀ a, a < j → shk.getD a shD = w.2.2.1.getD a shD) ∧ gOut S 45 G G1 → gX p l e (gR 3) s m args below meth c D A 3 hs 0 0 (MQ below (gQ D A hs 0 (gPv fun G' => gSv D G' S w ∧ gOut S 45 G G')) args s 0 0 A) G1 [some (.ref S), some (.ref b), some (.int (nI j))] 84 [] := by
    intro n
    induction n with
    | zero => intro j G1 shk hm hj0 hI; exact absurd hm (by omega)
    | succ n ih =>
      intro j G1 shk hm hj0 hI
      refine gx_iload_n C dX7_copyFrom_84 rfl ?_
      have tt := gSv_fr hw hI.2.2.2 hd
      refine gx_aload_n C dX7_copyFrom_85 rfl ?_
      refine gx_get C fd_X7_copyFrom_61 (hG := hI.1.1) (hv := by rfl) dX7_copyFrom_86 ?_
      refine gx_icmp_ge (tgt := 111) C dX7_copyFrom_89 (by decide) (fun c_89 => ?_) (fun c_89 => ?_)
      · rw [hI.2.1] at c_89
        have hj : ¬ j < w.2.2.1.length := fun q => nI_ge q (by omega) c_89
        refine gx_vret (mc := 0) C ?_ dX7_copyFrom_111
        have e : shk = w.2.2.1 := by
          refine List.ext_getElem hI.2.1 (fun a h1 h2 => ?_)
          have h3 := hI.2.2.1 a (by omega)
          rw [List.getD_eq_getElem?_getD, List.getD_eq_getElem?_getD, List.getElem?_eq_getElem h1, List.getElem?_eq_getElem h2] at h3
          exact h3
        subst e
        exact ⟨rfl, hI.1, hI.2.2.2⟩
      · rw [hI.2.1] at c_89
        have hj : j < w.2.2.1.length := by
          rcases Nat.lt_or_ge (j) (w.2.2.1.length) with q | q
          · exact q
          · exact absurd (nI_le q (by omega)) c_89
        refine gx_aload_n C dX7_copyFrom_92 rfl ?_
        refine gx_iload_n C dX7_copyFrom_93 rfl ?_
        refine gx_callV (ci := 6) (T := TX7) (N := 9) C (k7_sheetAt l D A hs hI.1 j (by rw [hI.2.1]; exact hj)) cb_X7_copyFrom__X7_sheetNumbered gX7_copyFrom_X7_sheetNumbered rfl (hG := hI.1.1) rfl rfl (Nat.le_of_ble_eq_true rfl) ⟨Nat.le_refl _, Nat.le_refl _⟩ dX7_copyFrom_94 (gx_kr fun w_94 G_94 hw_94 h_94 => ?_)
        obtain ⟨rfl, rfl⟩ := h_94
        refine gx_aload_n C dX7_copyFrom_97 rfl ?_
        refine gx_iload_n C dX7_copyFrom_98 rfl ?_
        refine gx_callV (ci := 6) (T := TX7) (N := 9) C (k7_sheetAt l D A hs tt j hj) cb_X7_copyFrom__X7_sheetNumbered gX7_copyFrom_X7_sheetNumbered rfl (hG := tt.1) rfl rfl (Nat.le_of_ble_eq_true rfl) ⟨Nat.le_refl _, Nat.le_refl _⟩ dX7_copyFrom_99 (gx_kr fun w_99 G_99 hw_99 h_99 => ?_)
        obtain ⟨rfl, rfl⟩ := h_99
        refine gx_callS C (k7_copySheet l D A hs (gSv_gd hI.1 (i := j) (by rw [hI.2.1]; exact hj)) (gSv_gd tt hj) (by omega)) cb_X7_copyFrom__X7_copySheet gX7_copyFrom_X7_copySheet rfl rfl (Nat.le_of_ble_eq_true rfl) ⟨Nat.le_refl _, Nat.le_refl _⟩ dX7_copyFrom_102 (gx_kv fun G_102 h_102 => ?_)
        first | refine gx_iincN C dX7_copyFrom_105 rfl (by decide) ?_ | refine gx_iinc1 C dX7_copyFrom_105 rfl (by decide) ?_
        refine gx_goto (tgt := 84) C dX7_copyFrom_108 (by decide) ?_
        have hjk : j < shk.length := by rw [hI.2.1]; exact hj
        have s1 := gSv_sh' hI.1 hjk h_102.1 h_102.2
        have hI2 := hI.2
        refine ih (j + 1) _ _ (by omega) (by omega) ⟨s1, by rw [List.length_set]; exact hI2.1, ?_, gOut_tr hI2.2.2 (gOut_wd h_102.2 (by omega))⟩
        intro a ha
        by_cases q : a = j
        · subst q
          rw [List.getD_eq_getElem?_getD, List.getElem?_set_self (show a < shk.length from hjk)]
          rfl
        · rw [List.getD_eq_getElem?_getD, List.getElem?_set_ne (Ne.symm q), ← List.getD_eq_getElem?_getD]
          exact hI2.2.1 a (by omega)
  refine gx_aload_n C dX7_copyFrom_0 rfl ?_
  refine gx_get C fd_X7_copyFrom_14 (hG := hv.1) (hv := by rfl) dX7_copyFrom_1 ?_
  refine gx_aload_n C dX7_copyFrom_4 rfl ?_
  refine gx_get C fd_X7_copyFrom_14 (hG := hw.1) (hv := by rfl) dX7_copyFrom_5 ?_
  refine gx_callV (ci := 4) (T := TX5) (N := 2) C (k5_copyFrom l D A hs (gSv_tx hv) (gSv_tx hw) (by omega) (gRow_le (gSv_tx hw)).1) cb_X7_copyFrom__X5_copyFrom gX7_copyFrom_X5_copyFrom rfl (hG := (gRow_ob (gSv_tx hv))) rfl rfl (Nat.le_of_ble_eq_true rfl) ⟨Nat.le_refl _, Nat.le_refl _⟩ dX7_copyFrom_8 (gx_kv fun G_8 h_8 => ?_)
  have s1 := gSv_tx' hv h_8.1 h_8.2
  have w1 := (gOut_wd (b := S) (k := 45) h_8.2 (by omega))
  have t1 := gSv_fr hw w1 hd
  refine gx_aload_n C dX7_copyFrom_11 rfl ?_
  refine gx_get C fd_X7_copyFrom_29 (hG := s1.1) (hv := by rfl) dX7_copyFrom_12 ?_
  refine gx_aload_n C dX7_copyFrom_15 rfl ?_
  refine gx_get C fd_X7_copyFrom_29 (hG := t1.1) (hv := by rfl) dX7_copyFrom_16 ?_
  refine gx_callV (ci := 1) (T := TX2) (N := 4) C (k2_copyFrom l D A hs (gSv_li t1) (by omega) (gSv_li s1)) cb_X7_copyFrom__X2_copyFrom gX7_copyFrom_X2_copyFrom rfl (hG := (gSv_li s1).1) rfl rfl (Nat.le_of_ble_eq_true rfl) ⟨Nat.le_refl _, Nat.le_refl _⟩ dX7_copyFrom_19 (gx_kv fun G_19 h_19 => ?_)
  have s2 := gSv_li' s1 h_19.1 h_19.2
  have w2 := gOut_tr w1 (gOut_wd (b := S) (k := 45) h_19.2 (by omega))
  have t2 := gSv_fr hw w2 hd
  refine gx_aload_n C dX7_copyFrom_22 rfl ?_
  refine gx_get C fd_X7_copyFrom_33 (hG := s2.1) (hv := by rfl) dX7_copyFrom_23 ?_
  refine gx_aload_n C dX7_copyFrom_26 rfl ?_
  refine gx_get C fd_X7_copyFrom_33 (hG := t2.1) (hv := by rfl) dX7_copyFrom_27 ?_
  refine gx_callV (ci := 4) (T := TX5) (N := 2) C (k5_copyFrom l D A hs (gSv_ac s2).1 (gSv_ac t2).1 (by omega) (gRow_le (gSv_ac t2).1).1) cb_X7_copyFrom__X5_copyFrom gX7_copyFrom_X5_copyFrom rfl (hG := (gRow_ob (gSv_ac s2).1)) rfl rfl (Nat.le_of_ble_eq_true rfl) ⟨Nat.le_refl _, Nat.le_refl _⟩ dX7_copyFrom_30 (gx_kv fun G_30 h_30 => ?_)
  have s3 := gSv_ac' s2 (gAcc_0 (gSv_ac s2) h_30.1 h_30.2) (gOut_wd h_30.2 (by omega))
  have w3 := gOut_tr w2 (gOut_wd (b := S) (k := 45) h_30.2 (by omega))
  have t3 := gSv_fr hw w3 hd
  refine gx_aload_n C dX7_copyFrom_33 rfl ?_
  refine gx_get C fd_X7_copyFrom_36 (hG := s3.1) (hv := by rfl) dX7_copyFrom_34 ?_
  refine gx_aload_n C dX7_copyFrom_37 rfl ?_
  refine gx_get C fd_X7_copyFrom_36 (hG := t3.1) (hv := by rfl) dX7_copyFrom_38 ?_
  refine gx_callV (ci := 4) (T := TX5) (N := 2) C (k5_copyFrom l D A hs (gSv_ac s3).2.1 (gSv_ac t3).2.1 (by omega) (gRow_le (gSv_ac t3).2.1).1) cb_X7_copyFrom__X5_copyFrom gX7_copyFrom_X5_copyFrom rfl (hG := (gRow_ob (gSv_ac s3).2.1)) rfl rfl (Nat.le_of_ble_eq_true rfl) ⟨Nat.le_refl _, Nat.le_refl _⟩ dX7_copyFrom_41 (gx_kv fun G_41 h_41 => ?_)
  have s4 := gSv_ac' s3 (gAcc_1 (gSv_ac s3) h_41.1 h_41.2) (gOut_wd h_41.2 (by omega))
  have w4 := gOut_tr w3 (gOut_wd (b := S) (k := 45) h_41.2 (by omega))
  have t4 := gSv_fr hw w4 hd
  refine gx_aload_n C dX7_copyFrom_44 rfl ?_
  refine gx_get C fd_X7_copyFrom_39 (hG := s4.1) (hv := by rfl) dX7_copyFrom_45 ?_
  refine gx_aload_n C dX7_copyFrom_48 rfl ?_
  refine gx_get C fd_X7_copyFrom_39 (hG := t4.1) (hv := by rfl) dX7_copyFrom_49 ?_
  refine gx_callV (ci := 4) (T := TX5) (N := 2) C (k5_copyFrom l D A hs (gSv_ac s4).2.2.1 (gSv_ac t4).2.2.1 (by omega) (gRow_le (gSv_ac t4).2.2.1).1) cb_X7_copyFrom__X5_copyFrom gX7_copyFrom_X5_copyFrom rfl (hG := (gRow_ob (gSv_ac s4).2.2.1)) rfl rfl (Nat.le_of_ble_eq_true rfl) ⟨Nat.le_refl _, Nat.le_refl _⟩ dX7_copyFrom_52 (gx_kv fun G_52 h_52 => ?_)
  have s5 := gSv_ac' s4 (gAcc_2 (gSv_ac s4) h_52.1 h_52.2) (gOut_wd h_52.2 (by omega))
  have w5 := gOut_tr w4 (gOut_wd (b := S) (k := 45) h_52.2 (by omega))
  have t5 := gSv_fr hw w5 hd
  refine gx_aload_n C dX7_copyFrom_55 rfl ?_
  refine gx_get C fd_X7_copyFrom_42 (hG := s5.1) (hv := by rfl) dX7_copyFrom_56 ?_
  refine gx_aload_n C dX7_copyFrom_59 rfl ?_
  refine gx_get C fd_X7_copyFrom_42 (hG := t5.1) (hv := by rfl) dX7_copyFrom_60 ?_
  refine gx_callV (ci := 4) (T := TX5) (N := 2) C (k5_copyFrom l D A hs (gSv_ac s5).2.2.2 (gSv_ac t5).2.2.2 (by omega) (gRow_le (gSv_ac t5).2.2.2).1) cb_X7_copyFrom__X5_copyFrom gX7_copyFrom_X5_copyFrom rfl (hG := (gRow_ob (gSv_ac s5).2.2.2)) rfl rfl (Nat.le_of_ble_eq_true rfl) ⟨Nat.le_refl _, Nat.le_refl _⟩ dX7_copyFrom_63 (gx_kv fun G_63 h_63 => ?_)
  have s6 := gSv_ac' s5 (gAcc_3 (gSv_ac s5) h_63.1 h_63.2) (gOut_wd h_63.2 (by omega))
  have w6 := gOut_tr w5 (gOut_wd (b := S) (k := 45) h_63.2 (by omega))
  have t6 := gSv_fr hw w6 hd
  refine gx_aload_n C dX7_copyFrom_66 rfl ?_
  refine gx_aload_n C dX7_copyFrom_67 rfl ?_
  refine gx_get C fd_X7_copyFrom_57 (hG := t6.1) (hv := by rfl) dX7_copyFrom_68 ?_
  refine gx_put C fd_X7_copyFrom_57 tyX7_ok nmX7 rfl rfl rfl (hG := s6.1) (hl := by exact Nat.le_of_ble_eq_true rfl) dX7_copyFrom_71 ?_
  have s7 := gSv_rd' (x := w.2.1) s6
  have w7 : gOut S 45 G _ := gOut_tr w6 (gOut_up (n := 45) (b := S) (e := (.inr (6, [.ref (S + 1), .ref (S + 3), .ref (S + 4), .ref (S + 13), .ref (S + 15), .ref (S + 17), .ref (S + 19), .int w.2.1, .int (nI v.2.2.1.length)]))) gOut_rf (by omega))
  have t7 := gSv_fr hw w7 hd
  refine gx_aload_n C dX7_copyFrom_74 rfl ?_
  refine gx_aload_n C dX7_copyFrom_75 rfl ?_
  refine gx_get C fd_X7_copyFrom_61 (hG := t7.1) (hv := by rfl) dX7_copyFrom_76 ?_
  refine gx_put C fd_X7_copyFrom_61 tyX7_ok nmX7 rfl rfl rfl (hG := gU_s) (hl := by exact Nat.le_of_ble_eq_true rfl) dX7_copyFrom_79 ?_
  obtain ⟨shk, hk1, hk2⟩ := gShs_any (gSv_sh s7) bw
  have s8 := gSv_sc' s7 hk2
  rw [hk1] at s8
  refine gx_iconst (v := 0) C dX7_copyFrom_82 (by decide) ?_
  refine gx_istore_n C dX7_copyFrom_83 (by decide) ?_
  exact hloop (w.2.2.1.length + 1) 0 _ shk (by omega) (by omega) ⟨s8, hk1, fun a ha => absurd ha (by omega), gOut_up w7 (by omega)⟩
set_option maxHeartbeats 4000000 in
set_option maxRecDepth 100000 in
/-- X7_writeOn -/
theorem k7_writeOn (l : Launch) (D : gD) (A : Nat → Prop) (hs : Nat) {G : gH} {S : Nat} {v : SV} (hv : gSv D G S v) {i b cap : Nat} {cs : List Int32} (hi : i < v.2.2.1.length) (hr : gRow D G b cap cs) (hd : b + 2 ≤ S ∨ S + 45 ≤ b) (hc8 : (v.2.2.1.getD i shD).2.2.length + cs.length ≤ 8) : gM l yX7_writeOn wsX7_writeOn (gR 3) D A hs 0 0 [.ref S, .ref (S + 21 + 3 * i), .ref b] G (gPv fun G' => gSv D G' S (v.1, v.2.1, v.2.2.1.set i ((v.2.2.1.getD i shD).1, (v.2.2.1.getD i shD).2.1, (v.2.2.1.getD i shD).2.2 ++ cs), v.2.2.2.1, (lset v.2.2.2.2.1 0 (lget v.2.2.2.2.1 0 + nI cs.length), v.2.2.2.2.2.1, lset v.2.2.2.2.2.2.1 (v.2.2.1.getD i shD).1 (lget v.2.2.2.2.2.2.1 (v.2.2.1.getD i shD).1 + nI cs.length), v.2.2.2.2.2.2.2)) ∧ gOut S 45 G G') := by
  refine gM_intro (by decide) rfl rfl (Nat.le_of_ble_eq_true rfl) ?_
  intro p e s m args below meth c C
  have bn := gSv_n hv
  have bc := gRow_le hr
  have hini : gSv D G S (v.1, v.2.1, v.2.2.1.set i ((v.2.2.1.getD i shD).1, (v.2.2.1.getD i shD).2.1, (v.2.2.1.getD i shD).2.2 ++ cs.take 0), v.2.2.2) := by
    rw [List.take_zero, List.append_nil, gD_self hi]
    exact hv
  have hloop : ∀ (n j : Nat) (G1 : gH), cs.length < j + n → j ≤ cs.length → gSv D G1 S (v.1, v.2.1, v.2.2.1.set i ((v.2.2.1.getD i shD).1, (v.2.2.1.getD i shD).2.1, (v.2.2.1.getD i shD).2.2 ++ cs.take j), v.2.2.2) ∧ gOut S 45 G G1 → gX p l e (gR 3) s m args below meth c D A 4 hs 0 0 (MQ below (gQ D A hs 0 (gPv fun G' => gSv D G' S (v.1, v.2.1, v.2.2.1.set i ((v.2.2.1.getD i shD).1, (v.2.2.1.getD i shD).2.1, (v.2.2.1.getD i shD).2.2 ++ cs), v.2.2.2.1, (lset v.2.2.2.2.1 0 (lget v.2.2.2.2.1 0 + nI cs.length), v.2.2.2.2.2.1, lset v.2.2.2.2.2.2.1 (v.2.2.1.getD i shD).1 (lget v.2.2.2.2.2.2.1 (v.2.2.1.getD i shD).1 + nI cs.length), v.2.2.2.2.2.2.2)) ∧ gOut S 45 G G')) args s 0 0 A) G1 [some (.ref S), some (.ref (S + 21 + 3 * i)), some (.ref b), some (.int (nI j))] 2 [] := by
    intro n
    induction n with
    | zero => intro j G1 hm hj0 hI; exact absurd hm (by omega)
    | succ n ih =>
      intro j G1 hm hj0 hI
      refine gx_iload_n C dX7_writeOn_2 rfl ?_
      have hb := gRow_fr hr hI.2 hd
      have hsh := gSv_gd hI.1 (i := i) (by simp; exact hi)
      rw [gD_set (by exact hi)] at hsh
      refine gx_aload_n C dX7_writeOn_3 rfl ?_
      refine gx_callV (ci := 4) (T := TX5) (N := 2) C (k5_used l D A hs hb) cb_X7_writeOn__X5_used gX7_writeOn_X5_used rfl (hG := (gRow_ob hb)) rfl rfl (Nat.le_of_ble_eq_true rfl) ⟨Nat.le_refl _, Nat.le_refl _⟩ dX7_writeOn_4 (gx_ki fun r_4 G_4 h_4 => ?_)
      obtain ⟨rfl, rfl⟩ := h_4
      refine gx_icmp_ge (tgt := 28) C dX7_writeOn_7 (by decide) (fun c_7 => ?_) (fun c_7 => ?_)
      · have hj : ¬ j < cs.length := fun q => nI_ge q (by omega) c_7
        
        refine gx_aload_n C dX7_writeOn_28 rfl ?_
        refine gx_get C fd_X7_writeOn_33 (hG := hI.1.1) (hv := by rfl) dX7_writeOn_29 ?_
        refine gx_iconst (v := 0) C dX7_writeOn_32 (by decide) ?_
        refine gx_aload_n C dX7_writeOn_33 rfl ?_
        refine gx_callV (ci := 4) (T := TX5) (N := 2) C (k5_used l D A hs hb) cb_X7_writeOn__X5_used gX7_writeOn_X5_used rfl (hG := (gRow_ob hb)) rfl rfl (Nat.le_of_ble_eq_true rfl) ⟨Nat.le_refl _, Nat.le_refl _⟩ dX7_writeOn_34 (gx_ki fun r_34 G_34 h_34 => ?_)
        obtain ⟨rfl, rfl⟩ := h_34
        refine gx_callV (ci := 4) (T := TX5) (N := 2) C (k5_add l D A hs 0 (nI cs.length) (gSv_ac hI.1).1) cb_X7_writeOn__X5_add gX7_writeOn_X5_add rfl (hG := (gRow_ob (gSv_ac hI.1).1)) rfl rfl (Nat.le_of_ble_eq_true rfl) ⟨Nat.le_refl _, Nat.le_refl _⟩ dX7_writeOn_37 (gx_kv fun G_37 h_37 => ?_)
        have s2 := gSv_ac' hI.1 (gAcc_0 (gSv_ac hI.1) h_37.1 h_37.2) (gOut_wd h_37.2 (by omega))
        have hb2 := gRow_fr hb h_37.2 (by omega)
        have hs2 := gSheet_fr hsh h_37.2 (by omega)
        refine gx_aload_n C dX7_writeOn_40 rfl ?_
        refine gx_get C fd_X7_writeOn_39 (hG := s2.1) (hv := by rfl) dX7_writeOn_41 ?_
        refine gx_aload_n C dX7_writeOn_44 rfl ?_
        refine gx_getN C fd_X7_writeOn_81 (hG := hs2.1) (hv := by rfl) dX7_writeOn_45 ?_
        refine gx_aload_n C dX7_writeOn_48 rfl ?_
        refine gx_callV (ci := 4) (T := TX5) (N := 2) C (k5_used l D A hs hb2) cb_X7_writeOn__X5_used gX7_writeOn_X5_used rfl (hG := (gRow_ob hb2)) rfl rfl (Nat.le_of_ble_eq_true rfl) ⟨Nat.le_refl _, Nat.le_refl _⟩ dX7_writeOn_49 (gx_ki fun r_49 G_49 h_49 => ?_)
        obtain ⟨rfl, rfl⟩ := h_49
        refine gx_callV (ci := 4) (T := TX5) (N := 2) C (k5_add l D A hs (v.2.2.1.getD i shD).1 (nI cs.length) (gSv_ac s2).2.2.1) cb_X7_writeOn__X5_add gX7_writeOn_X5_add rfl (hG := (gRow_ob (gSv_ac s2).2.2.1)) rfl rfl (Nat.le_of_ble_eq_true rfl) ⟨Nat.le_refl _, Nat.le_refl _⟩ dX7_writeOn_52 (gx_kv fun G_52 h_52 => ?_)
        refine gx_vret (mc := 0) C ?_ dX7_writeOn_55
        have e : j = cs.length := by omega
        have s3 := gSv_ac' s2 (gAcc_2 (gSv_ac s2) h_52.1 h_52.2) (gOut_wd h_52.2 (by omega))
        rw [e, List.take_length] at s3
        exact ⟨rfl, s3, gOut_tr hI.2 (gOut_tr (gOut_wd h_37.2 (by omega)) (gOut_wd h_52.2 (by omega)))⟩
      · have hj : j < cs.length := by
          rcases Nat.lt_or_ge (j) (cs.length) with q | q
          · exact q
          · exact absurd (nI_le q (by omega)) c_7
        refine gx_aload_n C dX7_writeOn_10 rfl ?_
        refine gx_getN C fd_X7_writeOn_87 (hG := hsh.1) (hv := by rfl) dX7_writeOn_11 ?_
        refine gx_aload_n C dX7_writeOn_14 rfl ?_
        refine gx_iload_n C dX7_writeOn_15 rfl ?_
        refine gx_callV (ci := 4) (T := TX5) (N := 2) C (k5_get l D A hs (nI j) hb) cb_X7_writeOn__X5_get gX7_writeOn_X5_get rfl (hG := (gRow_ob hb)) rfl rfl (Nat.le_of_ble_eq_true rfl) ⟨Nat.le_refl _, Nat.le_refl _⟩ dX7_writeOn_16 (gx_ki fun r_16 G_16 h_16 => ?_)
        obtain ⟨rfl, rfl⟩ := h_16
        refine gx_callV (ci := 4) (T := TX5) (N := 2) C (k5_append l D A hs (lget cs (nI j)) hsh.2) cb_X7_writeOn__X5_append gX7_writeOn_X5_append rfl (hG := (gRow_ob hsh.2)) rfl rfl (Nat.le_of_ble_eq_true rfl) ⟨Nat.le_refl _, Nat.le_refl _⟩ dX7_writeOn_19 (gx_kv fun G_19 h_19 => ?_)
        first | refine gx_iincN C dX7_writeOn_22 rfl (by decide) ?_ | refine gx_iinc1 C dX7_writeOn_22 rfl (by decide) ?_
        refine gx_goto (tgt := 2) C dX7_writeOn_25 (by decide) ?_
        have h := h_19.1
        have hle : ((v.2.2.1.getD i shD).2.2 ++ cs.take j).length < 8 := by rw [List.length_append, List.length_take]; omega
        rw [lapp, if_pos hle, lget_nI (by omega), List.append_assoc, ← pTake_s hj] at h
        have s1 := gSv_sh' hI.1 (by simp; exact hi) (gSheet_ms hsh h h_19.2) (gOut_wd h_19.2 (by omega))
        rw [List.set_set] at s1
        exact ih (j + 1) _ (by omega) (by omega) ⟨s1, gOut_tr hI.2 (gOut_wd h_19.2 (by omega))⟩
  refine gx_iconst (v := 0) C dX7_writeOn_0 (by decide) ?_
  refine gx_istore_n C dX7_writeOn_1 (by decide) ?_
  exact hloop (cs.length + 1) 0 _ (by omega) (by omega) ⟨hini, gOut_rf⟩
set_option maxHeartbeats 4000000 in
set_option maxRecDepth 100000 in
/-- X7_mergeMarksOf -/
theorem k7_mergeMarksOf (l : Launch) (D : gD) (A : Nat → Prop) (hs : Nat) {G : gH} {S : Nat} {v : SV} (hv : gSv D G S v) {i : Nat} (hi : i < v.2.2.1.length) : gM l yX7_mergeMarksOf wsX7_mergeMarksOf (gR 4) D A hs 0 0 [.ref S, .ref (S + 21 + 3 * i)] G (gPi fun x G' => x = nI (pMgU (v.2.2.1.getD i shD).2.2 (v.2.2.1.getD i shD).1 v.2.2.2.1 (v.2.2.1.getD i shD).2.2.length) ∧ gSv D G' S (v.1, v.2.1, v.2.2.1.set i ((v.2.2.1.getD i shD).1, 3, (v.2.2.1.getD i shD).2.2), pMg (v.2.2.1.getD i shD).2.2 (v.2.2.1.getD i shD).1 v.2.2.2.1 (v.2.2.1.getD i shD).2.2.length, (lset v.2.2.2.2.1 1 (lget v.2.2.2.2.1 1 + nI (pMgU (v.2.2.1.getD i shD).2.2 (v.2.2.1.getD i shD).1 v.2.2.2.1 (v.2.2.1.getD i shD).2.2.length)), v.2.2.2.2.2.1, v.2.2.2.2.2.2.1, lset v.2.2.2.2.2.2.2 (v.2.2.1.getD i shD).1 (lget v.2.2.2.2.2.2.2 (v.2.2.1.getD i shD).1 + nI (v.2.2.1.getD i shD).2.2.length))) ∧ gOut S 45 G G') := by
  refine gM_intro (by decide) rfl rfl (Nat.le_of_ble_eq_true rfl) ?_
  intro p e s m args below meth c C
  have bn := gSv_n hv
  have bm := gRow_le (gSv_gd hv hi).2
  have hloop : ∀ (n j : Nat) (G1 : gH), (v.2.2.1.getD i shD).2.2.length < j + n → j ≤ (v.2.2.1.getD i shD).2.2.length → gSv D G1 S (v.1, v.2.1, v.2.2.1, pMg (v.2.2.1.getD i shD).2.2 (v.2.2.1.getD i shD).1 v.2.2.2.1 j, v.2.2.2.2) ∧ gOut S 45 G G1 → gX p l e (gR 4) s m args below meth c D A 4 hs 0 0 (MQ below (gQ D A hs 0 (gPi fun x G' => x = nI (pMgU (v.2.2.1.getD i shD).2.2 (v.2.2.1.getD i shD).1 v.2.2.2.1 (v.2.2.1.getD i shD).2.2.length) ∧ gSv D G' S (v.1, v.2.1, v.2.2.1.set i ((v.2.2.1.getD i shD).1, 3, (v.2.2.1.getD i shD).2.2), pMg (v.2.2.1.getD i shD).2.2 (v.2.2.1.getD i shD).1 v.2.2.2.1 (v.2.2.1.getD i shD).2.2.length, (lset v.2.2.2.2.1 1 (lget v.2.2.2.2.1 1 + nI (pMgU (v.2.2.1.getD i shD).2.2 (v.2.2.1.getD i shD).1 v.2.2.2.1 (v.2.2.1.getD i shD).2.2.length)), v.2.2.2.2.2.1, v.2.2.2.2.2.2.1, lset v.2.2.2.2.2.2.2 (v.2.2.1.getD i shD).1 (lget v.2.2.2.2.2.2.2 (v.2.2.1.getD i shD).1 + nI (v.2.2.1.getD i shD).2.2.length))) ∧ gOut S 45 G G')) args s 0 0 A) G1 [some (.ref S), some (.ref (S + 21 + 3 * i)), some (.int (nI (pMgU (v.2.2.1.getD i shD).2.2 (v.2.2.1.getD i shD).1 v.2.2.2.1 j))), some (.int (nI j))] 4 [] := by
    intro n
    induction n with
    | zero => intro j G1 hm hj0 hI; exact absurd hm (by omega)
    | succ n ih =>
      intro j G1 hm hj0 hI
      refine gx_iload_n C dX7_mergeMarksOf_4 rfl ?_
      have hsh := gSv_gd hI.1 (i := i) hi
      refine gx_aload_n C dX7_mergeMarksOf_5 rfl ?_
      refine gx_getN C fd_X7_mergeMarksOf_87 (hG := hsh.1) (hv := by rfl) dX7_mergeMarksOf_6 ?_
      refine gx_callV (ci := 4) (T := TX5) (N := 2) C (k5_used l D A hs hsh.2) cb_X7_mergeMarksOf__X5_used gX7_mergeMarksOf_X5_used rfl (hG := (gRow_ob hsh.2)) rfl rfl (Nat.le_of_ble_eq_true rfl) ⟨Nat.le_refl _, Nat.le_refl _⟩ dX7_mergeMarksOf_9 (gx_ki fun r_9 G_9 h_9 => ?_)
      obtain ⟨rfl, rfl⟩ := h_9
      refine gx_icmp_ge (tgt := 46) C dX7_mergeMarksOf_12 (by decide) (fun c_12 => ?_) (fun c_12 => ?_)
      · have hj : ¬ j < (v.2.2.1.getD i shD).2.2.length := fun q => nI_ge q (by omega) c_12
        
        refine gx_aload_n C dX7_mergeMarksOf_46 rfl ?_
        refine gx_iconst (v := 3) C dX7_mergeMarksOf_47 (by decide) ?_
        refine gx_putN C fd_X7_mergeMarksOf_84 tyX6_ok nmX6 rfl rfl rfl (hG := hsh.1) (hl := by exact Nat.le_of_ble_eq_true rfl) dX7_mergeMarksOf_48 ?_
        have e : j = (v.2.2.1.getD i shD).2.2.length := by omega
        subst e
        have p1 := gSheet_put (x := (v.2.2.1.getD i shD).1) (y := 3) hsh
        have s2 := gSv_sh' hI.1 hi p1 (gOut_up gOut_rf (by omega))
        refine gx_aload_n C dX7_mergeMarksOf_51 rfl ?_
        refine gx_get C fd_X7_mergeMarksOf_33 (hG := s2.1) (hv := by rfl) dX7_mergeMarksOf_52 ?_
        refine gx_iconst (v := 1) C dX7_mergeMarksOf_55 (by decide) ?_
        refine gx_iload_n C dX7_mergeMarksOf_56 rfl ?_
        refine gx_callV (ci := 4) (T := TX5) (N := 2) C (k5_add l D A hs 1 (nI (pMgU (v.2.2.1.getD i shD).2.2 (v.2.2.1.getD i shD).1 v.2.2.2.1 (v.2.2.1.getD i shD).2.2.length)) (gSv_ac s2).1) cb_X7_mergeMarksOf__X5_add gX7_mergeMarksOf_X5_add rfl (hG := (gRow_ob (gSv_ac s2).1)) rfl rfl (Nat.le_of_ble_eq_true rfl) ⟨Nat.le_refl _, Nat.le_refl _⟩ dX7_mergeMarksOf_57 (gx_kv fun G_57 h_57 => ?_)
        have s3 := gSv_ac' s2 (gAcc_0 (gSv_ac s2) h_57.1 h_57.2) (gOut_wd h_57.2 (by omega))
        have hs3 := gSheet_fr p1 h_57.2 (by omega)
        refine gx_aload_n C dX7_mergeMarksOf_60 rfl ?_
        refine gx_get C fd_X7_mergeMarksOf_42 (hG := s3.1) (hv := by rfl) dX7_mergeMarksOf_61 ?_
        refine gx_aload_n C dX7_mergeMarksOf_64 rfl ?_
        refine gx_getN C fd_X7_mergeMarksOf_81 (hG := hs3.1) (hv := by rfl) dX7_mergeMarksOf_65 ?_
        refine gx_aload_n C dX7_mergeMarksOf_68 rfl ?_
        refine gx_getN C fd_X7_mergeMarksOf_87 (hG := hs3.1) (hv := by rfl) dX7_mergeMarksOf_69 ?_
        refine gx_callV (ci := 4) (T := TX5) (N := 2) C (k5_used l D A hs hs3.2) cb_X7_mergeMarksOf__X5_used gX7_mergeMarksOf_X5_used rfl (hG := (gRow_ob hs3.2)) rfl rfl (Nat.le_of_ble_eq_true rfl) ⟨Nat.le_refl _, Nat.le_refl _⟩ dX7_mergeMarksOf_72 (gx_ki fun r_72 G_72 h_72 => ?_)
        obtain ⟨rfl, rfl⟩ := h_72
        refine gx_callV (ci := 4) (T := TX5) (N := 2) C (k5_add l D A hs (v.2.2.1.getD i shD).1 (nI (v.2.2.1.getD i shD).2.2.length) (gSv_ac s3).2.2.2) cb_X7_mergeMarksOf__X5_add gX7_mergeMarksOf_X5_add rfl (hG := (gRow_ob (gSv_ac s3).2.2.2)) rfl rfl (Nat.le_of_ble_eq_true rfl) ⟨Nat.le_refl _, Nat.le_refl _⟩ dX7_mergeMarksOf_75 (gx_kv fun G_75 h_75 => ?_)
        refine gx_iload_n C dX7_mergeMarksOf_78 rfl ?_
        refine gx_zret (mc := 0) C rfl ?_ dX7_mergeMarksOf_79
        have s4 := gSv_ac' s3 (gAcc_3 (gSv_ac s3) h_75.1 h_75.2) (gOut_wd h_75.2 (by omega))
        exact ⟨_, rfl, rfl, s4, gOut_tr hI.2 (gOut_tr (gOut_up gOut_rf (by omega)) (gOut_tr (gOut_wd h_57.2 (by omega)) (gOut_wd h_75.2 (by omega))))⟩
      · have hj : j < (v.2.2.1.getD i shD).2.2.length := by
          rcases Nat.lt_or_ge (j) ((v.2.2.1.getD i shD).2.2.length) with q | q
          · exact q
          · exact absurd (nI_le q (by omega)) c_12
        refine gx_aload_n C dX7_mergeMarksOf_15 rfl ?_
        refine gx_get C fd_X7_mergeMarksOf_29 (hG := hI.1.1) (hv := by rfl) dX7_mergeMarksOf_16 ?_
        refine gx_aload_n C dX7_mergeMarksOf_19 rfl ?_
        refine gx_getN C fd_X7_mergeMarksOf_87 (hG := hsh.1) (hv := by rfl) dX7_mergeMarksOf_20 ?_
        refine gx_iload_n C dX7_mergeMarksOf_23 rfl ?_
        refine gx_callV (ci := 4) (T := TX5) (N := 2) C (k5_get l D A hs (nI j) hsh.2) cb_X7_mergeMarksOf__X5_get gX7_mergeMarksOf_X5_get rfl (hG := (gRow_ob hsh.2)) rfl rfl (Nat.le_of_ble_eq_true rfl) ⟨Nat.le_refl _, Nat.le_refl _⟩ dX7_mergeMarksOf_24 (gx_ki fun r_24 G_24 h_24 => ?_)
        obtain ⟨rfl, rfl⟩ := h_24
        refine gx_aload_n C dX7_mergeMarksOf_27 rfl ?_
        refine gx_getN C fd_X7_mergeMarksOf_81 (hG := hsh.1) (hv := by rfl) dX7_mergeMarksOf_28 ?_
        refine gx_callV (ci := 1) (T := TX2) (N := 4) C (k2_take l D A hs (lget (v.2.2.1.getD i shD).2.2 (nI j)) (v.2.2.1.getD i shD).1 (gSv_li hI.1)) cb_X7_mergeMarksOf__X2_take gX7_mergeMarksOf_X2_take rfl (hG := (gSv_li hI.1).1) rfl rfl (Nat.le_of_ble_eq_true rfl) ⟨Nat.le_refl _, Nat.le_refl _⟩ dX7_mergeMarksOf_31 (gx_ki fun r_31 G_31 h_31 => ?_)
        rw [lget_nI (by omega)] at h_31
        obtain ⟨hr31, hl31, ho31⟩ := h_31
        subst hr31
        have s1 := gSv_li' hI.1 hl31 ho31
        refine gx_if_eq (tgt := 40) C dX7_mergeMarksOf_34 (by decide) (fun c_34 => ?_) (fun c_34 => ?_)
        · have q : ¬ (v.2.2.1.getD i shD).2.2.getD j 0 ∈ (pMg (v.2.2.1.getD i shD).2.2 (v.2.2.1.getD i shD).1 v.2.2.2.1 j).1 := fun q => by
            rw [if_pos q] at c_34; exact absurd c_34 (by decide)
          have hx : pMgU (v.2.2.1.getD i shD).2.2 (v.2.2.1.getD i shD).1 v.2.2.2.1 (j + 1) = pMgU (v.2.2.1.getD i shD).2.2 (v.2.2.1.getD i shD).1 v.2.2.2.1 j := by rw [pMgU, if_neg q]; rfl
          first | refine gx_iincN C dX7_mergeMarksOf_40 rfl (by decide) ?_ | refine gx_iinc1 C dX7_mergeMarksOf_40 rfl (by decide) ?_
          refine gx_goto (tgt := 4) C dX7_mergeMarksOf_43 (by decide) ?_
          refine gx_V ?_ (ih (j + 1) _ (by omega) (by omega) ⟨s1, gOut_tr hI.2 (gOut_wd ho31 (by omega))⟩)
          rw [hx]
          rfl
        · have q : (v.2.2.1.getD i shD).2.2.getD j 0 ∈ (pMg (v.2.2.1.getD i shD).2.2 (v.2.2.1.getD i shD).1 v.2.2.2.1 j).1 := by
            by_cases q : (v.2.2.1.getD i shD).2.2.getD j 0 ∈ (pMg (v.2.2.1.getD i shD).2.2 (v.2.2.1.getD i shD).1 v.2.2.2.1 j).1
            · exact q
            · rw [if_neg q] at c_34; exact absurd rfl c_34
          have hx : pMgU (v.2.2.1.getD i shD).2.2 (v.2.2.1.getD i shD).1 v.2.2.2.1 (j + 1) = pMgU (v.2.2.1.getD i shD).2.2 (v.2.2.1.getD i shD).1 v.2.2.2.1 j + 1 := by rw [pMgU, if_pos q]
          first | refine gx_iincN C dX7_mergeMarksOf_37 rfl (by decide) ?_ | refine gx_iinc1 C dX7_mergeMarksOf_37 rfl (by decide) ?_
          first | refine gx_iincN C dX7_mergeMarksOf_40 rfl (by decide) ?_ | refine gx_iinc1 C dX7_mergeMarksOf_40 rfl (by decide) ?_
          refine gx_goto (tgt := 4) C dX7_mergeMarksOf_43 (by decide) ?_
          refine gx_V ?_ (ih (j + 1) _ (by omega) (by omega) ⟨s1, gOut_tr hI.2 (gOut_wd ho31 (by omega))⟩)
          rw [hx]
          rfl
  refine gx_iconst (v := 0) C dX7_mergeMarksOf_0 (by decide) ?_
  refine gx_istore_n C dX7_mergeMarksOf_1 (by decide) ?_
  refine gx_iconst (v := 0) C dX7_mergeMarksOf_2 (by decide) ?_
  refine gx_istore_n C dX7_mergeMarksOf_3 (by decide) ?_
  exact hloop ((v.2.2.1.getD i shD).2.2.length + 1) 0 _ (by omega) (by omega) ⟨hv, gOut_rf⟩
set_option maxHeartbeats 4000000 in
set_option maxRecDepth 100000 in
/-- X7_endRound -/
theorem k7_endRound (l : Launch) (D : gD) (A : Nat → Prop) (hs : Nat) {G : gH} {S : Nat} {v : SV} (hv : gSv D G S v) {b cap : Nat} {ys : List Int32} (hr : gRow D G b cap ys) (hd : b + 2 ≤ S ∨ S + 45 ≤ b) (hy : ys.length ≤ 100) : gM l yX7_endRound wsX7_endRound (gR 3) D A hs 0 0 [.ref S, .ref b] G (gPv fun G' => gSv D G' S (ys, v.2.1 + 1, [], ([], [], [], []), (lset v.2.2.2.2.1 4 (lget v.2.2.2.2.1 4 + nI (pMkS v.2.2.1 2 v.2.2.1.length)), v.2.2.2.2.2)) ∧ gOut S 45 G G') := by
  refine gM_intro (by decide) rfl rfl (Nat.le_of_ble_eq_true rfl) ?_
  intro p e s m args below meth c C
  have bn := gSv_n hv
  refine gx_aload_n C dX7_endRound_0 rfl ?_
  refine gx_get C fd_X7_endRound_33 (hG := hv.1) (hv := by rfl) dX7_endRound_1 ?_
  refine gx_iconst (v := 4) C dX7_endRound_4 (by decide) ?_
  refine gx_aload_n C dX7_endRound_5 rfl ?_
  refine gx_iconst (v := 2) C dX7_endRound_6 (by decide) ?_
  refine gx_callV (ci := 6) (T := TX7) (N := 9) C (k7_marksOn l D A hs hv 2) cb_X7_endRound__X7_marksOnSheetsThatAre gX7_endRound_X7_marksOnSheetsThatAre rfl (hG := hv.1) rfl rfl (Nat.le_of_ble_eq_true rfl) ⟨Nat.le_refl _, Nat.le_refl _⟩ dX7_endRound_7 (gx_ki fun r_7 G_7 h_7 => ?_)
  obtain ⟨rfl, rfl⟩ := h_7
  refine gx_callV (ci := 4) (T := TX5) (N := 2) C (k5_add l D A hs 4 (nI (pMkS v.2.2.1 2 v.2.2.1.length)) (gSv_ac hv).1) cb_X7_endRound__X5_add gX7_endRound_X5_add rfl (hG := (gRow_ob (gSv_ac hv).1)) rfl rfl (Nat.le_of_ble_eq_true rfl) ⟨Nat.le_refl _, Nat.le_refl _⟩ dX7_endRound_10 (gx_kv fun G_10 h_10 => ?_)
  have s1 := gSv_ac' hv (gAcc_0 (gSv_ac hv) h_10.1 h_10.2) (gOut_wd h_10.2 (by omega))
  have hb1 := gRow_fr hr h_10.2 (by omega)
  refine gx_aload_n C dX7_endRound_13 rfl ?_
  refine gx_get C fd_X7_endRound_14 (hG := s1.1) (hv := by rfl) dX7_endRound_14 ?_
  refine gx_aload_n C dX7_endRound_17 rfl ?_
  refine gx_callV (ci := 4) (T := TX5) (N := 2) C (k5_copyFrom l D A hs (gSv_tx s1) hb1 (by omega) hy) cb_X7_endRound__X5_copyFrom gX7_endRound_X5_copyFrom rfl (hG := (gRow_ob (gSv_tx s1))) rfl rfl (Nat.le_of_ble_eq_true rfl) ⟨Nat.le_refl _, Nat.le_refl _⟩ dX7_endRound_18 (gx_kv fun G_18 h_18 => ?_)
  have s2 := gSv_tx' s1 h_18.1 h_18.2
  refine gx_aload_n C dX7_endRound_21 rfl ?_
  refine gx_get C fd_X7_endRound_29 (hG := s2.1) (hv := by rfl) dX7_endRound_22 ?_
  refine gx_callV (ci := 1) (T := TX2) (N := 4) C (k2_empty l D A hs (gSv_li s2)) cb_X7_endRound__X2_empty gX7_endRound_X2_empty rfl (hG := (gSv_li s2).1) rfl rfl (Nat.le_of_ble_eq_true rfl) ⟨Nat.le_refl _, Nat.le_refl _⟩ dX7_endRound_25 (gx_kv fun G_25 h_25 => ?_)
  have s3 := gSv_li' s2 h_25.1 h_25.2
  refine gx_aload_n C dX7_endRound_28 rfl ?_
  refine gx_iconst (v := 0) C dX7_endRound_29 (by decide) ?_
  refine gx_put C fd_X7_endRound_61 tyX7_ok nmX7 rfl rfl rfl (hG := s3.1) (hl := by exact Nat.le_of_ble_eq_true rfl) dX7_endRound_30 ?_
  have s4 := gSv_sc' s3 (sh := []) ⟨by simp, fun i hi => by
    obtain ⟨c0, q1, -⟩ := (gSv_sh s3).2 i hi
    exact ⟨c0, q1, fun q => absurd q (by simp)⟩⟩
  refine gx_aload_n C dX7_endRound_33 rfl ?_
  refine gx_dup C dX7_endRound_34 rfl ?_
  refine gx_get C fd_X7_endRound_57 (hG := gU_s) (hv := by rfl) dX7_endRound_35 ?_
  refine gx_iconst (v := 1) C dX7_endRound_38 (by decide) ?_
  refine gx_iadd C dX7_endRound_39 ?_
  refine gx_put C fd_X7_endRound_57 tyX7_ok nmX7 rfl rfl rfl (hG := gU_s) (hl := by exact Nat.le_of_ble_eq_true rfl) dX7_endRound_40 ?_
  have s5 := gSv_rd' (x := v.2.1 + 1) s4
  refine gx_vret (mc := 0) C ?_ dX7_endRound_43
  exact ⟨rfl, s5, gOut_up (gOut_up (gOut_tr (gOut_wd h_10.2 (by omega)) (gOut_tr (gOut_wd h_18.2 (by omega)) (gOut_wd h_25.2 (by omega)))) (by omega)) (by omega)⟩
end
section
/-! THE HISTORY -/
def gRefs (D : gD) (G : gH) (h : Nat) (pm : Nat → Nat) : Prop := ∃ f : Nat → Option Nat, G (h + 1) = some (.inl (D.1.1 102, 4, .inr (.inr (.inr (.inr f))))) ∧ ∀ i : Nat, i < 4 → f i = some (pm i)
def gPm (h : Nat) (pm : Nat → Nat) : Prop := (∀ i : Nat, i < 4 → ∃ k : Nat, k < 4 ∧ pm i = h + 2 + 45 * k) ∧ ∀ i j : Nat, i < 4 → j < 4 → pm i = pm j → i = j
def gHist (D : gD) (G : gH) (h : Nat) (hi : List SV) : Prop := ∃ pm : Nat → Nat, G h = some (.inr (0, [.ref (h + 1), .int (nI hi.length)])) ∧ gRefs D G h pm ∧ hi.length ≤ 4 ∧ gPm h pm ∧ ∀ i : Nat, i < 4 → ∃ v : SV, gSv D G (pm i) v ∧ ∀ q : i < hi.length, v = hi[i]
def pDrop (hi : List SV) : List SV := if hi.length = 4 then hi.drop 1 else hi
def pRec (hi : List SV) (v : SV) : List SV := pDrop hi ++ [v]
theorem gHist_n {D : gD} {G : gH} {h : Nat} {hi : List SV} (q : gHist D G h hi) : hi.length ≤ 4 := by
  obtain ⟨pm, h1, h2, h3, -⟩ := q
  exact h3
theorem gHist_fr {D : gD} {G G' : gH} {h b n : Nat} {hi : List SV} (q : gHist D G h hi) (ho : gOut b n G G') (hd : h + 182 ≤ b ∨ b + n ≤ h) : gHist D G' h hi := by
  obtain ⟨pm, h1, ⟨f, h2, h2b⟩, h3, h4, h5⟩ := q
  refine ⟨pm, by rw [ho h (by omega)]; exact h1, ⟨f, by rw [ho (h + 1) (by omega)]; exact h2, h2b⟩, h3, h4, fun i hi => ?_⟩
  obtain ⟨v, q1, q2⟩ := h5 i hi
  obtain ⟨k, hk, e⟩ := h4.1 i hi
  exact ⟨v, gSv_fr q1 ho (by omega), q2⟩
theorem gHist_ob {D : gD} {G : gH} {h : Nat} {hi : List SV} (q : gHist D G h hi) : G h = some (.inr (0, [.ref (h + 1), .int (nI hi.length)])) := by
  obtain ⟨pm, h1, -⟩ := q
  exact h1
def pRot (pm : Nat → Nat) (n : Nat) : Nat → Nat := fun i => if i < n then pm (i + 1) else if i = n then pm 0 else pm i
set_option maxRecDepth 20000 in
theorem in_X0_dropOldest_X0 : ∀ w ∈ wsX00, w ∈ wsX0_dropOldest := by decide +kernel
set_option maxRecDepth 20000 in
theorem fd_X0_dropOldest_11 : gFd wsX0_dropOldest RX0 11 0 RX0 TX0 2 0 := ⟨in_X0_dropOldest_X0, rfl, by decide, by decide +kernel⟩
set_option maxRecDepth 20000 in
theorem fd_X0_dropOldest_18 : gFd wsX0_dropOldest RX0 18 0 RX0 TX0 2 1 := ⟨in_X0_dropOldest_X0, rfl, by decide, by decide +kernel⟩
set_option maxRecDepth 20000 in
theorem in_X0_record_X0 : ∀ w ∈ wsX00, w ∈ wsX0_record := by decide +kernel
set_option maxRecDepth 20000 in
theorem fd_X0_record_18 : gFd wsX0_record RX0 18 0 RX0 TX0 2 1 := ⟨in_X0_record_X0, rfl, by decide, by decide +kernel⟩
set_option maxRecDepth 20000 in
theorem fd_X0_record_11 : gFd wsX0_record RX0 11 0 RX0 TX0 2 0 := ⟨in_X0_record_X0, rfl, by decide, by decide +kernel⟩
theorem cb_X0_record__X7_copyFrom : gCb yX7_copyFrom cX7_copyFrom 3 none wsX7_copyFrom (gR 3) (gR 4) 0 0 1 := ⟨rfl, rfl, rfl, by decide +kernel, by decide⟩
theorem cb_X0_record__X0_dropOldest : gCb yX0_dropOldest cX0_dropOldest 3 none wsX0_dropOldest (gR 0) (gR 4) 0 0 0 := ⟨rfl, rfl, rfl, by decide +kernel, by decide⟩
set_option maxRecDepth 20000 in
theorem in_X0_restore_X0 : ∀ w ∈ wsX00, w ∈ wsX0_restore := by decide +kernel
set_option maxRecDepth 20000 in
theorem fd_X0_restore_18 : gFd wsX0_restore RX0 18 0 RX0 TX0 2 1 := ⟨in_X0_restore_X0, rfl, by decide, by decide +kernel⟩
set_option maxRecDepth 20000 in
theorem fd_X0_restore_11 : gFd wsX0_restore RX0 11 0 RX0 TX0 2 0 := ⟨in_X0_restore_X0, rfl, by decide, by decide +kernel⟩
theorem cb_X0_restore__X7_copyFrom : gCb yX7_copyFrom cX7_copyFrom 3 none wsX7_copyFrom (gR 3) (gR 4) 0 0 1 := ⟨rfl, rfl, rfl, by decide +kernel, by decide⟩
set_option maxHeartbeats 4000000 in
set_option maxRecDepth 100000 in
/-- X0_dropOldest -/
theorem k0_dropOldest (l : Launch) (D : gD) (A : Nat → Prop) (hs : Nat) {G : gH} {h n0 : Nat} {pm : Nat → Nat} (ho : G h = some (.inr (0, [.ref (h + 1), .int (nI n0)]))) (hr : gRefs D G h pm) (hpm : gPm h pm) (hst : ∀ i : Nat, i < 4 → ∃ v : SV, gSv D G (pm i) v) : gM l yX0_dropOldest wsX0_dropOldest (gR 0) D A hs 0 0 [.ref h] G (gPv fun G' => gRefs D G' h (pRot pm 3) ∧ G' h = some (.inr (0, [.ref (h + 1), .int (nI n0 - 1)])) ∧ gOut h 2 G G') := by
  refine gM_intro (by decide) rfl rfl (Nat.le_of_ble_eq_true rfl) ?_
  intro p e s m args below meth c C
  have hloop : ∀ (n j : Nat) (G1 : gH) (V2 : Option Value), 3 < j + n → j ≤ 3 → gRefs D G1 h (pRot pm j) ∧ G1 h = some (.inr (0, [.ref (h + 1), .int (nI n0)])) ∧ gOut h 2 G G1 → gX p l e (gR 0) s m args below meth c D A 3 hs 0 0 (MQ below (gQ D A hs 0 (gPv fun G' => gRefs D G' h (pRot pm 3) ∧ G' h = some (.inr (0, [.ref (h + 1), .int (nI n0 - 1)])) ∧ gOut h 2 G G')) args s 0 0 A) G1 [some (.ref h), some (.int (nI j)), V2] 2 [] := by
    intro n
    induction n with
    | zero => intro j G1 V2 hm hj0 hI; exact absurd hm (by omega)
    | succ n ih =>
      intro j G1 V2 hm hj0 hI
      refine gx_iload_n C dX0_dropOldest_2 rfl ?_
      obtain ⟨⟨f, a1, a2⟩, o1, ww⟩ := hI
      have e0 : pRot pm j j = pm 0 := by simp [pRot]
      have e1 : pRot pm j (j + 1) = pm (j + 1) := by simp only [pRot]; rw [if_neg (by omega), if_neg (by omega)]
      refine gx_iconst (v := 1) C dX0_dropOldest_3 (by decide) ?_
      refine gx_iadd C dX0_dropOldest_4 ?_
      refine gx_top (nI_1 j) ?_
      refine gx_aload_n C dX0_dropOldest_5 rfl ?_
      refine gx_get C fd_X0_dropOldest_11 (hG := o1) (hv := by rfl) dX0_dropOldest_6 ?_
      refine gx_alen (t0 := 2) C (hG := a1) (ht := by rfl) (hv := by rfl) dX0_dropOldest_9 ?_
      refine gx_icmp_ge (tgt := 49) C dX0_dropOldest_10 (by decide) (fun c_10 => ?_) (fun c_10 => ?_)
      · have hj : ¬ j + 1 < 4 := fun q => nI_ge q (by omega) c_10
        refine gx_aload_n C dX0_dropOldest_49 rfl ?_
        refine gx_dup C dX0_dropOldest_50 rfl ?_
        refine gx_get C fd_X0_dropOldest_18 (hG := o1) (hv := by rfl) dX0_dropOldest_51 ?_
        refine gx_iconst (v := 1) C dX0_dropOldest_54 (by decide) ?_
        refine gx_isub C dX0_dropOldest_55 ?_
        refine gx_put C fd_X0_dropOldest_18 tyX0_ok nmX0 rfl rfl rfl (hG := o1) (hl := by exact Nat.le_of_ble_eq_true rfl) dX0_dropOldest_56 ?_
        refine gx_vret (mc := 0) C ?_ dX0_dropOldest_59
        have e : j = 3 := by omega
        subst e
        exact ⟨rfl, ⟨f, by rw [gU_n (by omega)]; exact a1, a2⟩, gU_s, gOut_up ww (by omega)⟩
      · have hj : j + 1 < 4 := by
          rcases Nat.lt_or_ge (j + 1) 4 with q | q
          · exact q
          · exact absurd (nI_le q (by omega)) c_10
        refine gx_aload_n C dX0_dropOldest_13 rfl ?_
        refine gx_get C fd_X0_dropOldest_11 (hG := o1) (hv := by rfl) dX0_dropOldest_14 ?_
        refine gx_iload_n C dX0_dropOldest_17 rfl ?_
        refine gx_aald (t0 := 2) C (hG := a1) (ht := by rfl) (hin := vp_in_nI (show j < 4 by omega) (by omega)) dX0_dropOldest_18 ?_
        rw [nI_clamp (by omega), a2 j (by omega), e0]
        refine gx_astore_n C dX0_dropOldest_19 (by decide) ?_
        refine gx_aload_n C dX0_dropOldest_20 rfl ?_
        refine gx_get C fd_X0_dropOldest_11 (hG := o1) (hv := by rfl) dX0_dropOldest_21 ?_
        refine gx_iload_n C dX0_dropOldest_24 rfl ?_
        refine gx_aload_n C dX0_dropOldest_25 rfl ?_
        refine gx_get C fd_X0_dropOldest_11 (hG := o1) (hv := by rfl) dX0_dropOldest_26 ?_
        refine gx_iload_n C dX0_dropOldest_29 rfl ?_
        refine gx_iconst (v := 1) C dX0_dropOldest_30 (by decide) ?_
        refine gx_iadd C dX0_dropOldest_31 ?_
        refine gx_top (nI_1 j) ?_
        refine gx_aald (t0 := 2) C (hG := a1) (ht := by rfl) (hin := vp_in_nI (show j + 1 < 4 by omega) (by omega)) dX0_dropOldest_32 ?_
        rw [nI_clamp (by omega), a2 (j + 1) (by omega), e1]
        obtain ⟨v1, q1⟩ := hst (j + 1) (by omega)
        obtain ⟨v2, q2⟩ := hst 0 (by omega)
        obtain ⟨k1, -, ek1⟩ := hpm.1 (j + 1) (by omega)
        obtain ⟨k2, -, ek2⟩ := hpm.1 0 (by omega)
        have q1' := gSv_fr q1 ww (by omega)
        have q2' := gSv_fr q2 ww (by omega)
        refine gx_aast (t0 := 2) (r := (RX7, TX7, 9)) C (hG := a1) (ht := by rfl) (hv := q1'.1) (hc := by rfl) (hin := vp_in_nI (show j < 4 by omega) (by omega)) dX0_dropOldest_33 ?_
        have o2 := (gU_n (G := G1) (a := h + 1) (b := h) (e := .inl (D.1.1 102, 4, .inr (.inr (.inr (.inr (va_up f (nI j).toNatClampNeg (some (pm (j + 1))))))))) (by omega)).trans o1
        refine gx_aload_n C dX0_dropOldest_34 rfl ?_
        refine gx_get C fd_X0_dropOldest_11 (hG := o2) (hv := by rfl) dX0_dropOldest_35 ?_
        refine gx_iload_n C dX0_dropOldest_38 rfl ?_
        refine gx_iconst (v := 1) C dX0_dropOldest_39 (by decide) ?_
        refine gx_iadd C dX0_dropOldest_40 ?_
        refine gx_top (nI_1 j) ?_
        refine gx_aload_n C dX0_dropOldest_41 rfl ?_
        have q2'' := (gU_n (G := G1) (a := h + 1) (b := pm 0) (e := .inl (D.1.1 102, 4, .inr (.inr (.inr (.inr (va_up f (nI j).toNatClampNeg (some (pm (j + 1))))))))) (by omega)).trans q2'.1
        refine gx_aast (t0 := 2) (r := (RX7, TX7, 9)) C (hG := gU_s) (ht := by rfl) (hv := q2'') (hc := by rfl) (hin := vp_in_nI (show j + 1 < 4 by omega) (by omega)) dX0_dropOldest_42 ?_
        first | refine gx_iincN C dX0_dropOldest_43 rfl (by decide) ?_ | refine gx_iinc1 C dX0_dropOldest_43 rfl (by decide) ?_
        refine gx_goto (tgt := 2) C dX0_dropOldest_46 (by decide) ?_
        refine ih (j + 1) _ _ (by omega) (by omega) ⟨⟨_, gU_s, fun i hi => ?_⟩, by rw [gU_n (by omega)]; exact o2, gOut_up (gOut_up ww (by omega)) (by omega)⟩
        rw [nI_clamp (by omega), nI_clamp (by omega)]
        have x0 := a2 i hi
        simp only [va_up]
        by_cases y1 : i = j + 1
        · rw [if_pos y1]; simp [pRot, y1]
        · rw [if_neg y1]
          by_cases y2 : i = j
          · rw [if_pos y2]; simp [pRot, y2]
          · rw [if_neg y2, x0]
            simp only [pRot]
            by_cases y3 : i < j
            · rw [if_pos y3, if_pos (by omega)]
            · rw [if_neg y3, if_neg y2, if_neg (by omega), if_neg y1]
  refine gx_iconst (v := 0) C dX0_dropOldest_0 (by decide) ?_
  refine gx_istore_n C dX0_dropOldest_1 (by decide) ?_
  exact hloop 4 0 _ _ (by omega) (by omega) ⟨by
    obtain ⟨f, a1, a2⟩ := hr
    exact ⟨f, a1, fun i hi => by rw [a2 i hi]; simp only [pRot]; by_cases y : i = 0 <;> simp [y]⟩, ho, gOut_rf⟩
set_option maxHeartbeats 4000000 in
set_option maxRecDepth 100000 in
/-- X0_record -/
theorem k0_record (l : Launch) (D : gD) (A : Nat → Prop) (hs : Nat) {G : gH} {h S : Nat} {hi : List SV} {v : SV} (hq : gHist D G h hi) (hv : gSv D G S v) (hd : S + 45 ≤ h) : gM l yX0_record wsX0_record (gR 4) D A hs 0 0 [.ref h, .ref S] G (gPv fun G' => gHist D G' h (pRec hi v) ∧ gOut h 182 G G') := by
  refine gM_intro (by decide) rfl rfl (Nat.le_of_ble_eq_true rfl) ?_
  intro p e s m args below meth c C
  have h4 := gHist_n hq
  have hJx : ∀ G1 : gH, gHist D G1 h (pDrop hi) ∧ gOut h 182 G G1 → gX p l e (gR 4) s m args below meth c D A 2 hs 0 0 (MQ below (gQ D A hs 0 (gPv fun G' => gHist D G' h (pRec hi v) ∧ gOut h 182 G G')) args s 0 0 A) G1 [some (.ref h), some (.ref S)] 16 [] := by
    intro G1 hJ
    obtain ⟨pm, o1, ⟨f, a1, a2⟩, h3, h4, h5⟩ := id hJ.1
    have hn : (pDrop hi).length < 4 := by
      unfold pDrop
      split
      · simp; omega
      · omega
    refine gx_aload_n C dX0_record_16 rfl ?_
    refine gx_get C fd_X0_record_18 (hG := o1) (hv := by rfl) dX0_record_17 ?_
    refine gx_if_lt (tgt := 70) C dX0_record_20 (by decide) (fun c_20 => ?_) (fun c_20 => ?_)
    · exact absurd c_20 (nI_pos (by omega))
    · refine gx_aload_n C dX0_record_23 rfl ?_
      refine gx_get C fd_X0_record_18 (hG := o1) (hv := by rfl) dX0_record_24 ?_
      refine gx_aload_n C dX0_record_27 rfl ?_
      refine gx_get C fd_X0_record_11 (hG := o1) (hv := by rfl) dX0_record_28 ?_
      refine gx_alen (t0 := 2) C (hG := a1) (ht := by rfl) (hv := by rfl) dX0_record_31 ?_
      refine gx_icmp_ge (tgt := 70) C dX0_record_32 (by decide) (fun c_32 => ?_) (fun c_32 => ?_)
      · exact absurd c_32 (nI_ge hn (by omega))
      · refine gx_aload_n C dX0_record_35 rfl ?_
        refine gx_get C fd_X0_record_11 (hG := o1) (hv := by rfl) dX0_record_36 ?_
        refine gx_aload_n C dX0_record_39 rfl ?_
        refine gx_get C fd_X0_record_18 (hG := o1) (hv := by rfl) dX0_record_40 ?_
        refine gx_aald (t0 := 2) C (hG := a1) (ht := by rfl) (hin := vp_in_nI hn (by omega)) dX0_record_43 ?_
        rw [nI_clamp (by omega), a2 _ hn]
        refine gx_ifnull C dX0_record_44 ?_
        refine gx_aload_n C dX0_record_47 rfl ?_
        refine gx_get C fd_X0_record_11 (hG := o1) (hv := by rfl) dX0_record_48 ?_
        refine gx_aload_n C dX0_record_51 rfl ?_
        refine gx_get C fd_X0_record_18 (hG := o1) (hv := by rfl) dX0_record_52 ?_
        refine gx_aald (t0 := 2) C (hG := a1) (ht := by rfl) (hin := vp_in_nI hn (by omega)) dX0_record_55 ?_
        rw [nI_clamp (by omega), a2 _ hn]
        obtain ⟨v1, p1, -⟩ := h5 _ hn
        obtain ⟨kn, hkn, ekn⟩ := h4.1 _ hn
        have pS := gSv_fr hv hJ.2 (Or.inl (by omega))
        refine gx_aload_n C dX0_record_56 rfl ?_
        refine gx_callV (ci := 6) (T := TX7) (N := 9) C (k7_copyFrom l D A hs p1 pS (by omega)) cb_X0_record__X7_copyFrom gX0_record_X7_copyFrom rfl (hG := p1.1) rfl rfl (Nat.le_of_ble_eq_true rfl) ⟨Nat.le_refl _, Nat.le_refl _⟩ dX0_record_57 (gx_kv fun G_57 h_57 => ?_)
        have o2 : G_57 h = _ := (h_57.2 h (by omega)).trans o1
        refine gx_aload_n C dX0_record_60 rfl ?_
        refine gx_dup C dX0_record_61 rfl ?_
        refine gx_get C fd_X0_record_18 (hG := o2) (hv := by rfl) dX0_record_62 ?_
        refine gx_iconst (v := 1) C dX0_record_65 (by decide) ?_
        refine gx_iadd C dX0_record_66 ?_
        refine gx_put C fd_X0_record_18 tyX0_ok nmX0 rfl rfl rfl (hG := o2) (hl := by exact Nat.le_of_ble_eq_true rfl) dX0_record_67 ?_
        refine gx_vret (mc := 0) C ?_ dX0_record_70
        refine ⟨rfl, ⟨pm, ?_, ⟨f, ?_, a2⟩, ?_, h4, fun i hi4 => ?_⟩, gOut_up (gOut_tr hJ.2 (gOut_wd h_57.2 (by omega))) (by omega)⟩
        · have e : (pRec hi v).length = (pDrop hi).length + 1 := by simp [pRec]
          rw [e, ← nI_1]
          exact gU_s
        · rw [gU_n (by omega), h_57.2 (h + 1) (by omega)]
          exact a1
        · simp [pRec]; omega
        · have wu : gOut h 1 G_57 _ := gOut_up (e := .inr (0, [.ref (h + 1), .int (nI (pDrop hi).length + 1)])) (b := h) gOut_rf (by omega)
          by_cases y : i = (pDrop hi).length
          · subst y
            exact ⟨v, gSv_fr h_57.1 wu (by omega), fun _ => by simp [pRec]⟩
          · obtain ⟨v2, p2, p3⟩ := h5 i hi4
            obtain ⟨k2, hk2, ek2⟩ := h4.1 i hi4
            have hne : k2 ≠ kn := fun q => y (h4.2 _ _ hi4 hn (by rw [ek2, ekn, q]))
            refine ⟨v2, gSv_fr (gSv_fr p2 h_57.2 (by omega)) wu (by omega), fun q => ?_⟩
            have q2 : i < (pDrop hi).length := by simp [pRec] at q; omega
            rw [p3 q2]
            simp [pRec, List.getElem_append_left q2]
  obtain ⟨pm, o1, hr, h3, hpm, h5⟩ := id hq
  obtain ⟨f, a1, a2⟩ := id hr
  refine gx_aload_n C dX0_record_0 rfl ?_
  refine gx_get C fd_X0_record_18 (hG := o1) (hv := by rfl) dX0_record_1 ?_
  refine gx_aload_n C dX0_record_4 rfl ?_
  refine gx_get C fd_X0_record_11 (hG := o1) (hv := by rfl) dX0_record_5 ?_
  refine gx_alen (t0 := 2) C (hG := a1) (ht := by rfl) (hv := by rfl) dX0_record_8 ?_
  refine gx_icmp_lt (tgt := 16) C dX0_record_9 (by decide) (fun c_9 => ?_) (fun c_9 => ?_)
  · have hl : ¬ hi.length = 4 := fun q => by
      rw [q] at c_9; exact nI_nlt (a := 4) (b := 4) (by omega) (by omega) c_9
    have hx := hJx _ ⟨by rw [pDrop, if_neg hl]; exact hq, gOut_rf⟩
    exact hx
  · have hl : hi.length = 4 := by
      rcases Nat.lt_or_ge hi.length 4 with q | q
      · exact absurd (nI_lt q (by omega)) c_9
      · omega
    refine gx_aload_n C dX0_record_12 rfl ?_
    refine gx_callV (ci := 0) (T := TX0) (N := 2) C (k0_dropOldest l D A hs o1 hr hpm (fun i hi => by obtain ⟨v, q, -⟩ := h5 i hi; exact ⟨v, q⟩)) cb_X0_record__X0_dropOldest gX0_record_X0_dropOldest rfl (hG := o1) rfl rfl (Nat.le_of_ble_eq_true rfl) ⟨Nat.le_refl _, Nat.le_refl _⟩ dX0_record_13 (gx_kv fun G_13 h_13 => ?_)
    have ed : pDrop hi = hi.drop 1 := by rw [pDrop, if_pos hl]
    have hx := hJx G_13 ⟨by
      rw [ed]
      refine ⟨pRot pm 3, ?_, h_13.1, by simp; omega, ⟨fun i hi => ?_, fun i j hi hj e => ?_⟩, fun i hi4 => ?_⟩
      · rw [h_13.2.1, List.length_drop]
        have e : (nI hi.length - 1 : Int32) = nI (hi.length - 1) := gz_pred (by omega)
        rw [e]
      · simp only [pRot]
        by_cases y : i < 3
        · rw [if_pos y]; exact hpm.1 _ (by omega)
        · rw [if_neg y, if_pos (by omega)]; exact hpm.1 _ (by omega)
      · simp only [pRot] at e
        by_cases y : i < 3 <;> by_cases y2 : j < 3 <;> simp only [y, y2, if_true, if_false] at e
        · have := hpm.2 _ _ (by omega) (by omega) e; omega
        · rw [if_pos (by omega)] at e; have := hpm.2 _ _ (by omega) (by omega) e; omega
        · rw [if_pos (by omega)] at e; have := hpm.2 _ _ (by omega) (by omega) e; omega
        · omega
      · simp only [pRot]
        by_cases y : i < 3
        · rw [if_pos y]
          obtain ⟨v2, p2, p3⟩ := h5 (i + 1) (by omega)
          obtain ⟨k2, hk2, ek2⟩ := hpm.1 (i + 1) (by omega)
          refine ⟨v2, gSv_fr p2 h_13.2.2 (by omega), fun q => ?_⟩
          rw [p3 (by omega)]
          simp [Nat.add_comm]
        · rw [if_neg y, if_pos (by omega)]
          obtain ⟨v2, p2, -⟩ := h5 0 (by omega)
          obtain ⟨k2, hk2, ek2⟩ := hpm.1 0 (by omega)
          exact ⟨v2, gSv_fr p2 h_13.2.2 (by omega), fun q => absurd q (by simp; omega)⟩, gOut_wd h_13.2.2 (by omega)⟩
    exact hx
set_option maxHeartbeats 4000000 in
set_option maxRecDepth 100000 in
/-- X0_restore -/
theorem k0_restore (l : Launch) (D : gD) (A : Nat → Prop) (hs : Nat) {G : gH} {h S : Nat} {hi : List SV} {v w : SV} (hq : gHist D G h (hi ++ [w])) (hv : gSv D G S v) (hd : S + 45 = h) : gM l yX0_restore wsX0_restore (gR 4) D A hs 0 0 [.ref h, .ref S] G (gPv fun G' => gSv D G' S w ∧ gHist D G' h hi ∧ gOut S 46 G G') := by
  refine gM_intro (by decide) rfl rfl (Nat.le_of_ble_eq_true rfl) ?_
  intro p e s m args below meth c C
  obtain ⟨pm, o1, ⟨f, a1, a2⟩, h3, h4, h5⟩ := id hq
  have hlen : (hi ++ [w]).length = hi.length + 1 := by simp
  have e1 : (nI (hi ++ [w]).length - 1 : Int32) = nI hi.length := by
    rw [hlen]
    exact gz_pred (n := hi.length + 1) (by omega)
  have hn : hi.length < 4 := by omega
  refine gx_aload_n C dX0_restore_0 rfl ?_
  refine gx_get C fd_X0_restore_18 (hG := o1) (hv := by rfl) dX0_restore_1 ?_
  refine gx_iconst (v := 1) C dX0_restore_4 (by decide) ?_
  refine gx_isub C dX0_restore_5 ?_
  refine gx_top e1 ?_
  refine gx_istore_n C dX0_restore_6 (by decide) ?_
  refine gx_iload_n C dX0_restore_7 rfl ?_
  refine gx_if_lt (tgt := 44) C dX0_restore_8 (by decide) (fun c_8 => ?_) (fun c_8 => ?_)
  · exact absurd c_8 (nI_pos (by omega))
  · refine gx_iload_n C dX0_restore_11 rfl ?_
    refine gx_aload_n C dX0_restore_12 rfl ?_
    refine gx_get C fd_X0_restore_11 (hG := o1) (hv := by rfl) dX0_restore_13 ?_
    refine gx_alen (t0 := 2) C (hG := a1) (ht := by rfl) (hv := by rfl) dX0_restore_16 ?_
    refine gx_icmp_ge (tgt := 44) C dX0_restore_17 (by decide) (fun c_17 => ?_) (fun c_17 => ?_)
    · exact absurd c_17 (nI_ge hn (by omega))
    · refine gx_aload_n C dX0_restore_20 rfl ?_
      refine gx_get C fd_X0_restore_11 (hG := o1) (hv := by rfl) dX0_restore_21 ?_
      refine gx_iload_n C dX0_restore_24 rfl ?_
      refine gx_aald (t0 := 2) C (hG := a1) (ht := by rfl) (hin := vp_in_nI hn (by omega)) dX0_restore_25 ?_
      rw [nI_clamp (by omega), a2 _ hn]
      refine gx_ifnull C dX0_restore_26 ?_
      refine gx_aload_n C dX0_restore_29 rfl ?_
      refine gx_aload_n C dX0_restore_30 rfl ?_
      refine gx_get C fd_X0_restore_11 (hG := o1) (hv := by rfl) dX0_restore_31 ?_
      refine gx_iload_n C dX0_restore_34 rfl ?_
      refine gx_aald (t0 := 2) C (hG := a1) (ht := by rfl) (hin := vp_in_nI hn (by omega)) dX0_restore_35 ?_
      rw [nI_clamp (by omega), a2 _ hn]
      obtain ⟨v1, p1, p1b⟩ := h5 _ hn
      obtain ⟨kn, hkn, ekn⟩ := h4.1 _ hn
      have ew : v1 = w := by rw [p1b (by omega)]; simp
      subst ew
      refine gx_callV (ci := 6) (T := TX7) (N := 9) C (k7_copyFrom l D A hs hv p1 (by omega)) cb_X0_restore__X7_copyFrom gX0_restore_X7_copyFrom rfl (hG := hv.1) rfl rfl (Nat.le_of_ble_eq_true rfl) ⟨Nat.le_refl _, Nat.le_refl _⟩ dX0_restore_36 (gx_kv fun G_36 h_36 => ?_)
      have o2 : G_36 h = _ := (h_36.2 h (by omega)).trans o1
      refine gx_aload_n C dX0_restore_39 rfl ?_
      refine gx_iload_n C dX0_restore_40 rfl ?_
      refine gx_put C fd_X0_restore_18 tyX0_ok nmX0 rfl rfl rfl (hG := o2) (hl := by exact Nat.le_of_ble_eq_true rfl) dX0_restore_41 ?_
      refine gx_vret (mc := 0) C ?_ dX0_restore_44
      have wu : gOut h 1 G_36 _ := gOut_up (e := .inr (0, [.ref (h + 1), .int (nI hi.length)])) (b := h) gOut_rf (by omega)
      refine ⟨rfl, gSv_fr h_36.1 wu (by omega), ⟨pm, gU_s, ⟨f, ?_, a2⟩, by omega, h4, fun i hi4 => ?_⟩, gOut_up (gOut_wd h_36.2 (by omega)) (by omega)⟩
      · rw [gU_n (by omega), h_36.2 (h + 1) (by omega)]
        exact a1
      · obtain ⟨v2, p2, p3⟩ := h5 i hi4
        obtain ⟨k2, hk2, ek2⟩ := h4.1 i hi4
        refine ⟨v2, gSv_fr (gSv_fr p2 h_36.2 (by omega)) wu (by omega), fun q => ?_⟩
        rw [p3 (by omega), List.getElem_append_left q]
end
