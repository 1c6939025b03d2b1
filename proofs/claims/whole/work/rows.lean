section
-- ===== PART A: goes FIRST, ahead of the names: the tables' words, and 'selects' of the private methods out of them =====
/-- a private method of a class that the tables say can be made, by its rows of tables_1 -/
def lw_okq (q : MethodName × Nat) : Prop := (q.1.cls ≠ "java/lang/invoke/MethodHandle" ∧ q.1.cls ≠ "java/lang/invoke/VarHandle") ∧ Cond.instantiable q.1.cls q.2 ∈ tables_1 ∧ Cond.privateMethod q.1 ∈ tables_1 ∧ Cond.instanceMethod q.1 ∈ tables_1
theorem lw_p0 : lw_okq (⟨"IcedTooSoon$Tape", "next", "()V"⟩, 9) := ⟨⟨by decide +kernel, by decide +kernel⟩, List.mem_of_getElem? (i := 49) (by decide +kernel), List.mem_of_getElem? (i := 215) (by decide +kernel), List.mem_of_getElem? (i := 216) (by decide +kernel)⟩
theorem lw_p1 : lw_okq (⟨"IcedTooSoon$Tape", "nextWord", "()V"⟩, 9) := ⟨⟨by decide +kernel, by decide +kernel⟩, List.mem_of_getElem? (i := 49) (by decide +kernel), List.mem_of_getElem? (i := 222) (by decide +kernel), List.mem_of_getElem? (i := 223) (by decide +kernel)⟩
theorem lw_p2 : lw_okq (⟨"IcedTooSoon$Tape", "isWord", "(I)Z"⟩, 9) := ⟨⟨by decide +kernel, by decide +kernel⟩, List.mem_of_getElem? (i := 49) (by decide +kernel), List.mem_of_getElem? (i := 226) (by decide +kernel), List.mem_of_getElem? (i := 227) (by decide +kernel)⟩
theorem lw_p3 : lw_okq (⟨"IcedTooSoon$Tape", "nextNumber", "()V"⟩, 9) := ⟨⟨by decide +kernel, by decide +kernel⟩, List.mem_of_getElem? (i := 49) (by decide +kernel), List.mem_of_getElem? (i := 237) (by decide +kernel), List.mem_of_getElem? (i := 238) (by decide +kernel)⟩
theorem lw_p4 : lw_okq (⟨"IcedTooSoon$Tape", "readLevel", "(II)Z"⟩, 9) := ⟨⟨by decide +kernel, by decide +kernel⟩, List.mem_of_getElem? (i := 49) (by decide +kernel), List.mem_of_getElem? (i := 301) (by decide +kernel), List.mem_of_getElem? (i := 302) (by decide +kernel)⟩
theorem lw_p5 : lw_okq (⟨"IcedTooSoon$Tape", "readOne", "(I)Z"⟩, 9) := ⟨⟨by decide +kernel, by decide +kernel⟩, List.mem_of_getElem? (i := 49) (by decide +kernel), List.mem_of_getElem? (i := 305) (by decide +kernel), List.mem_of_getElem? (i := 306) (by decide +kernel)⟩
theorem lw_p6 : lw_okq (⟨"IcedTooSoon$Tape", "readTurned", "(II)Z"⟩, 9) := ⟨⟨by decide +kernel, by decide +kernel⟩, List.mem_of_getElem? (i := 49) (by decide +kernel), List.mem_of_getElem? (i := 309) (by decide +kernel), List.mem_of_getElem? (i := 310) (by decide +kernel)⟩
theorem lw_p7 : lw_okq (⟨"IcedTooSoon$Tape", "write", "(I)V"⟩, 9) := ⟨⟨by decide +kernel, by decide +kernel⟩, List.mem_of_getElem? (i := 49) (by decide +kernel), List.mem_of_getElem? (i := 313) (by decide +kernel), List.mem_of_getElem? (i := 314) (by decide +kernel)⟩
theorem lw_p8 : lw_okq (⟨"IcedTooSoon$Tape", "readInner", "(I)Z"⟩, 9) := ⟨⟨by decide +kernel, by decide +kernel⟩, List.mem_of_getElem? (i := 49) (by decide +kernel), List.mem_of_getElem? (i := 317) (by decide +kernel), List.mem_of_getElem? (i := 318) (by decide +kernel)⟩
theorem lw_p9 : lw_okq (⟨"IcedTooSoon$Tape", "joins", "(I)Z"⟩, 9) := ⟨⟨by decide +kernel, by decide +kernel⟩, List.mem_of_getElem? (i := 49) (by decide +kernel), List.mem_of_getElem? (i := 324) (by decide +kernel), List.mem_of_getElem? (i := 325) (by decide +kernel)⟩
theorem lw_p10 : lw_okq (⟨"IcedTooSoon", "nextOff", "(I)I"⟩, 7) := ⟨⟨by decide +kernel, by decide +kernel⟩, List.mem_of_getElem? (i := 18) (by decide +kernel), List.mem_of_getElem? (i := 503) (by decide +kernel), List.mem_of_getElem? (i := 504) (by decide +kernel)⟩
theorem lw_p11 : lw_okq (⟨"IcedTooSoon", "think", "()V"⟩, 7) := ⟨⟨by decide +kernel, by decide +kernel⟩, List.mem_of_getElem? (i := 18) (by decide +kernel), List.mem_of_getElem? (i := 507) (by decide +kernel), List.mem_of_getElem? (i := 508) (by decide +kernel)⟩
theorem lw_p12 : lw_okq (⟨"IcedTooSoon", "pass", "(I)V"⟩, 7) := ⟨⟨by decide +kernel, by decide +kernel⟩, List.mem_of_getElem? (i := 18) (by decide +kernel), List.mem_of_getElem? (i := 569) (by decide +kernel), List.mem_of_getElem? (i := 570) (by decide +kernel)⟩
theorem lw_p13 : lw_okq (⟨"IcedTooSoon", "moodIfIced", "(III)I"⟩, 7) := ⟨⟨by decide +kernel, by decide +kernel⟩, List.mem_of_getElem? (i := 18) (by decide +kernel), List.mem_of_getElem? (i := 597) (by decide +kernel), List.mem_of_getElem? (i := 598) (by decide +kernel)⟩
theorem lw_p14 : lw_okq (⟨"IcedTooSoon", "moodIfSpilt", "(II)I"⟩, 7) := ⟨⟨by decide +kernel, by decide +kernel⟩, List.mem_of_getElem? (i := 18) (by decide +kernel), List.mem_of_getElem? (i := 605) (by decide +kernel), List.mem_of_getElem? (i := 606) (by decide +kernel)⟩
theorem lw_p15 : lw_okq (⟨"IcedTooSoon", "roundOf", "(III)I"⟩, 7) := ⟨⟨by decide +kernel, by decide +kernel⟩, List.mem_of_getElem? (i := 18) (by decide +kernel), List.mem_of_getElem? (i := 613) (by decide +kernel), List.mem_of_getElem? (i := 614) (by decide +kernel)⟩
def lw_privs_1 : List (MethodName × Nat) := [(⟨"IcedTooSoon$Tape", "next", "()V"⟩, 9), (⟨"IcedTooSoon$Tape", "nextWord", "()V"⟩, 9), (⟨"IcedTooSoon$Tape", "isWord", "(I)Z"⟩, 9), (⟨"IcedTooSoon$Tape", "nextNumber", "()V"⟩, 9), (⟨"IcedTooSoon$Tape", "readLevel", "(II)Z"⟩, 9), (⟨"IcedTooSoon$Tape", "readOne", "(I)Z"⟩, 9), (⟨"IcedTooSoon$Tape", "readTurned", "(II)Z"⟩, 9), (⟨"IcedTooSoon$Tape", "write", "(I)V"⟩, 9), (⟨"IcedTooSoon$Tape", "readInner", "(I)Z"⟩, 9), (⟨"IcedTooSoon$Tape", "joins", "(I)Z"⟩, 9), (⟨"IcedTooSoon", "nextOff", "(I)I"⟩, 7), (⟨"IcedTooSoon", "think", "()V"⟩, 7), (⟨"IcedTooSoon", "pass", "(I)V"⟩, 7), (⟨"IcedTooSoon", "moodIfIced", "(III)I"⟩, 7), (⟨"IcedTooSoon", "moodIfSpilt", "(II)I"⟩, 7), (⟨"IcedTooSoon", "roundOf", "(III)I"⟩, 7)]
theorem lw_r1 : ∀ q ∈ lw_privs_1, lw_okq q := List.forall_mem_cons.mpr ⟨lw_p0, List.forall_mem_cons.mpr ⟨lw_p1, List.forall_mem_cons.mpr ⟨lw_p2, List.forall_mem_cons.mpr ⟨lw_p3, List.forall_mem_cons.mpr ⟨lw_p4, List.forall_mem_cons.mpr ⟨lw_p5, List.forall_mem_cons.mpr ⟨lw_p6, List.forall_mem_cons.mpr ⟨lw_p7, List.forall_mem_cons.mpr ⟨lw_p8, List.forall_mem_cons.mpr ⟨lw_p9, List.forall_mem_cons.mpr ⟨lw_p10, List.forall_mem_cons.mpr ⟨lw_p11, List.forall_mem_cons.mpr ⟨lw_p12, List.forall_mem_cons.mpr ⟨lw_p13, List.forall_mem_cons.mpr ⟨lw_p14, List.forall_mem_cons.mpr ⟨lw_p15, fun _ h => absurd h List.not_mem_nil⟩⟩⟩⟩⟩⟩⟩⟩⟩⟩⟩⟩⟩⟩⟩⟩
theorem lw_p16 : lw_okq (⟨"IcedTooSoon", "refusalOfDays", "(II)I"⟩, 7) := ⟨⟨by decide +kernel, by decide +kernel⟩, List.mem_of_getElem? (i := 18) (by decide +kernel), List.mem_of_getElem? (i := 645) (by decide +kernel), List.mem_of_getElem? (i := 646) (by decide +kernel)⟩
theorem lw_p17 : lw_okq (⟨"IcedTooSoon", "refusalOfSheet", "(I)I"⟩, 7) := ⟨⟨by decide +kernel, by decide +kernel⟩, List.mem_of_getElem? (i := 18) (by decide +kernel), List.mem_of_getElem? (i := 649) (by decide +kernel), List.mem_of_getElem? (i := 650) (by decide +kernel)⟩
theorem lw_p18 : lw_okq (⟨"IcedTooSoon", "firstOtherwise", "(II)I"⟩, 7) := ⟨⟨by decide +kernel, by decide +kernel⟩, List.mem_of_getElem? (i := 18) (by decide +kernel), List.mem_of_getElem? (i := 656) (by decide +kernel), List.mem_of_getElem? (i := 657) (by decide +kernel)⟩
theorem lw_p19 : lw_okq (⟨"IcedTooSoon", "thinkOfLots", "(I)V"⟩, 7) := ⟨⟨by decide +kernel, by decide +kernel⟩, List.mem_of_getElem? (i := 18) (by decide +kernel), List.mem_of_getElem? (i := 702) (by decide +kernel), List.mem_of_getElem? (i := 703) (by decide +kernel)⟩
theorem lw_p20 : lw_okq (⟨"IcedTooSoonModel", "next", "()V"⟩, 34) := ⟨⟨by decide +kernel, by decide +kernel⟩, List.mem_of_getElem? (i := 756) (by decide +kernel), List.mem_of_getElem? (i := 766) (by decide +kernel), List.mem_of_getElem? (i := 767) (by decide +kernel)⟩
theorem lw_p21 : lw_okq (⟨"IcedTooSoonModel", "wordFrom", "(II)I"⟩, 34) := ⟨⟨by decide +kernel, by decide +kernel⟩, List.mem_of_getElem? (i := 756) (by decide +kernel), List.mem_of_getElem? (i := 773) (by decide +kernel), List.mem_of_getElem? (i := 774) (by decide +kernel)⟩
theorem lw_p22 : lw_okq (⟨"IcedTooSoonModel", "eRead", "()Z"⟩, 34) := ⟨⟨by decide +kernel, by decide +kernel⟩, List.mem_of_getElem? (i := 756) (by decide +kernel), List.mem_of_getElem? (i := 777) (by decide +kernel), List.mem_of_getElem? (i := 778) (by decide +kernel)⟩
theorem lw_p23 : lw_okq (⟨"IcedTooSoonModel", "puts", "(I)V"⟩, 34) := ⟨⟨by decide +kernel, by decide +kernel⟩, List.mem_of_getElem? (i := 756) (by decide +kernel), List.mem_of_getElem? (i := 782) (by decide +kernel), List.mem_of_getElem? (i := 783) (by decide +kernel)⟩
theorem lw_p24 : lw_okq (⟨"IcedTooSoonModel", "unwinds", "(I)V"⟩, 34) := ⟨⟨by decide +kernel, by decide +kernel⟩, List.mem_of_getElem? (i := 756) (by decide +kernel), List.mem_of_getElem? (i := 786) (by decide +kernel), List.mem_of_getElem? (i := 787) (by decide +kernel)⟩
theorem lw_p25 : lw_okq (⟨"IcedTooSoonModel", "opensOne", "(I)Z"⟩, 34) := ⟨⟨by decide +kernel, by decide +kernel⟩, List.mem_of_getElem? (i := 756) (by decide +kernel), List.mem_of_getElem? (i := 793) (by decide +kernel), List.mem_of_getElem? (i := 794) (by decide +kernel)⟩
theorem lw_p26 : lw_okq (⟨"IcedTooSoonModel", "holds", "(I)V"⟩, 34) := ⟨⟨by decide +kernel, by decide +kernel⟩, List.mem_of_getElem? (i := 756) (by decide +kernel), List.mem_of_getElem? (i := 797) (by decide +kernel), List.mem_of_getElem? (i := 798) (by decide +kernel)⟩
theorem lw_p27 : lw_okq (⟨"IcedTooSoonModel", "signOf", "()I"⟩, 34) := ⟨⟨by decide +kernel, by decide +kernel⟩, List.mem_of_getElem? (i := 756) (by decide +kernel), List.mem_of_getElem? (i := 801) (by decide +kernel), List.mem_of_getElem? (i := 802) (by decide +kernel)⟩
theorem lw_p28 : lw_okq (⟨"IcedTooSoonModel", "between", "(I)Z"⟩, 34) := ⟨⟨by decide +kernel, by decide +kernel⟩, List.mem_of_getElem? (i := 756) (by decide +kernel), List.mem_of_getElem? (i := 805) (by decide +kernel), List.mem_of_getElem? (i := 806) (by decide +kernel)⟩
theorem lw_p29 : lw_okq (⟨"IcedTooSoonModel", "many", "()I"⟩, 34) := ⟨⟨by decide +kernel, by decide +kernel⟩, List.mem_of_getElem? (i := 756) (by decide +kernel), List.mem_of_getElem? (i := 916) (by decide +kernel), List.mem_of_getElem? (i := 917) (by decide +kernel)⟩
theorem lw_p30 : lw_okq (⟨"IcedTooSoonModel", "isThere", "(I)Z"⟩, 34) := ⟨⟨by decide +kernel, by decide +kernel⟩, List.mem_of_getElem? (i := 756) (by decide +kernel), List.mem_of_getElem? (i := 920) (by decide +kernel), List.mem_of_getElem? (i := 921) (by decide +kernel)⟩
theorem lw_p31 : lw_okq (⟨"IcedTooSoonModel", "asksOf", "(II)I"⟩, 34) := ⟨⟨by decide +kernel, by decide +kernel⟩, List.mem_of_getElem? (i := 756) (by decide +kernel), List.mem_of_getElem? (i := 947) (by decide +kernel), List.mem_of_getElem? (i := 948) (by decide +kernel)⟩
def lw_privs_2 : List (MethodName × Nat) := [(⟨"IcedTooSoon", "refusalOfDays", "(II)I"⟩, 7), (⟨"IcedTooSoon", "refusalOfSheet", "(I)I"⟩, 7), (⟨"IcedTooSoon", "firstOtherwise", "(II)I"⟩, 7), (⟨"IcedTooSoon", "thinkOfLots", "(I)V"⟩, 7), (⟨"IcedTooSoonModel", "next", "()V"⟩, 34), (⟨"IcedTooSoonModel", "wordFrom", "(II)I"⟩, 34), (⟨"IcedTooSoonModel", "eRead", "()Z"⟩, 34), (⟨"IcedTooSoonModel", "puts", "(I)V"⟩, 34), (⟨"IcedTooSoonModel", "unwinds", "(I)V"⟩, 34), (⟨"IcedTooSoonModel", "opensOne", "(I)Z"⟩, 34), (⟨"IcedTooSoonModel", "holds", "(I)V"⟩, 34), (⟨"IcedTooSoonModel", "signOf", "()I"⟩, 34), (⟨"IcedTooSoonModel", "between", "(I)Z"⟩, 34), (⟨"IcedTooSoonModel", "many", "()I"⟩, 34), (⟨"IcedTooSoonModel", "isThere", "(I)Z"⟩, 34), (⟨"IcedTooSoonModel", "asksOf", "(II)I"⟩, 34)]
theorem lw_r2 : ∀ q ∈ lw_privs_2, lw_okq q := List.forall_mem_cons.mpr ⟨lw_p16, List.forall_mem_cons.mpr ⟨lw_p17, List.forall_mem_cons.mpr ⟨lw_p18, List.forall_mem_cons.mpr ⟨lw_p19, List.forall_mem_cons.mpr ⟨lw_p20, List.forall_mem_cons.mpr ⟨lw_p21, List.forall_mem_cons.mpr ⟨lw_p22, List.forall_mem_cons.mpr ⟨lw_p23, List.forall_mem_cons.mpr ⟨lw_p24, List.forall_mem_cons.mpr ⟨lw_p25, List.forall_mem_cons.mpr ⟨lw_p26, List.forall_mem_cons.mpr ⟨lw_p27, List.forall_mem_cons.mpr ⟨lw_p28, List.forall_mem_cons.mpr ⟨lw_p29, List.forall_mem_cons.mpr ⟨lw_p30, List.forall_mem_cons.mpr ⟨lw_p31, fun _ h => absurd h List.not_mem_nil⟩⟩⟩⟩⟩⟩⟩⟩⟩⟩⟩⟩⟩⟩⟩⟩
theorem lw_p32 : lw_okq (⟨"IcedTooSoonModel", "says", "(I)I"⟩, 34) := ⟨⟨by decide +kernel, by decide +kernel⟩, List.mem_of_getElem? (i := 756) (by decide +kernel), List.mem_of_getElem? (i := 951) (by decide +kernel), List.mem_of_getElem? (i := 952) (by decide +kernel)⟩
theorem lw_p33 : lw_okq (⟨"IcedTooSoonModel", "isOne", "(I)Z"⟩, 34) := ⟨⟨by decide +kernel, by decide +kernel⟩, List.mem_of_getElem? (i := 756) (by decide +kernel), List.mem_of_getElem? (i := 966) (by decide +kernel), List.mem_of_getElem? (i := 967) (by decide +kernel)⟩
theorem lw_p34 : lw_okq (⟨"IcedTooSoonModel", "ordered", "(III)I"⟩, 34) := ⟨⟨by decide +kernel, by decide +kernel⟩, List.mem_of_getElem? (i := 756) (by decide +kernel), List.mem_of_getElem? (i := 970) (by decide +kernel), List.mem_of_getElem? (i := 971) (by decide +kernel)⟩
theorem lw_p35 : lw_okq (⟨"IcedTooSoonModel", "chillsOf", "(I)I"⟩, 34) := ⟨⟨by decide +kernel, by decide +kernel⟩, List.mem_of_getElem? (i := 756) (by decide +kernel), List.mem_of_getElem? (i := 974) (by decide +kernel), List.mem_of_getElem? (i := 975) (by decide +kernel)⟩
theorem lw_p36 : lw_okq (⟨"IcedTooSoonModel", "glassesOf", "(I)I"⟩, 34) := ⟨⟨by decide +kernel, by decide +kernel⟩, List.mem_of_getElem? (i := 756) (by decide +kernel), List.mem_of_getElem? (i := 986) (by decide +kernel), List.mem_of_getElem? (i := 987) (by decide +kernel)⟩
theorem lw_p37 : lw_okq (⟨"IcedTooSoonModel", "firstOff", "(I)I"⟩, 34) := ⟨⟨by decide +kernel, by decide +kernel⟩, List.mem_of_getElem? (i := 756) (by decide +kernel), List.mem_of_getElem? (i := 990) (by decide +kernel), List.mem_of_getElem? (i := 991) (by decide +kernel)⟩
theorem lw_p38 : lw_okq (⟨"IcedTooSoonModel", "keeps", "()V"⟩, 34) := ⟨⟨by decide +kernel, by decide +kernel⟩, List.mem_of_getElem? (i := 756) (by decide +kernel), List.mem_of_getElem? (i := 994) (by decide +kernel), List.mem_of_getElem? (i := 995) (by decide +kernel)⟩
theorem lw_p39 : lw_okq (⟨"IcedTooSoonModel", "dayOf", "()I"⟩, 34) := ⟨⟨by decide +kernel, by decide +kernel⟩, List.mem_of_getElem? (i := 756) (by decide +kernel), List.mem_of_getElem? (i := 998) (by decide +kernel), List.mem_of_getElem? (i := 999) (by decide +kernel)⟩
theorem lw_p40 : lw_okq (⟨"IcedTooSoonModel", "meltsOf", "(I)I"⟩, 34) := ⟨⟨by decide +kernel, by decide +kernel⟩, List.mem_of_getElem? (i := 756) (by decide +kernel), List.mem_of_getElem? (i := 1002) (by decide +kernel), List.mem_of_getElem? (i := 1003) (by decide +kernel)⟩
theorem lw_p41 : lw_okq (⟨"IcedTooSoonModel", "feelsOf", "(I)I"⟩, 34) := ⟨⟨by decide +kernel, by decide +kernel⟩, List.mem_of_getElem? (i := 756) (by decide +kernel), List.mem_of_getElem? (i := 1006) (by decide +kernel), List.mem_of_getElem? (i := 1007) (by decide +kernel)⟩
theorem lw_p42 : lw_okq (⟨"IcedTooSoonModel", "lays", "()V"⟩, 34) := ⟨⟨by decide +kernel, by decide +kernel⟩, List.mem_of_getElem? (i := 756) (by decide +kernel), List.mem_of_getElem? (i := 1010) (by decide +kernel), List.mem_of_getElem? (i := 1011) (by decide +kernel)⟩
theorem lw_p43 : lw_okq (⟨"IcedTooSoonModel", "goes", "(I)V"⟩, 34) := ⟨⟨by decide +kernel, by decide +kernel⟩, List.mem_of_getElem? (i := 756) (by decide +kernel), List.mem_of_getElem? (i := 1035) (by decide +kernel), List.mem_of_getElem? (i := 1036) (by decide +kernel)⟩
theorem lw_p44 : lw_okq (⟨"IcedTooSoonModel", "toldBehind", "(I)I"⟩, 34) := ⟨⟨by decide +kernel, by decide +kernel⟩, List.mem_of_getElem? (i := 756) (by decide +kernel), List.mem_of_getElem? (i := 1039) (by decide +kernel), List.mem_of_getElem? (i := 1040) (by decide +kernel)⟩
theorem lw_p45 : lw_okq (⟨"IcedTooSoonModel", "moodAll", "()I"⟩, 34) := ⟨⟨by decide +kernel, by decide +kernel⟩, List.mem_of_getElem? (i := 756) (by decide +kernel), List.mem_of_getElem? (i := 1043) (by decide +kernel), List.mem_of_getElem? (i := 1044) (by decide +kernel)⟩
theorem lw_p46 : lw_okq (⟨"IcedTooSoonModel", "belowSet", "(I)I"⟩, 34) := ⟨⟨by decide +kernel, by decide +kernel⟩, List.mem_of_getElem? (i := 756) (by decide +kernel), List.mem_of_getElem? (i := 1059) (by decide +kernel), List.mem_of_getElem? (i := 1060) (by decide +kernel)⟩
theorem lw_p47 : lw_okq (⟨"IcedTooSoonModel", "moodBehind", "(I)I"⟩, 34) := ⟨⟨by decide +kernel, by decide +kernel⟩, List.mem_of_getElem? (i := 756) (by decide +kernel), List.mem_of_getElem? (i := 1067) (by decide +kernel), List.mem_of_getElem? (i := 1068) (by decide +kernel)⟩
def lw_privs_3 : List (MethodName × Nat) := [(⟨"IcedTooSoonModel", "says", "(I)I"⟩, 34), (⟨"IcedTooSoonModel", "isOne", "(I)Z"⟩, 34), (⟨"IcedTooSoonModel", "ordered", "(III)I"⟩, 34), (⟨"IcedTooSoonModel", "chillsOf", "(I)I"⟩, 34), (⟨"IcedTooSoonModel", "glassesOf", "(I)I"⟩, 34), (⟨"IcedTooSoonModel", "firstOff", "(I)I"⟩, 34), (⟨"IcedTooSoonModel", "keeps", "()V"⟩, 34), (⟨"IcedTooSoonModel", "dayOf", "()I"⟩, 34), (⟨"IcedTooSoonModel", "meltsOf", "(I)I"⟩, 34), (⟨"IcedTooSoonModel", "feelsOf", "(I)I"⟩, 34), (⟨"IcedTooSoonModel", "lays", "()V"⟩, 34), (⟨"IcedTooSoonModel", "goes", "(I)V"⟩, 34), (⟨"IcedTooSoonModel", "toldBehind", "(I)I"⟩, 34), (⟨"IcedTooSoonModel", "moodAll", "()I"⟩, 34), (⟨"IcedTooSoonModel", "belowSet", "(I)I"⟩, 34), (⟨"IcedTooSoonModel", "moodBehind", "(I)I"⟩, 34)]
theorem lw_r3 : ∀ q ∈ lw_privs_3, lw_okq q := List.forall_mem_cons.mpr ⟨lw_p32, List.forall_mem_cons.mpr ⟨lw_p33, List.forall_mem_cons.mpr ⟨lw_p34, List.forall_mem_cons.mpr ⟨lw_p35, List.forall_mem_cons.mpr ⟨lw_p36, List.forall_mem_cons.mpr ⟨lw_p37, List.forall_mem_cons.mpr ⟨lw_p38, List.forall_mem_cons.mpr ⟨lw_p39, List.forall_mem_cons.mpr ⟨lw_p40, List.forall_mem_cons.mpr ⟨lw_p41, List.forall_mem_cons.mpr ⟨lw_p42, List.forall_mem_cons.mpr ⟨lw_p43, List.forall_mem_cons.mpr ⟨lw_p44, List.forall_mem_cons.mpr ⟨lw_p45, List.forall_mem_cons.mpr ⟨lw_p46, List.forall_mem_cons.mpr ⟨lw_p47, fun _ h => absurd h List.not_mem_nil⟩⟩⟩⟩⟩⟩⟩⟩⟩⟩⟩⟩⟩⟩⟩⟩
theorem lw_p48 : lw_okq (⟨"IcedTooSoonModel", "ices", "(II)I"⟩, 34) := ⟨⟨by decide +kernel, by decide +kernel⟩, List.mem_of_getElem? (i := 756) (by decide +kernel), List.mem_of_getElem? (i := 1079) (by decide +kernel), List.mem_of_getElem? (i := 1080) (by decide +kernel)⟩
theorem lw_p49 : lw_okq (⟨"IcedTooSoonModel", "laysIce", "()V"⟩, 34) := ⟨⟨by decide +kernel, by decide +kernel⟩, List.mem_of_getElem? (i := 756) (by decide +kernel), List.mem_of_getElem? (i := 1083) (by decide +kernel), List.mem_of_getElem? (i := 1084) (by decide +kernel)⟩
theorem lw_p50 : lw_okq (⟨"IcedTooSoonModel", "toldWrong", "(II)I"⟩, 34) := ⟨⟨by decide +kernel, by decide +kernel⟩, List.mem_of_getElem? (i := 756) (by decide +kernel), List.mem_of_getElem? (i := 1099) (by decide +kernel), List.mem_of_getElem? (i := 1100) (by decide +kernel)⟩
theorem lw_p51 : lw_okq (⟨"IcedTooSoonModel", "sheetWrong", "(I)I"⟩, 34) := ⟨⟨by decide +kernel, by decide +kernel⟩, List.mem_of_getElem? (i := 756) (by decide +kernel), List.mem_of_getElem? (i := 1103) (by decide +kernel), List.mem_of_getElem? (i := 1104) (by decide +kernel)⟩
theorem lw_p52 : lw_okq (⟨"IcedTooSoonModel", "unlike", "(II)I"⟩, 34) := ⟨⟨by decide +kernel, by decide +kernel⟩, List.mem_of_getElem? (i := 756) (by decide +kernel), List.mem_of_getElem? (i := 1107) (by decide +kernel), List.mem_of_getElem? (i := 1108) (by decide +kernel)⟩
theorem lw_p53 : lw_okq (⟨"IcedTooSoonModel", "lotOrders", "(I)I"⟩, 34) := ⟨⟨by decide +kernel, by decide +kernel⟩, List.mem_of_getElem? (i := 756) (by decide +kernel), List.mem_of_getElem? (i := 1140) (by decide +kernel), List.mem_of_getElem? (i := 1141) (by decide +kernel)⟩
def lw_privs_4 : List (MethodName × Nat) := [(⟨"IcedTooSoonModel", "ices", "(II)I"⟩, 34), (⟨"IcedTooSoonModel", "laysIce", "()V"⟩, 34), (⟨"IcedTooSoonModel", "toldWrong", "(II)I"⟩, 34), (⟨"IcedTooSoonModel", "sheetWrong", "(I)I"⟩, 34), (⟨"IcedTooSoonModel", "unlike", "(II)I"⟩, 34), (⟨"IcedTooSoonModel", "lotOrders", "(I)I"⟩, 34)]
theorem lw_r4 : ∀ q ∈ lw_privs_4, lw_okq q := List.forall_mem_cons.mpr ⟨lw_p48, List.forall_mem_cons.mpr ⟨lw_p49, List.forall_mem_cons.mpr ⟨lw_p50, List.forall_mem_cons.mpr ⟨lw_p51, List.forall_mem_cons.mpr ⟨lw_p52, List.forall_mem_cons.mpr ⟨lw_p53, fun _ h => absurd h List.not_mem_nil⟩⟩⟩⟩⟩⟩
def lw_privs : List (MethodName × Nat) := lw_privs_1 ++ (lw_privs_2 ++ (lw_privs_3 ++ (lw_privs_4)))
def lw_tbl : List Cond := k2_sels lw_privs ++ tables_1
theorem lw_privs_ok : ∀ q ∈ lw_privs, lw_okq q := by
  show ∀ q ∈ lw_privs_1 ++ (lw_privs_2 ++ (lw_privs_3 ++ (lw_privs_4))), lw_okq q
  exact List.forall_mem_append.mpr ⟨lw_r1, List.forall_mem_append.mpr ⟨lw_r2, List.forall_mem_append.mpr ⟨lw_r3, lw_r4⟩⟩⟩
end
section
def it_R0 : String := "IcedTooSoon$House"
def it_F0 : u_T := fun k => match k with
  | 0 => ("IcedTooSoon$House", "book", "LIcedTooSoon$Lawbook;", true)
  | 1 => ("IcedTooSoon$House", "guests", "I", false)
  | 2 => ("IcedTooSoon$House", "kind", "[I", true)
  | 3 => ("IcedTooSoon$House", "more", "[I", true)
  | 4 => ("IcedTooSoon$House", "mood", "[I", true)
  | 5 => ("IcedTooSoon$House", "cold", "[I", true)
  | 6 => ("IcedTooSoon$House", "whose", "[I", true)
  | 7 => ("IcedTooSoon$House", "weight", "[I", true)
  | 8 => ("IcedTooSoon$House", "ice", "[I", true)
  | 9 => ("IcedTooSoon$House", "date", "I", false)
  | _ => ("IcedTooSoon$House", "law", "I", false)
def it_t0 : Nat → FieldType := fun k => match k with
  | 0 => .object "IcedTooSoon$Lawbook"
  | 1 => .int
  | 2 => .array .int
  | 3 => .array .int
  | 4 => .array .int
  | 5 => .array .int
  | 6 => .array .int
  | 7 => .array .int
  | 8 => .array .int
  | 9 => .int
  | _ => .int
theorem it_n0 : ∀ a, a < 11 → ∀ b, b < 11 → a ≠ b → (it_F0 a).2.1 ≠ (it_F0 b).2.1 := by decide +kernel
theorem it_y0 : ∀ k, k < 11 → parseFieldDescriptor (it_F0 k).2.2.1 = some (it_t0 k) := by decide +kernel
theorem it_i0 : ∀ w ∈ u_ws it_R0 it_F0 11, w ∈ lw_tbl := by decide +kernel
def it_R1 : String := "IcedTooSoon$Lawbook"
def it_F1 : u_T := fun k => match k with
  | 0 => ("IcedTooSoon$Lawbook", "texts", "[LIcedTooSoon$Text;", true)
  | 1 => ("IcedTooSoon$Lawbook", "named", "[I", true)
  | 2 => ("IcedTooSoon$Lawbook", "pile", "[I", true)
  | _ => ("IcedTooSoon$Lawbook", "size", "I", false)
def it_t1 : Nat → FieldType := fun k => match k with
  | 0 => .array (.object "IcedTooSoon$Text")
  | 1 => .array .int
  | 2 => .array .int
  | _ => .int
theorem it_n1 : ∀ a, a < 4 → ∀ b, b < 4 → a ≠ b → (it_F1 a).2.1 ≠ (it_F1 b).2.1 := by decide +kernel
theorem it_y1 : ∀ k, k < 4 → parseFieldDescriptor (it_F1 k).2.2.1 = some (it_t1 k) := by decide +kernel
theorem it_i1 : ∀ w ∈ u_ws it_R1 it_F1 4, w ∈ lw_tbl := by decide +kernel
def it_R2 : String := "IcedTooSoon$Sheet"
def it_F2 : u_T := fun k => match k with
  | 0 => ("IcedTooSoon$Sheet", "sort", "I", false)
  | 1 => ("IcedTooSoon$Sheet", "size", "I", false)
  | _ => ("IcedTooSoon$Sheet", "cells", "[I", true)
def it_t2 : Nat → FieldType := fun k => match k with
  | 0 => .int
  | 1 => .int
  | _ => .array .int
theorem it_n2 : ∀ a, a < 3 → ∀ b, b < 3 → a ≠ b → (it_F2 a).2.1 ≠ (it_F2 b).2.1 := by decide +kernel
theorem it_y2 : ∀ k, k < 3 → parseFieldDescriptor (it_F2 k).2.2.1 = some (it_t2 k) := by decide +kernel
theorem it_i2 : ∀ w ∈ u_ws it_R2 it_F2 3, w ∈ lw_tbl := by decide +kernel
def it_R3 : String := "IcedTooSoon$Tape"
def it_F3 : u_T := fun k => match k with
  | 0 => ("IcedTooSoon$Tape", "bytes", "[I", true)
  | 1 => ("IcedTooSoon$Tape", "size", "I", false)
  | 2 => ("IcedTooSoon$Tape", "at", "I", false)
  | 3 => ("IcedTooSoon$Tape", "token", "I", false)
  | 4 => ("IcedTooSoon$Tape", "number", "I", false)
  | 5 => ("IcedTooSoon$Tape", "place", "I", false)
  | 6 => ("IcedTooSoon$Tape", "code", "[I", true)
  | 7 => ("IcedTooSoon$Tape", "codes", "I", false)
  | _ => ("IcedTooSoon$Tape", "ends", "[I", true)
def it_t3 : Nat → FieldType := fun k => match k with
  | 0 => .array .int
  | 1 => .int
  | 2 => .int
  | 3 => .int
  | 4 => .int
  | 5 => .int
  | 6 => .array .int
  | 7 => .int
  | _ => .array .int
theorem it_n3 : ∀ a, a < 9 → ∀ b, b < 9 → a ≠ b → (it_F3 a).2.1 ≠ (it_F3 b).2.1 := by decide +kernel
theorem it_y3 : ∀ k, k < 9 → parseFieldDescriptor (it_F3 k).2.2.1 = some (it_t3 k) := by decide +kernel
theorem it_i3 : ∀ w ∈ u_ws it_R3 it_F3 9, w ∈ lw_tbl := by decide +kernel
def it_R4 : String := "IcedTooSoon$Text"
def it_F4 : u_T := fun k => match k with
  | 0 => ("IcedTooSoon$Text", "code", "[I", true)
  | _ => ("IcedTooSoon$Text", "ends", "[I", true)
def it_t4 : Nat → FieldType := fun k => match k with
  | 0 => .array .int
  | _ => .array .int
theorem it_n4 : ∀ a, a < 2 → ∀ b, b < 2 → a ≠ b → (it_F4 a).2.1 ≠ (it_F4 b).2.1 := by decide +kernel
theorem it_y4 : ∀ k, k < 2 → parseFieldDescriptor (it_F4 k).2.2.1 = some (it_t4 k) := by decide +kernel
theorem it_i4 : ∀ w ∈ u_ws it_R4 it_F4 2, w ∈ lw_tbl := by decide +kernel
def it_R5 : String := "IcedTooSoon"
def it_F5 : u_T := fun k => match k with
  | 0 => ("IcedTooSoon", "book", "LIcedTooSoon$Lawbook;", true)
  | 1 => ("IcedTooSoon", "tape", "LIcedTooSoon$Tape;", true)
  | 2 => ("IcedTooSoon", "house", "LIcedTooSoon$House;", true)
  | 3 => ("IcedTooSoon", "thought", "LIcedTooSoon$House;", true)
  | 4 => ("IcedTooSoon", "kept", "LIcedTooSoon$House;", true)
  | 5 => ("IcedTooSoon", "isKept", "Z", false)
  | _ => ("IcedTooSoon", "sheets", "[LIcedTooSoon$Sheet;", true)
def it_t5 : Nat → FieldType := fun k => match k with
  | 0 => .object "IcedTooSoon$Lawbook"
  | 1 => .object "IcedTooSoon$Tape"
  | 2 => .object "IcedTooSoon$House"
  | 3 => .object "IcedTooSoon$House"
  | 4 => .object "IcedTooSoon$House"
  | 5 => .boolean
  | _ => .array (.object "IcedTooSoon$Sheet")
theorem it_n5 : ∀ a, a < 7 → ∀ b, b < 7 → a ≠ b → (it_F5 a).2.1 ≠ (it_F5 b).2.1 := by decide +kernel
theorem it_y5 : ∀ k, k < 7 → parseFieldDescriptor (it_F5 k).2.2.1 = some (it_t5 k) := by decide +kernel
theorem it_i5 : ∀ w ∈ u_ws it_R5 it_F5 7, w ∈ lw_tbl := by decide +kernel
def it_R6 : String := "IcedTooSoonModel"
def it_F6 : u_T := fun k => match k with
  | 0 => ("IcedTooSoonModel", "guests", "I", false)
  | 1 => ("IcedTooSoonModel", "kind", "[I", true)
  | 2 => ("IcedTooSoonModel", "moreOf", "[I", true)
  | 3 => ("IcedTooSoonModel", "rows", "[I", true)
  | 4 => ("IcedTooSoonModel", "glasses", "[I", true)
  | 5 => ("IcedTooSoonModel", "days", "I", false)
  | 6 => ("IcedTooSoonModel", "tape", "[I", true)
  | 7 => ("IcedTooSoonModel", "taped", "I", false)
  | 8 => ("IcedTooSoonModel", "codes", "[I", true)
  | 9 => ("IcedTooSoonModel", "starts", "[I", true)
  | 10 => ("IcedTooSoonModel", "texts", "I", false)
  | 11 => ("IcedTooSoonModel", "rule", "I", false)
  | 12 => ("IcedTooSoonModel", "hasImage", "Z", false)
  | 13 => ("IcedTooSoonModel", "imageRows", "[I", true)
  | 14 => ("IcedTooSoonModel", "imageHeld", "[I", true)
  | 15 => ("IcedTooSoonModel", "sheetSort", "[I", true)
  | 16 => ("IcedTooSoonModel", "sheetSize", "[I", true)
  | 17 => ("IcedTooSoonModel", "cells", "[I", true)
  | 18 => ("IcedTooSoonModel", "law", "[I", true)
  | 19 => ("IcedTooSoonModel", "at", "I", false)
  | 20 => ("IcedTooSoonModel", "begun", "I", false)
  | 21 => ("IcedTooSoonModel", "token", "I", false)
  | 22 => ("IcedTooSoonModel", "value", "I", false)
  | 23 => ("IcedTooSoonModel", "words", "[I", true)
  | 24 => ("IcedTooSoonModel", "held", "[I", true)
  | 25 => ("IcedTooSoonModel", "heldMany", "I", false)
  | 26 => ("IcedTooSoonModel", "opens", "I", false)
  | 27 => ("IcedTooSoonModel", "out", "I", false)
  | 28 => ("IcedTooSoonModel", "stack", "[I", true)
  | 29 => ("IcedTooSoonModel", "named", "[I", true)
  | 30 => ("IcedTooSoonModel", "kept", "[I", true)
  | 31 => ("IcedTooSoonModel", "roundSet", "I", false)
  | 32 => ("IcedTooSoonModel", "keptIce", "[I", true)
  | _ => ("IcedTooSoonModel", "manyThen", "I", false)
def it_t6 : Nat → FieldType := fun k => match k with
  | 0 => .int
  | 1 => .array .int
  | 2 => .array .int
  | 3 => .array .int
  | 4 => .array .int
  | 5 => .int
  | 6 => .array .int
  | 7 => .int
  | 8 => .array .int
  | 9 => .array .int
  | 10 => .int
  | 11 => .int
  | 12 => .boolean
  | 13 => .array .int
  | 14 => .array .int
  | 15 => .array .int
  | 16 => .array .int
  | 17 => .array .int
  | 18 => .array .int
  | 19 => .int
  | 20 => .int
  | 21 => .int
  | 22 => .int
  | 23 => .array .int
  | 24 => .array .int
  | 25 => .int
  | 26 => .int
  | 27 => .int
  | 28 => .array .int
  | 29 => .array .int
  | 30 => .array .int
  | 31 => .int
  | 32 => .array .int
  | _ => .int
theorem it_n6 : ∀ a, a < 34 → ∀ b, b < 34 → a ≠ b → (it_F6 a).2.1 ≠ (it_F6 b).2.1 := by decide +kernel
theorem it_y6 : ∀ k, k < 34 → parseFieldDescriptor (it_F6 k).2.2.1 = some (it_t6 k) := by decide +kernel
theorem it_i6 : ∀ w ∈ u_ws it_R6 it_F6 34, w ∈ lw_tbl := by decide +kernel
abbrev it_cl : List vw_C := [(it_R0, it_F0, 11), (it_R1, it_F1, 4), (it_R2, it_F2, 3), (it_R3, it_F3, 9), (it_R4, it_F4, 2), (it_R5, it_F5, 7), (it_R6, it_F6, 34)]
/-- which fields are references -/
def it_mask (ci : Nat) : List Bool := match ci with
  | 0 => [true, false, true, true, true, true, true, true, true, false, false]
  | 1 => [true, true, true, false]
  | 2 => [false, false, true]
  | 3 => [true, false, false, false, false, false, true, false, true]
  | 4 => [true, true]
  | 5 => [true, true, true, true, true, false, true]
  | _ => [false, true, true, true, true, false, true, false, true, true, false, false, false, true, true, true, true, true, true, false, false, false, false, true, true, false, false, false, true, true, true, false, true, false]
end
section
/-! the cells of a run: cell a of the run lies at the address where the run began and a more; its numbers are S a, its references are laid out once for all -/
abbrev it_SS : Type := Nat → Nat → Int32
abbrev it_KK : Type := Nat × (Nat → Nat × Nat) × (Nat → Nat → Bool)
abbrev it_G : Type := Nat × va_G × (Nat → ClassId) × (Nat → Nat) × (Nat × (Nat → Int32))
def it_up (S : it_SS) (a j : Nat) (v : Int32) : it_SS := fun b => if b = a then upd (S a) j v else S b
def it_lay (ci k a : Nat) : Nat := match ci with
  | 0 => match k with
    | 0 => 1
    | k + 1 => a + k
  | 1 => match k with
    | 0 => 2
    | 1 => 3
    | _ => 4
  | 2 => a + 1
  | 3 => match k with
    | 0 => 6
    | 6 => 7
    | _ => 8
  | 4 => match k with
    | 0 => a + 1
    | _ => a + 2
  | 5 => match k with
    | 0 => 1
    | 1 => 5
    | 2 => 9
    | 3 => 17
    | 4 => 25
    | _ => 33
  | _ => match k with
    | 1 => 46
    | 2 => 47
    | 3 => 48
    | 4 => 49
    | 6 => 50
    | 8 => 51
    | 9 => 52
    | 13 => 53
    | 14 => 54
    | 15 => 55
    | 16 => 56
    | 17 => 57
    | 18 => 58
    | 23 => 59
    | 24 => 60
    | 28 => 61
    | 29 => 62
    | 30 => 63
    | _ => 64
def it_el (t j : Nat) : Nat := match t with
  | 1 => match j with
    | 0 => 42
    | j + 1 => 65 + 3 * j
  | _ => 34 + 2 * j
def it_fld (g : it_G) (κ : it_KK) (S : it_SS) (ci a k : Nat) (r : Bool) : Value := if r = true then (if κ.2.2 a k = true then .ref (g.1 + it_lay ci k a) else .null) else .int (S a k)
def it_fs (g : it_G) (κ : it_KK) (S : it_SS) (ci a : Nat) : List Value := (it_mask ci).mapIdx (fun k r => it_fld g κ S ci a k r)
def it_rf (g : it_G) (κ : it_KK) (t a : Nat) : Nat → Option Nat := fun j => if κ.2.2 a j = true then some (g.1 + it_el t j) else none
def it_ce (g : it_G) (κ : it_KK) (S : it_SS) (a : Nat) : va_E := match (κ.2.1 a).1 with
  | 0 => .inl (g.2.2.1 0, (κ.2.1 a).2, .inl (S a))
  | 1 => .inl (g.2.2.1 1, (κ.2.1 a).2, .inr (.inr (.inr (.inr (it_rf g κ 1 a)))))
  | 2 => .inl (g.2.2.1 2, (κ.2.1 a).2, .inr (.inr (.inr (.inr (it_rf g κ 2 a)))))
  | ci + 3 => .inr (ci, it_fs g κ S ci a)
def it_ws (g : it_G) (κ : it_KK) (S : it_SS) : va_W := (List.range κ.1).map (fun a => (g.1 + a, it_ce g κ S a))
def it_A (g : it_G) : Nat → Prop := fun q => g.1 ≤ q
def it_tys (g : it_G) : List (ClassId × FieldType) := [(g.2.2.1 0, .int), (g.2.2.1 1, .object it_R4), (g.2.2.1 2, .object it_R2)]
theorem it_ws_get {g : it_G} {κ : it_KK} {S : it_SS} {a : Nat} (h : a < κ.1) : (it_ws g κ S)[a]? = some (g.1 + a, it_ce g κ S a) := by
  simp [it_ws, h]
theorem it_ws_len (g : it_G) (κ : it_KK) (S : it_SS) : (it_ws g κ S).length = κ.1 := by simp [it_ws]
theorem it_ws_of {g : it_G} {κ : it_KK} {S : it_SS} {k : Nat} {q : Nat × va_E} (h : (it_ws g κ S)[k]? = some q) : k < κ.1 ∧ q = (g.1 + k, it_ce g κ S k) := by
  have hk : k < κ.1 := by
    have := (List.getElem?_eq_some_iff.mp h).1
    rwa [it_ws_len] at this
  rw [it_ws_get hk] at h
  exact ⟨hk, (Option.some.inj h).symm⟩
theorem it_ws_D (g : it_G) (κ : it_KK) (S : it_SS) : va_D (it_A g) (it_ws g κ S) := by
  refine ⟨fun i j p q hi hj he => ?_, fun k q hk => ?_⟩
  · obtain ⟨-, rfl⟩ := it_ws_of hi
    obtain ⟨-, rfl⟩ := it_ws_of hj
    exact Nat.add_left_cancel he
  · obtain ⟨-, rfl⟩ := it_ws_of hk
    exact Nat.le_add_right _ _
theorem it_ws_set {g : it_G} {κ κ' : it_KK} {S S' : it_SS} {a : Nat} (hn : κ'.1 = κ.1) (h : ∀ b, b ≠ a → it_ce g κ' S' b = it_ce g κ S b) : (it_ws g κ S).set a (g.1 + a, it_ce g κ' S' a) = it_ws g κ' S' := by
  apply List.ext_getElem?
  intro i
  by_cases hi : i < κ.1
  · rw [it_ws_get (by rw [hn]; exact hi), List.getElem?_set]
    by_cases ha : a = i
    · subst ha
      rw [if_pos rfl, if_pos (by rw [it_ws_len]; exact hi)]
    · rw [if_neg ha, it_ws_get hi, h i (fun q => ha q.symm)]
  · rw [List.getElem?_eq_none (by rw [List.length_set, it_ws_len]; omega), List.getElem?_eq_none (by rw [it_ws_len]; omega)]
theorem it_ws_push {g : it_G} {κ κ' : it_KK} {S S' : it_SS} {a : Nat} {x : va_E} (hn : κ'.1 = κ.1 + 1) (h : ∀ b, b < κ.1 → it_ce g κ' S' b = it_ce g κ S b) (ha : a = g.1 + κ.1) (hx : it_ce g κ' S' κ.1 = x) : it_ws g κ S ++ [(a, x)] = it_ws g κ' S' := by
  subst ha; subst hx
  apply List.ext_getElem?
  intro i
  by_cases hi : i < κ.1
  · rw [List.getElem?_append_left (by rw [it_ws_len]; exact hi), it_ws_get hi, it_ws_get (by omega), h i hi]
  · by_cases hj : i = κ.1
    · subst hj
      rw [List.getElem?_append_right (by rw [it_ws_len]; omega), it_ws_len, it_ws_get (by omega)]
      simp
    · rw [List.getElem?_eq_none (by simp [it_ws_len]; omega), List.getElem?_eq_none (by rw [it_ws_len]; omega)]
theorem it_up_ne {S : it_SS} {a j b : Nat} {v : Int32} (h : b ≠ a) : it_up S a j v b = S b := by simp [it_up, h]
theorem it_up_eq (S : it_SS) (a j : Nat) (v : Int32) : it_up S a j v a = upd (S a) j v := by simp [it_up]
/-- an int array of the run -/
def it_ar (κ : it_KK) (a n : Nat) : Prop := a < κ.1 ∧ κ.2.1 a = (0, n)
/-- a whole object of the run -/
def it_ob (κ : it_KK) (a ci : Nat) : Prop := a < κ.1 ∧ κ.2.1 a = (ci + 3, 0) ∧ ∀ k, κ.2.2 a k = true
theorem it_ce_ar {g : it_G} {κ : it_KK} {S : it_SS} {a n : Nat} (h : κ.2.1 a = (0, n)) : it_ce g κ S a = .inl (g.2.2.1 0, n, .inl (S a)) := by
  simp [it_ce, h]
theorem it_ce_ob {g : it_G} {κ : it_KK} {S : it_SS} {a ci n : Nat} (h : κ.2.1 a = (ci + 3, n)) : it_ce g κ S a = .inr (ci, it_fs g κ S ci a) := by
  simp [it_ce, h]
theorem it_ce_ne {g : it_G} {κ : it_KK} {S : it_SS} {a j b : Nat} {v : Int32} (h : b ≠ a) : it_ce g κ (it_up S a j v) b = it_ce g κ S b := by
  have : it_fs g κ (it_up S a j v) = fun ci c => if c = a then it_fs g κ (it_up S a j v) ci c else it_fs g κ S ci c := by
    funext ci c
    by_cases hc : c = a
    · rw [if_pos hc]
    · rw [if_neg hc]
      simp only [it_fs, it_fld, it_up_ne hc]
  simp only [it_ce, it_up_ne h]
  split <;> try rfl
  rw [this]
  simp only [if_neg h]
theorem it_fs_get {g : it_G} {κ : it_KK} {S : it_SS} {ci a k : Nat} {r : Bool} (h : (it_mask ci)[k]? = some r) : (it_fs g κ S ci a)[k]? = some (it_fld g κ S ci a k r) := by
  simp [it_fs, List.getElem?_mapIdx, h]
theorem it_fs_up {g : it_G} {κ : it_KK} {S : it_SS} {ci a k : Nat} {v : Int32} (h : (it_mask ci)[k]? = some false) : (it_fs g κ S ci a).set k (.int v) = it_fs g κ (it_up S a k v) ci a := by
  apply List.ext_getElem?
  intro i
  rw [List.getElem?_set]
  have hl : k < (it_mask ci).length := (List.getElem?_eq_some_iff.mp h).1
  by_cases hi : k = i
  · subst hi
    rw [if_pos rfl, if_pos (by simpa [it_fs] using hl), it_fs_get h]
    simp [it_fld, it_up, upd]
  · rw [if_neg hi]
    simp only [it_fs, List.getElem?_mapIdx]
    cases hm : (it_mask ci)[i]? with
    | none => rfl
    | some r => simp [it_fld, it_up, upd, Ne.symm hi]
theorem it_fs_len (g : it_G) (κ : it_KK) (S : it_SS) (ci a : Nat) : (it_fs g κ S ci a).length = (it_mask ci).length := by simp [it_fs]
/-! what was there before the run: the script, three texts, two tables, a formatter -/
def it_lens : List Nat := [37, 48, 8]
def it_txt0 : String := "melts 10 ; feels weight ; chills 5 ; "
def it_txt1 : String := "meltsfeelschillsorandnotweighticecoldmooddaymore"
def it_txt2 : String := "();+-*<="
def it_bytes : List (List Int32) := [it_txt0.toList.map (fun c => Int32.ofNat c.toNat), it_txt1.toList.map (fun c => Int32.ofNat c.toNat), it_txt2.toList.map (fun c => Int32.ofNat c.toNat)]
def it_above : List Int32 := [-1, 0, 0, 1, 2, 0]
def it_wordAt : List Int32 := [0, 5, 10, 16, 18, 21, 24, 30, 33, 37, 41, 44, 48]
def it_nests : List (String × Nat × MethodName) := [("IcedTooSoon", 9, ⟨"IcedTooSoon$Lawbook", "<init>", "()V"⟩), ("IcedTooSoon", 18, ⟨"IcedTooSoon$Tape", "<init>", "()V"⟩), ("IcedTooSoon", 48, ⟨"IcedTooSoon$Sheet", "<init>", "()V"⟩), ("IcedTooSoon$Lawbook", 30, ⟨"IcedTooSoon", "isOutside", "(III)Z"⟩), ("IcedTooSoon$House", 89, ⟨"IcedTooSoon", "bounded", "(III)I"⟩), ("IcedTooSoon$House", 66, ⟨"IcedTooSoon", "isOutside", "(III)Z"⟩)]
def it_oldT (U : State) : Prop := va_AO it_R4 U ∧ va_AO it_R2 U ∧ va_Nw (.castable "[I" "java/lang/Cloneable") U ∧ ∀ q ∈ it_nests, va_Nw (.methodLinkNest q.1 q.2.1 q.2.2 "IcedTooSoon") U
def it_old (g : it_G) (U : State) (H : Heap) : Prop :=
  it_oldT U ∧
  va_X (g.2.2.2.1 0) g.2.2.2.2.1 g.2.2.2.2.2 U H ∧ g.2.2.2.1 0 < g.1 ∧ g.2.2.2.1 0 < H.size ∧
  vk_S 3 it_lens it_bytes (fun i => g.2.2.2.1 (1 + i)) (fun i => g.2.2.2.1 (4 + i)) (it_A g) U H ∧
  vk_R "IcedTooSoon" 49 it_txt0 (g.2.2.2.1 1) U ∧ vk_R "IcedTooSoon$Tape" 104 it_txt1 (g.2.2.2.1 2) U ∧ vk_R "IcedTooSoon$Tape" 90 it_txt2 (g.2.2.2.1 3) U ∧
  va_Z "IcedTooSoon" "KIND_ABOVE" "[I" (.ref (g.2.2.2.1 7)) (it_A g) U H ∧ va_T .int (g.2.2.2.1 7) 6 (fun j => .int (it_above.getD j 0)) (it_A g) U H ∧
  va_Z "IcedTooSoon$Tape" "WORD_AT" "[I" (.ref (g.2.2.2.1 8)) (it_A g) U H ∧ va_T .int (g.2.2.2.1 8) 13 (fun j => .int (it_wordAt.getD j 0)) (it_A g) U H ∧
  va_Z "java/lang/String" "COMPACT_STRINGS" "Z" (.int 1) (it_A g) U H ∧ va_Zq "jdk/internal/util/Preconditions" "SIOOBE_FORMATTER" "Ljava/util/function/BiFunction;" (it_A g) U H
theorem it_oldT.warm {s U : State} (hW : s.WarmedH U.vm) (h : it_oldT s) : it_oldT U := ⟨h.1.moved hW.alike, h.2.1.moved hW.alike, h.2.2.1.warmC hW, fun q hq => (h.2.2.2 q hq).warmM hW⟩
theorem it_oldT.same {u U : State} (hv : U.vm = u.vm) (h : it_oldT u) : it_oldT U := ⟨h.1.moved (hv ▸ Vm.Alike.refl u.vm), h.2.1.moved (hv ▸ Vm.Alike.refl u.vm), h.2.2.1.same rfl hv.symm, fun q hq => (h.2.2.2 q hq).same rfl hv.symm⟩
theorem it_old.warm {g : it_G} {s U : State} {H H1 : Heap} (hW : s.WarmedH U.vm) (hz : H.size ≤ H1.size) (hq : ∀ a : Nat, a < H.size → ¬ it_A g a → H1[a]? = H[a]?) (h : it_old g s H) : it_old g U H1 := by
  obtain ⟨h0, h1, h2, h3, h4, h5, h6, h7, h8, h9, h10, h11, h12, h13⟩ := h
  have hv := hW.alike
  refine ⟨h0.warm hW, (h1.moved hv).kept (hq _ h3 (Nat.not_le.mpr h2)), h2, Nat.lt_of_lt_of_le h3 hz, (h4.moved hv).kept hq, h5.warm hW, h6.warm hW, h7.warm hW, (h8.moved hv).kept hq, (h9.moved hv).kept hq, (h10.moved hv).kept hq, (h11.moved hv).kept hq, (h12.moved hv).kept hq, ?_⟩
  rcases h13 with h | ⟨t, h⟩
  · exact Or.inl ((h.moved hv).kept hq)
  · exact Or.inr ⟨t, (h.moved hv).kept hq⟩
theorem it_old.same {g : it_G} {u U : State} {H : Heap} (hv : U.vm = u.vm) (h : it_old g u H) : it_old g U H := by
  obtain ⟨h0, h1, h2, h3, h4, h5, h6, h7, h8, h9, h10, h11, h12, h13⟩ := h
  have ha : u.vm.Alike U.vm := hv ▸ Vm.Alike.refl u.vm
  refine ⟨h0.same hv, h1.moved ha, h2, h3, h4.moved ha, h5.same hv, h6.same hv, h7.same hv, h8.moved ha, h9.moved ha, h10.moved ha, h11.moved ha, h12.moved ha, ?_⟩
  rcases h13 with h | ⟨t, h⟩
  · exact Or.inl (h.moved ha)
  · exact Or.inr ⟨t, h.moved ha⟩
end
section
/-! a method's run, by itself: what the machine has around it is hidden -/
abbrev it_M : Type := MethodName × ByteArray × Nat × Option FieldType × Nat × Nat
abbrev it_L : Type := List (Option Value)
def it_tr (g : it_G) : Value → Value
  | .ref k => .ref (g.1 + k)
  | .retAddr k => .ref (g.2.2.2.1 k)
  | v => v
theorem it_tr_cat (g : it_G) (v : Value) : (it_tr g v).category = v.category := by cases v <;> rfl
def it_lv (g : it_G) (L : it_L) : List (Nat × Value) := (List.range L.length).filterMap (fun i => (L[i]?.join).map (fun v => (i, it_tr g v)))
theorem it_lv_mem {g : it_G} {L : it_L} {q : Nat × Value} : q ∈ it_lv g L ↔ ∃ v, L[q.1]? = some (some v) ∧ q.2 = it_tr g v := by
  simp only [it_lv, List.mem_filterMap, List.mem_range, Option.map_eq_some_iff]
  constructor
  · rintro ⟨i, hi, v, hv, rfl⟩
    refine ⟨v, ?_, rfl⟩
    simpa [Option.join_eq_some_iff] using hv
  · rintro ⟨v, hv, h2⟩
    refine ⟨q.1, (List.getElem?_eq_some_iff.mp hv).1, v, ?_, ?_⟩
    · simp [hv]
    · rw [← h2]
def it_kill (L : it_L) (i : Nat) : it_L := match i with
  | 0 => L
  | j + 1 => match L[j]? with
    | some (some (.long _)) => L.set j none
    | some (some (.double _)) => L.set j none
    | _ => L
def it_set (L : it_L) (i : Nat) (v : Value) : it_L := (it_kill L i).set i (some v)
def it_set2 (L : it_L) (i : Nat) (v : Value) : it_L := ((it_kill L i).set (i + 1) none).set i (some v)
theorem it_kill_get {L : it_L} {i j : Nat} {w : Value} (h : (it_kill L i)[j]? = some (some w)) : L[j]? = some (some w) ∧ ¬ (j + 1 = i ∧ w.category = 2) := by
  cases i with
  | zero => exact ⟨h, fun q => by omega⟩
  | succ i =>
    by_cases hj : j = i
    · subst hj
      simp only [it_kill] at h
      split at h
      · rename_i x hx
        rw [List.getElem?_set] at h
        simp at h
      · rename_i x hx
        rw [List.getElem?_set] at h
        simp at h
      · rename_i h1 h2
        refine ⟨h, fun q => ?_⟩
        cases w with
        | long x => exact h1 x h
        | double x => exact h2 x h
        | _ => exact absurd q.2 (by simp [Value.category])
    · refine ⟨?_, fun q => hj (by omega)⟩
      simp only [it_kill] at h
      split at h
      · rw [List.getElem?_set, if_neg (fun q => hj q.symm)] at h
        exact h
      · rw [List.getElem?_set, if_neg (fun q => hj q.symm)] at h
        exact h
      · exact h
theorem it_has_set {g : it_G} {ls : Array Slot} {nL : Nat} {L : it_L} {i : Nat} {v x : Value} (hx : it_tr g v = x) (h : lv_has ls nL ((i, x) :: (it_lv g L).filter (fun q => !(q.1 == i) && !(q.1 + 1 == i && q.2.category == 2)))) : lv_has ls nL (it_lv g (it_set L i v)) := by
  refine ⟨h.1, h.2.1, fun q hq => h.2.2 q ?_⟩
  obtain ⟨w, hw, hq2⟩ := it_lv_mem.mp hq
  rw [it_set, List.getElem?_set] at hw
  by_cases hi : i = q.1
  · rw [if_pos hi] at hw
    split at hw
    · cases hw
      rw [← hx, ← hq2, hi]
      exact List.mem_cons_self
    · cases hw
  · rw [if_neg hi] at hw
    obtain ⟨h1, h2⟩ := it_kill_get hw
    refine List.mem_cons_of_mem _ (List.mem_filter.mpr ⟨it_lv_mem.mpr ⟨w, h1, hq2⟩, ?_⟩)
    rw [hq2, it_tr_cat]
    simp only [Bool.and_eq_true, Bool.not_eq_true', beq_eq_false_iff_ne, ne_eq, Bool.and_eq_false_iff]
    refine ⟨fun q => hi q.symm, ?_⟩
    by_cases h3 : q.1 + 1 = i
    · exact Or.inr (fun q => h2 ⟨h3, by simpa using q⟩)
    · exact Or.inl h3
theorem it_has_set2 {g : it_G} {ls : Array Slot} {nL : Nat} {L : it_L} {i : Nat} {v x : Value} (hx : it_tr g v = x) (h : lv_has ls nL ((i, x) :: (it_lv g L).filter (fun q => !(q.1 == i) && (!(q.1 == i + 1) && !(q.1 + 1 == i && q.2.category == 2))))) : lv_has ls nL (it_lv g (it_set2 L i v)) := by
  refine ⟨h.1, h.2.1, fun q hq => h.2.2 q ?_⟩
  obtain ⟨w, hw, hq2⟩ := it_lv_mem.mp hq
  rw [it_set2, List.getElem?_set] at hw
  by_cases hi : i = q.1
  · rw [if_pos hi] at hw
    split at hw
    · cases hw
      rw [← hx, ← hq2, hi]
      exact List.mem_cons_self
    · cases hw
  · rw [if_neg hi, List.getElem?_set] at hw
    by_cases hi2 : i + 1 = q.1
    · rw [if_pos hi2] at hw
      split at hw <;> cases hw
    · rw [if_neg hi2] at hw
      obtain ⟨h1, h2⟩ := it_kill_get hw
      refine List.mem_cons_of_mem _ (List.mem_filter.mpr ⟨it_lv_mem.mpr ⟨w, h1, hq2⟩, ?_⟩)
      rw [hq2, it_tr_cat]
      simp only [Bool.and_eq_true, Bool.not_eq_true', beq_eq_false_iff_ne, ne_eq, Bool.and_eq_false_iff]
      refine ⟨fun q => hi q.symm, fun q => hi2 q.symm, ?_⟩
      by_cases h3 : q.1 + 1 = i
      · exact Or.inr (fun q => h2 ⟨h3, by simpa using q⟩)
      · exact Or.inl h3
/-- the tables' words that stay as they are -/
def it_tb : List Cond := lw_tbl.filter goodWord
theorem it_in_tb {w : Cond} (h : w ∈ lw_tbl) (hg : goodWord w = true) : w ∈ it_tb := List.mem_filter.mpr ⟨h, hg⟩
theorem it_tb_good {w : Cond} (h : w ∈ it_tb) : goodWord w = true := (List.mem_filter.mp h).2
def it_cx (d : Nat) (M : it_M) (p : Program) (R : Room) (s : State) (m : MethodId) (args : Array Value) (meth : Method) (c : Code) : Prop :=
  p.tables.exec = Jvm.exec ∧ c.code = M.2.1 ∧ c.maxLocals = M.2.2.1 ∧ s.vm.findClass M.1.cls = some m.cls ∧ (∀ w ∈ it_tb, w.before args s = true) ∧ meth.name = M.1.name ∧ d ≤ R.frames ∧ 60 * d ≤ R.locals ∧ M.2.2.2.2.1 ≤ R.cells ∧ M.2.2.2.2.2 ≤ R.slots
def it_fr (g : it_G) (κ : it_KK) (S : it_SS) (s : State) (H : Heap) (locs : List Loc) : Prop :=
  H.size = g.1 + κ.1 ∧ g.1 ≤ s.heap.size ∧ va_P g.2.1 it_cl (it_ws g κ S) H ∧ va_K g.2.1 it_cl (it_tys g) s ∧ it_old g s s.heap ∧ va_S (it_A g) s.heap H locs
/-- how many cells have come, told exactly (but for the law itself) -/
def it_ex (g : it_G) (κ : it_KK) (kc : Nat) (s : State) : Prop := kc < 1000 → s.heap.size + kc = g.1 + κ.1
def it_ret (M : it_M) (pc : Nat) (v : Option Value) : Prop := match v with
  | none => decode M.2.1 pc = .ok (.return_, 1) ∧ M.2.2.2.1 = none
  | some (.int x) => decode M.2.1 pc = .ok (.ireturn, 1) ∧ ∃ ty, M.2.2.2.1 = some ty ∧ narrow ty (.int x) = .int x
  | some (.long _) => decode M.2.1 pc = .ok (.lreturn, 1) ∧ M.2.2.2.1 = some .long
  | some (.ref _) => decode M.2.1 pc = .ok (.areturn, 1) ∧ ∃ rt, M.2.2.2.1 = some rt ∧ ((∃ n, rt = .object n) ∨ ∃ t, rt = .array t)
  | _ => False
def it_Ev (g : it_G) (l : Launch) (d : Nat) (M : it_M) (kc ks pc : Nat) (L : it_L) (st : List Value) (κ : it_KK) (S : it_SS) (P : Option Value → it_KK → it_SS → Prop) : Prop :=
  ∀ (p : Program) (e : Env) (R : Room) (s : State) (m : MethodId) (args : Array Value) (below : List Frame) (meth : Method) (c : Code) (H : Heap) (locs : List Loc) (ls : Array Slot) (Q : State → Prop),
    it_cx d M p R s m args meth c → it_fr g κ S s H locs → it_ex g κ kc s → lv_has ls M.2.2.1 (it_lv g L) →
    (∀ (v : Option Value) (κ' : it_KK) (S' : it_SS) (H' : Heap) (locs' : List Loc) (pc' : Nat) (ls' : Array Slot), P v κ' S' → it_fr g κ' S' s H' locs' → it_ret M pc' v → W p l e R s m args below meth c H' locs' M.2.2.2.2.1 M.2.2.2.2.2 Q (F0 m pc' ls' (v.toList.map (it_tr g)))) →
    W p l e R s m args below meth c H locs kc ks Q (F0 m pc ls (st.map (it_tr g)))
def it_wd (g : it_G) (κ : it_KK) (S : it_SS) (U : State) : Prop :=
  U.heap.size = g.1 + κ.1 ∧ va_P g.2.1 it_cl (it_ws g κ S) U.heap ∧ va_K g.2.1 it_cl (it_tys g) U ∧ it_old g U U.heap
def it_Qc (g : it_G) (P : Option Value → it_KK → it_SS → Prop) : Array Value → State → Outcome → State → Prop := fun _ st oc t =>
  (∃ (v : Option Value) (κ' : it_KK) (S' : it_SS), oc = .returned (v.map (it_tr g)) ∧ P v κ' S' ∧ t.heap.size = g.1 + κ'.1 ∧ va_P g.2.1 it_cl (it_ws g κ' S') t.heap) ∧ va_F (it_A g) st t
def it_rm (d : Nat) (M : it_M) : Room := { frames := d, cells := M.2.2.2.2.1, slots := M.2.2.2.2.2, locals := 60 * d }
def it_wds (M : it_M) : List Cond := .code M.1 M.2.1 M.2.2.1 M.2.2.2.1 :: it_tb
def it_Cn (g : it_G) (l : Launch) (d : Nat) (M : it_M) (av : List Value) (κ : it_KK) (S : it_SS) (P : Option Value → it_KK → it_SS → Prop) : Prop :=
  Met l M.1 (it_wds M) (it_rm d M) (va_Pc (av.map (it_tr g)) (it_wd g κ S)) (it_Qc g P) M.2.2.2.2.1 M.2.2.2.2.2 (it_A g)
def it_ent : List Value → it_L
  | [] => []
  | v :: vs => if v.category = 2 then some v :: none :: it_ent vs else some v :: it_ent vs
def it_in (n : Nat) (av : List Value) : it_L := it_ent av ++ List.replicate (n - (it_ent av).length) none
theorem it_ent_at (g : it_G) : ∀ (av : List Value) (i o : Nat) (v : Value), (it_ent av)[i]? = some (some v) → (o + i, it_tr g v) ∈ lv_args o (av.map (it_tr g))
  | [], i, o, v, h => by simp [it_ent] at h
  | w :: ws, i, o, v, h => by
    simp only [List.map_cons, lv_args]
    rw [it_tr_cat]
    simp only [it_ent] at h
    by_cases hc : w.category = 2
    · rw [if_pos hc] at h ⊢
      match i, h with
      | 0, h => cases h; exact List.mem_cons_self
      | 1, h => cases h
      | i + 2, h =>
        have := it_ent_at g ws i (o + 2) v h
        rw [show o + (i + 2) = o + 2 + i by omega]
        exact List.mem_cons_of_mem _ this
    · rw [if_neg hc] at h ⊢
      match i, h with
      | 0, h => cases h; exact List.mem_cons_self
      | i + 1, h =>
        have := it_ent_at g ws i (o + 1) v h
        rw [show o + (i + 1) = o + 1 + i by omega]
        exact List.mem_cons_of_mem _ this
theorem it_has_in {g : it_G} {ls : Array Slot} {n : Nat} {av : List Value} (h : lv_has ls n (lv_args 0 (av.map (it_tr g)))) : lv_has ls n (it_lv g (it_in n av)) := by
  refine ⟨h.1, h.2.1, fun q hq => h.2.2 q ?_⟩
  obtain ⟨w, hw, hq2⟩ := it_lv_mem.mp hq
  have h1 : (it_ent av)[q.1]? = some (some w) := by
    rw [it_in] at hw
    by_cases hl : q.1 < (it_ent av).length
    · rwa [List.getElem?_append_left hl] at hw
    · rw [List.getElem?_append_right (by omega)] at hw
      have := List.mem_of_getElem? hw
      simp at this
  have := it_ent_at g av q.1 0 w h1
  rw [Nat.zero_add, ← hq2] at this
  exact this
/-- a contract out of a run -/
theorem it_Cn.of {g : it_G} {l : Launch} {d : Nat} {M : it_M} {av : List Value} {κ : it_KK} {S : it_SS} {P : Option Value → it_KK → it_SS → Prop} (hy : plainName M.1.cls = true) (hl : (lg_sl (av.map (it_tr g))).length ≤ M.2.2.1)
    (h : it_Ev g l d M 0 0 0 (it_in M.2.2.1 av) [] κ S P) : it_Cn g l d M av κ S P := by
  refine Met.ofW (cc := M.2.1) (maxL := M.2.2.1) (ret := M.2.2.2.1) hy rfl ?_
  intro p e s m args below meth c s₁ B hml hv
  obtain ⟨rfl, hsz, hP, hK, hO⟩ := hv
  have hts := atoms_spec (ws := it_wds M) B.pre
  have hlocks := B.notSynchronized
  have hent := lv_entry (av.map (it_tr g)) (n := M.2.2.1) hl
  rw [lg_entry_eq]
  generalize (lg_sl (av.map (it_tr g)) ++ List.replicate (M.2.2.1 - (lg_sl (av.map (it_tr g))).length) Slot.unset).toArray = ls at hent ⊢
  refine h p e (headSpec (it_wds M) (it_rm d M)).room s m _ below meth c s.heap [] ls _ ⟨B.exec, B.bytes, hml, findClass_of_methodNamed B.named, fun w hw => hts w (List.mem_cons_of_mem _ hw), (name_of_methodNamed B.named B.method).1, Nat.le_refl _, Nat.le_refl _, Nat.le_refl _, Nat.le_refl _⟩
    ⟨hsz, by rw [hsz]; exact Nat.le_add_right _ _, hP, hK, hO, va_S.rf⟩ (fun _ => hsz) (it_has_in hent) ?_
  intro v κ' S' H' locs' pc' ls' hp hf hr
  have hq : ∀ t : State, t.heap = H' → s.WarmedH t.vm → it_Qc g P (List.map (it_tr g) av).toArray s (.returned (v.map (it_tr g))) t := fun t ht hW =>
    ⟨⟨v, κ', S', rfl, hp, by rw [ht]; exact hf.1, by rw [ht]; exact hf.2.2.1⟩, hf.2.2.2.2.2.F ht⟩
  match v, hr, hq with
  | none, hr, hq => exact W.vret B.exec B.bytes (B.returns.trans hr.2) hq hf.2.2.2.2.2.2.2 hr.1
  | some (.int x), hr, hq =>
    obtain ⟨h1, ty, h2, h3⟩ := hr
    exact W.zret B.exec B.bytes (B.returns.trans h2) h3 hq hf.2.2.2.2.2.2.2 h1
  | some (.long x), hr, hq => exact W.lret B.exec B.bytes (B.returns.trans hr.2) hq hf.2.2.2.2.2.2.2 hr.1
  | some (.ref x), hr, hq =>
    obtain ⟨h1, rt, h2, h3⟩ := hr
    exact W.aret B.exec B.bytes (B.returns.trans h2) h3 (Or.inr ⟨_, rfl⟩) hq hf.2.2.2.2.2.2.2 h1
theorem it_wd.calling {g : it_G} {κ : it_KK} {S : it_SS} {U : State} {f : JFrame} {mk : MethodId} {a : Array Value} (h : it_wd g κ S U) : it_wd g κ S (U.calling f mk a) := by
  obtain ⟨h1, h2, h3, h4⟩ := h
  exact ⟨h1, h2, va_K.moved (u := U) (U := U.calling f mk a) (Vm.Alike.refl U.vm) h3, it_old.same (u := U) rfl h4⟩
theorem it_fr.wd {g : it_G} {κ : it_KK} {S : it_SS} {s U : State} {H : Heap} {locs : List Loc} (h : it_fr g κ S s H locs) (hU : U.heap = H) (hW : s.WarmedH U.vm) : it_wd g κ S U := by
  obtain ⟨h1, h2, h3, h4, h5, h6⟩ := h
  exact ⟨by rw [hU]; exact h1, by rw [hU]; exact h3, va_K.moved hW.alike h4, it_old.warm hW (by rw [hU]; exact h6.1) (fun a ha hn => by rw [hU]; exact h6.2.1 a ha hn) h5⟩
theorem it_after {g : it_G} {p : Program} {l : Launch} {e : Env} {R : Room} {s : State} {m : MethodId} {args : Array Value} {below : List Frame} {meth : Method} {c : Code} {H : Heap} {locs : List Loc} {kc ks mc ms pc : Nat} {ls : Array Slot} {st0 : List Value} {rest : List Value} {Q : State → Prop} {P' : Option Value → it_KK → it_SS → Prop} {a : Array Value} {κ : it_KK} {S : it_SS}
    (hr : va_Run p l e R s m args below meth c H locs kc ks mc ms (F0 m pc ls st0) (rest.map (it_tr g)) (it_Qc g P' a) (it_A g)) (hf : it_fr g κ S s H locs)
    (kk : ∀ (v : Option Value) (κ' : it_KK) (S' : it_SS) (H1 : Heap) (locs1 : List Loc), P' v κ' S' → it_fr g κ' S' s H1 locs1 → W p l e R s m args below meth c H1 locs1 (kc + mc) (ks + ms) Q (F0 m (pc + 3) ls ((v.toList ++ rest).map (it_tr g)))) : W p l e R s m args below meth c H locs kc ks Q (F0 m pc ls st0) := by
  intro T hT X
  obtain ⟨v, st₀, t, T', L, h0, X', hL, e1, e2, ⟨⟨v', κ', S', hv, hp, hz1, hP1⟩, hz, hk⟩, st⟩ := hr T hT X
  cases hv
  rw [h0] at hz hk
  obtain ⟨f1, f2, f3, f4, f5, f6⟩ := hf
  obtain ⟨t2, a1, b1⟩ := kk v' κ' S' T'.heap (locs ++ L) hp ⟨by rw [e1]; exact hz1, f2, by rw [e1]; exact hP1, f4, f5,
    ⟨Nat.le_trans f6.1 (by rw [e1]; exact hz), fun q h1 h2 => by rw [e1, hk q (Nat.lt_of_lt_of_le h1 f6.1) h2]; exact f6.2.1 q h1 h2, fun q hq => by
      rcases List.mem_append.mp hq with h | h
      · exact f6.2.2 q h
      · exact hL q h⟩⟩ T' rfl X'
  refine ⟨t2, st t2 ?_, b1⟩
  cases v' <;> simpa using a1
theorem it_W_sz {p : Program} {l : Launch} {e : Env} {R : Room} {s : State} {m : MethodId} {args : Array Value} {below : List Frame} {meth : Method} {c : Code} {H : Heap} {locs : List Loc} {cells slots : Nat} {Q : State → Prop} {f : JFrame} (h : H.size ≤ s.heap.size + cells → W p l e R s m args below meth c H locs cells slots Q f) : W p l e R s m args below meth c H locs cells slots Q f := fun T hT X => h (by rw [← hT]; exact X.heapSize) T hT X
theorem it_S_here {A : Nat → Prop} {H0 H : Heap} {locs : List Loc} (h : va_S A H0 H locs) : va_S A H H locs := ⟨Nat.le_refl _, fun _ _ _ => rfl, h.2.2⟩
theorem it_S_trans {A : Nat → Prop} {H0 H H1 : Heap} {locs locs1 : List Loc} (h : va_S A H0 H locs) (h1 : va_S A H H1 locs1) : va_S A H0 H1 locs1 := ⟨Nat.le_trans h.1 h1.1, fun q a b => (h1.2.1 q (Nat.lt_of_lt_of_le a h.1) b).trans (h.2.1 q a b), h1.2.2⟩
end
section
section ITR
variable {g : it_G} {l : Launch} {d : Nat} {M : it_M} {kc ks pc : Nat} {L : it_L} {st : List Value} {κ : it_KK} {S : it_SS} {P : Option Value → it_KK → it_SS → Prop}
theorem it_at {ls : Array Slot} {nL i : Nat} {v : Value} (h : lv_has ls nL (it_lv g L)) (hL : L[i]? = some (some v)) : ls[i]? = some (.val (it_tr g v)) := h.2.2 (i, it_tr g v) (it_lv_mem.mpr ⟨v, hL, rfl⟩)
theorem ev_iconst {n : Int} {v : Int32} (hd : decode M.2.1 pc = .ok (.iconst n, 1)) (hv : Int32.ofInt n = v) (k : it_Ev g l d M kc ks (pc + 1) L (.int v :: st) κ S P) : it_Ev g l d M kc ks pc L st κ S P := fun p e R s m args below meth c H locs ls Q C F X hl hq => lv_iconst C.1 C.2.1 hd hv (k p e R s m args below meth c H locs ls Q C F X hl hq)
theorem ev_bipush {n : Int} {v : Int32} (hd : decode M.2.1 pc = .ok (.bipush n, 2)) (hv : (Int8.ofInt n).toInt32 = v) (k : it_Ev g l d M kc ks (pc + 2) L (.int v :: st) κ S P) : it_Ev g l d M kc ks pc L st κ S P := fun p e R s m args below meth c H locs ls Q C F X hl hq => lv_bipush C.1 C.2.1 hd hv (k p e R s m args below meth c H locs ls Q C F X hl hq)
theorem ev_sipush {n : Int} {v : Int32} (hd : decode M.2.1 pc = .ok (.sipush n, 3)) (hv : (Int16.ofInt n).toInt32 = v) (k : it_Ev g l d M kc ks (pc + 3) L (.int v :: st) κ S P) : it_Ev g l d M kc ks pc L st κ S P := fun p e R s m args below meth c H locs ls Q C F X hl hq => lv_sipush C.1 C.2.1 hd hv (k p e R s m args below meth c H locs ls Q C F X hl hq)
theorem ev_lconst {n : Fin 2} {v : Int64} (hd : decode M.2.1 pc = .ok (.lconst n, 1)) (hv : Int64.ofNat n = v) (k : it_Ev g l d M kc ks (pc + 1) L (.long v :: st) κ S P) : it_Ev g l d M kc ks pc L st κ S P := fun p e R s m args below meth c H locs ls Q C F X hl hq => lv_lconst C.1 C.2.1 hd hv (k p e R s m args below meth c H locs ls Q C F X hl hq)
theorem ev_ldc {i : Nat} {v : Int32} (hd : decode M.2.1 pc = .ok (.ldc i, 2)) (hc : Cond.constant M.1.cls i v ∈ it_tb) (k : it_Ev g l d M kc ks (pc + 2) L (.int v :: st) κ S P) : it_Ev g l d M kc ks pc L st κ S P := fun p e R s m args below meth c H locs ls Q C F X hl hq => lv_ldc C.1 C.2.1 C.2.2.2.1 (C.2.2.2.2.1 _ hc) hd (k p e R s m args below meth c H locs ls Q C F X hl hq)
theorem ev_ldcw {i : Nat} {v : Int32} (hd : decode M.2.1 pc = .ok (.ldc_w i, 3)) (hc : Cond.constant M.1.cls i v ∈ it_tb) (k : it_Ev g l d M kc ks (pc + 3) L (.int v :: st) κ S P) : it_Ev g l d M kc ks pc L st κ S P := fun p e R s m args below meth c H locs ls Q C F X hl hq => lv_ldcw C.1 C.2.1 C.2.2.2.1 (C.2.2.2.2.1 _ hc) hd (k p e R s m args below meth c H locs ls Q C F X hl hq)
theorem ev_ldc2 {i : Nat} {v : Int64} (hd : decode M.2.1 pc = .ok (.ldc2_w i, 3)) (hc : Cond.constantLong M.1.cls i v ∈ it_tb) (k : it_Ev g l d M kc ks (pc + 3) L (.long v :: st) κ S P) : it_Ev g l d M kc ks pc L st κ S P := fun p e R s m args below meth c H locs ls Q C F X hl hq => lv_ldc2 C.1 C.2.1 C.2.2.2.1 (C.2.2.2.2.1 _ hc) hd (k p e R s m args below meth c H locs ls Q C F X hl hq)
theorem ev_iload_n {i : Fin 4} {x : Int32} (hd : decode M.2.1 pc = .ok (.iload_n i, 1)) (hL : L[(i : Nat)]? = some (some (.int x))) (k : it_Ev g l d M kc ks (pc + 1) L (.int x :: st) κ S P) : it_Ev g l d M kc ks pc L st κ S P := fun p e R s m args below meth c H locs ls Q C F X hl hq => lv_iload_n C.1 C.2.1 hd rfl (it_at hl hL) (k p e R s m args below meth c H locs ls Q C F X hl hq)
theorem ev_iload {i : Nat} {x : Int32} (hd : decode M.2.1 pc = .ok (.iload i, 2)) (hL : L[i]? = some (some (.int x))) (k : it_Ev g l d M kc ks (pc + 2) L (.int x :: st) κ S P) : it_Ev g l d M kc ks pc L st κ S P := fun p e R s m args below meth c H locs ls Q C F X hl hq => lv_iload C.1 C.2.1 hd (it_at hl hL) (k p e R s m args below meth c H locs ls Q C F X hl hq)
theorem ev_lload_n {i : Fin 4} {x : Int64} (hd : decode M.2.1 pc = .ok (.lload_n i, 1)) (hL : L[(i : Nat)]? = some (some (.long x))) (k : it_Ev g l d M kc ks (pc + 1) L (.long x :: st) κ S P) : it_Ev g l d M kc ks pc L st κ S P := fun p e R s m args below meth c H locs ls Q C F X hl hq => lv_lload_n C.1 C.2.1 hd rfl (it_at hl hL) (k p e R s m args below meth c H locs ls Q C F X hl hq)
theorem ev_lload {i : Nat} {x : Int64} (hd : decode M.2.1 pc = .ok (.lload i, 2)) (hL : L[i]? = some (some (.long x))) (k : it_Ev g l d M kc ks (pc + 2) L (.long x :: st) κ S P) : it_Ev g l d M kc ks pc L st κ S P := fun p e R s m args below meth c H locs ls Q C F X hl hq => lv_lload C.1 C.2.1 hd (it_at hl hL) (k p e R s m args below meth c H locs ls Q C F X hl hq)
theorem ev_aload_n {i : Fin 4} {x : Nat} (hd : decode M.2.1 pc = .ok (.aload_n i, 1)) (hL : L[(i : Nat)]? = some (some (.ref x))) (k : it_Ev g l d M kc ks (pc + 1) L (.ref x :: st) κ S P) : it_Ev g l d M kc ks pc L st κ S P := fun p e R s m args below meth c H locs ls Q C F X hl hq => lv_aload_n C.1 C.2.1 hd rfl (it_at hl hL) (k p e R s m args below meth c H locs ls Q C F X hl hq)
theorem ev_aload {i : Nat} {x : Nat} (hd : decode M.2.1 pc = .ok (.aload i, 2)) (hL : L[i]? = some (some (.ref x))) (k : it_Ev g l d M kc ks (pc + 2) L (.ref x :: st) κ S P) : it_Ev g l d M kc ks pc L st κ S P := fun p e R s m args below meth c H locs ls Q C F X hl hq => lv_aload C.1 C.2.1 hd (it_at hl hL) (k p e R s m args below meth c H locs ls Q C F X hl hq)
theorem ev_aload_nO {i : Fin 4} {x : Nat} (hd : decode M.2.1 pc = .ok (.aload_n i, 1)) (hL : L[(i : Nat)]? = some (some (.retAddr x))) (k : it_Ev g l d M kc ks (pc + 1) L (.retAddr x :: st) κ S P) : it_Ev g l d M kc ks pc L st κ S P := fun p e R s m args below meth c H locs ls Q C F X hl hq => lv_aload_n C.1 C.2.1 hd rfl (it_at hl hL) (k p e R s m args below meth c H locs ls Q C F X hl hq)
theorem ev_aloadO {i : Nat} {x : Nat} (hd : decode M.2.1 pc = .ok (.aload i, 2)) (hL : L[i]? = some (some (.retAddr x))) (k : it_Ev g l d M kc ks (pc + 2) L (.retAddr x :: st) κ S P) : it_Ev g l d M kc ks pc L st κ S P := fun p e R s m args below meth c H locs ls Q C F X hl hq => lv_aload C.1 C.2.1 hd (it_at hl hL) (k p e R s m args below meth c H locs ls Q C F X hl hq)
theorem ev_istore_n {i : Fin 4} {x : Int32} (hd : decode M.2.1 pc = .ok (.istore_n i, 1)) (hn : (i : Nat) < M.2.2.1) (k : it_Ev g l d M kc ks (pc + 1) (it_set L i (.int x)) st κ S P) : it_Ev g l d M kc ks pc L (.int x :: st) κ S P := fun p e R s m args below meth c H locs ls Q C F X hl hq => lv_istore_n C.1 C.2.1 hd rfl hl hn rfl (fun ls1 hl1 => k p e R s m args below meth c H locs ls1 Q C F X (it_has_set rfl hl1) hq)
theorem ev_istore {i : Nat} {x : Int32} (hd : decode M.2.1 pc = .ok (.istore i, 2)) (hn : (i : Nat) < M.2.2.1) (k : it_Ev g l d M kc ks (pc + 2) (it_set L i (.int x)) st κ S P) : it_Ev g l d M kc ks pc L (.int x :: st) κ S P := fun p e R s m args below meth c H locs ls Q C F X hl hq => lv_istore C.1 C.2.1 hd hl hn rfl (fun ls1 hl1 => k p e R s m args below meth c H locs ls1 Q C F X (it_has_set rfl hl1) hq)
theorem ev_lstore_n {i : Fin 4} {x : Int64} (hd : decode M.2.1 pc = .ok (.lstore_n i, 1)) (hn : (i : Nat) + 1 < M.2.2.1) (k : it_Ev g l d M kc ks (pc + 1) (it_set2 L i (.long x)) st κ S P) : it_Ev g l d M kc ks pc L (.long x :: st) κ S P := fun p e R s m args below meth c H locs ls Q C F X hl hq => lv_lstore_n C.1 C.2.1 hd rfl hl hn rfl (fun ls1 hl1 => k p e R s m args below meth c H locs ls1 Q C F X (it_has_set2 rfl hl1) hq)
theorem ev_lstore {i : Nat} {x : Int64} (hd : decode M.2.1 pc = .ok (.lstore i, 2)) (hn : (i : Nat) + 1 < M.2.2.1) (k : it_Ev g l d M kc ks (pc + 2) (it_set2 L i (.long x)) st κ S P) : it_Ev g l d M kc ks pc L (.long x :: st) κ S P := fun p e R s m args below meth c H locs ls Q C F X hl hq => lv_lstore C.1 C.2.1 hd hl hn rfl (fun ls1 hl1 => k p e R s m args below meth c H locs ls1 Q C F X (it_has_set2 rfl hl1) hq)
theorem ev_astore_n {i : Fin 4} {x : Nat} (hd : decode M.2.1 pc = .ok (.astore_n i, 1)) (hn : (i : Nat) < M.2.2.1) (k : it_Ev g l d M kc ks (pc + 1) (it_set L i (.ref x)) st κ S P) : it_Ev g l d M kc ks pc L (.ref x :: st) κ S P := fun p e R s m args below meth c H locs ls Q C F X hl hq => lv_astore_n C.1 C.2.1 hd rfl hl hn rfl (fun ls1 hl1 => k p e R s m args below meth c H locs ls1 Q C F X (it_has_set rfl hl1) hq)
theorem ev_astore {i : Nat} {x : Nat} (hd : decode M.2.1 pc = .ok (.astore i, 2)) (hn : (i : Nat) < M.2.2.1) (k : it_Ev g l d M kc ks (pc + 2) (it_set L i (.ref x)) st κ S P) : it_Ev g l d M kc ks pc L (.ref x :: st) κ S P := fun p e R s m args below meth c H locs ls Q C F X hl hq => lv_astore C.1 C.2.1 hd hl hn rfl (fun ls1 hl1 => k p e R s m args below meth c H locs ls1 Q C F X (it_has_set rfl hl1) hq)
theorem ev_iinc {i : Nat} {n : Int} {x c1 : Int32} (hd : decode M.2.1 pc = .ok (.iinc i n, 3)) (hc : Int32.ofInt n = c1) (hL : L[i]? = some (some (.int x))) (hn : i < M.2.2.1) (k : it_Ev g l d M kc ks (pc + 3) (it_set L i (.int (x + c1))) st κ S P) : it_Ev g l d M kc ks pc L st κ S P := by
  intro p e R s m args below meth c H locs ls Q C F X hl hq
  obtain ⟨j, hj⟩ := List.mem_iff_getElem?.mp (it_lv_mem (g := g) (L := L) (q := (i, .int x)).mpr ⟨.int x, hL, rfl⟩)
  exact lv_iinc (v := x + c1) C.1 C.2.1 hd hl hj (by rw [hc]) hn rfl (fun ls1 hl1 => k p e R s m args below meth c H locs ls1 Q C F X (it_has_set rfl hl1) hq)
theorem ev_iadd {x y : Int32} (hd : decode M.2.1 pc = .ok (.iadd, 1)) (k : it_Ev g l d M kc ks (pc + 1) L (.int (x + y) :: st) κ S P) : it_Ev g l d M kc ks pc L (.int y :: .int x :: st) κ S P := fun p e R s m args below meth c H locs ls Q C F X hl hq => lv_iadd C.1 C.2.1 hd (k p e R s m args below meth c H locs ls Q C F X hl hq)
theorem ev_isub {x y : Int32} (hd : decode M.2.1 pc = .ok (.isub, 1)) (k : it_Ev g l d M kc ks (pc + 1) L (.int (x - y) :: st) κ S P) : it_Ev g l d M kc ks pc L (.int y :: .int x :: st) κ S P := fun p e R s m args below meth c H locs ls Q C F X hl hq => lv_isub C.1 C.2.1 hd (k p e R s m args below meth c H locs ls Q C F X hl hq)
theorem ev_imul {x y : Int32} (hd : decode M.2.1 pc = .ok (.imul, 1)) (k : it_Ev g l d M kc ks (pc + 1) L (.int (x * y) :: st) κ S P) : it_Ev g l d M kc ks pc L (.int y :: .int x :: st) κ S P := fun p e R s m args below meth c H locs ls Q C F X hl hq => lv_imul C.1 C.2.1 hd (k p e R s m args below meth c H locs ls Q C F X hl hq)
theorem ev_iand {x y : Int32} (hd : decode M.2.1 pc = .ok (.iand, 1)) (k : it_Ev g l d M kc ks (pc + 1) L (.int (x &&& y) :: st) κ S P) : it_Ev g l d M kc ks pc L (.int y :: .int x :: st) κ S P := fun p e R s m args below meth c H locs ls Q C F X hl hq => lv_iand C.1 C.2.1 hd (k p e R s m args below meth c H locs ls Q C F X hl hq)
theorem ev_ior {x y : Int32} (hd : decode M.2.1 pc = .ok (.ior, 1)) (k : it_Ev g l d M kc ks (pc + 1) L (.int (x ||| y) :: st) κ S P) : it_Ev g l d M kc ks pc L (.int y :: .int x :: st) κ S P := fun p e R s m args below meth c H locs ls Q C F X hl hq => lv_ior C.1 C.2.1 hd (k p e R s m args below meth c H locs ls Q C F X hl hq)
theorem ev_ixor {x y : Int32} (hd : decode M.2.1 pc = .ok (.ixor, 1)) (k : it_Ev g l d M kc ks (pc + 1) L (.int (x ^^^ y) :: st) κ S P) : it_Ev g l d M kc ks pc L (.int y :: .int x :: st) κ S P := fun p e R s m args below meth c H locs ls Q C F X hl hq => lv_ixor C.1 C.2.1 hd (k p e R s m args below meth c H locs ls Q C F X hl hq)
theorem ev_ishl {x y : Int32} (hd : decode M.2.1 pc = .ok (.ishl, 1)) (k : it_Ev g l d M kc ks (pc + 1) L (.int (x <<< (y &&& 31)) :: st) κ S P) : it_Ev g l d M kc ks pc L (.int y :: .int x :: st) κ S P := fun p e R s m args below meth c H locs ls Q C F X hl hq => lv_ishl C.1 C.2.1 hd (k p e R s m args below meth c H locs ls Q C F X hl hq)
theorem ev_ishr {x y : Int32} (hd : decode M.2.1 pc = .ok (.ishr, 1)) (k : it_Ev g l d M kc ks (pc + 1) L (.int (x >>> (y &&& 31)) :: st) κ S P) : it_Ev g l d M kc ks pc L (.int y :: .int x :: st) κ S P := fun p e R s m args below meth c H locs ls Q C F X hl hq => lv_ishr C.1 C.2.1 hd (k p e R s m args below meth c H locs ls Q C F X hl hq)
theorem ev_iushr {x y : Int32} (hd : decode M.2.1 pc = .ok (.iushr, 1)) (k : it_Ev g l d M kc ks (pc + 1) L (.int ((x.toUInt32 >>> (y.toUInt32 &&& Int32.toUInt32 31)).toInt32) :: st) κ S P) : it_Ev g l d M kc ks pc L (.int y :: .int x :: st) κ S P := fun p e R s m args below meth c H locs ls Q C F X hl hq => lv_iushr C.1 C.2.1 hd rfl (k p e R s m args below meth c H locs ls Q C F X hl hq)
theorem ev_idiv {x y : Int32} (hd : decode M.2.1 pc = .ok (.idiv, 1)) (hne : ¬ y = 0) (k : it_Ev g l d M kc ks (pc + 1) L (.int (x / y) :: st) κ S P) : it_Ev g l d M kc ks pc L (.int y :: .int x :: st) κ S P := fun p e R s m args below meth c H locs ls Q C F X hl hq => lv_idiv C.1 C.2.1 hd hne (k p e R s m args below meth c H locs ls Q C F X hl hq)
theorem ev_irem {x y : Int32} (hd : decode M.2.1 pc = .ok (.irem, 1)) (hne : ¬ y = 0) (k : it_Ev g l d M kc ks (pc + 1) L (.int (x - x / y * y) :: st) κ S P) : it_Ev g l d M kc ks pc L (.int y :: .int x :: st) κ S P := fun p e R s m args below meth c H locs ls Q C F X hl hq => lv_irem C.1 C.2.1 hd hne (k p e R s m args below meth c H locs ls Q C F X hl hq)
theorem ev_ladd {x y : Int64} (hd : decode M.2.1 pc = .ok (.ladd, 1)) (k : it_Ev g l d M kc ks (pc + 1) L (.long (x + y) :: st) κ S P) : it_Ev g l d M kc ks pc L (.long y :: .long x :: st) κ S P := fun p e R s m args below meth c H locs ls Q C F X hl hq => lv_ladd C.1 C.2.1 hd (k p e R s m args below meth c H locs ls Q C F X hl hq)
theorem ev_lsub {x y : Int64} (hd : decode M.2.1 pc = .ok (.lsub, 1)) (k : it_Ev g l d M kc ks (pc + 1) L (.long (x - y) :: st) κ S P) : it_Ev g l d M kc ks pc L (.long y :: .long x :: st) κ S P := fun p e R s m args below meth c H locs ls Q C F X hl hq => lv_lsub C.1 C.2.1 hd (k p e R s m args below meth c H locs ls Q C F X hl hq)
theorem ev_lmul {x y : Int64} (hd : decode M.2.1 pc = .ok (.lmul, 1)) (k : it_Ev g l d M kc ks (pc + 1) L (.long (x * y) :: st) κ S P) : it_Ev g l d M kc ks pc L (.long y :: .long x :: st) κ S P := fun p e R s m args below meth c H locs ls Q C F X hl hq => lv_lmul C.1 C.2.1 hd (k p e R s m args below meth c H locs ls Q C F X hl hq)
theorem ev_ldiv {x y : Int64} (hd : decode M.2.1 pc = .ok (.ldiv, 1)) (hne : ¬ y = 0) (k : it_Ev g l d M kc ks (pc + 1) L (.long (x / y) :: st) κ S P) : it_Ev g l d M kc ks pc L (.long y :: .long x :: st) κ S P := fun p e R s m args below meth c H locs ls Q C F X hl hq => lv_ldiv C.1 C.2.1 hd hne (k p e R s m args below meth c H locs ls Q C F X hl hq)
theorem ev_lrem {x y : Int64} (hd : decode M.2.1 pc = .ok (.lrem, 1)) (hne : ¬ y = 0) (k : it_Ev g l d M kc ks (pc + 1) L (.long (x - x / y * y) :: st) κ S P) : it_Ev g l d M kc ks pc L (.long y :: .long x :: st) κ S P := fun p e R s m args below meth c H locs ls Q C F X hl hq => lv_lrem C.1 C.2.1 hd hne (k p e R s m args below meth c H locs ls Q C F X hl hq)
theorem ev_lcmp {x y : Int64} (hd : decode M.2.1 pc = .ok (.lcmp, 1)) (k : it_Ev g l d M kc ks (pc + 1) L (.int (lg_cmp x y) :: st) κ S P) : it_Ev g l d M kc ks pc L (.long y :: .long x :: st) κ S P := fun p e R s m args below meth c H locs ls Q C F X hl hq => W.lcmp C.1 C.2.1 hd (k p e R s m args below meth c H locs ls Q C F X hl hq)
theorem ev_ineg {x : Int32} (hd : decode M.2.1 pc = .ok (.ineg, 1)) (k : it_Ev g l d M kc ks (pc + 1) L (.int (-x) :: st) κ S P) : it_Ev g l d M kc ks pc L (.int x :: st) κ S P := fun p e R s m args below meth c H locs ls Q C F X hl hq => lv_ineg C.1 C.2.1 hd (k p e R s m args below meth c H locs ls Q C F X hl hq)
theorem ev_lneg {x : Int64} (hd : decode M.2.1 pc = .ok (.lneg, 1)) (k : it_Ev g l d M kc ks (pc + 1) L (.long (-x) :: st) κ S P) : it_Ev g l d M kc ks pc L (.long x :: st) κ S P := fun p e R s m args below meth c H locs ls Q C F X hl hq => lv_lneg C.1 C.2.1 hd (k p e R s m args below meth c H locs ls Q C F X hl hq)
theorem ev_i2b {x : Int32} (hd : decode M.2.1 pc = .ok (.i2b, 1)) (k : it_Ev g l d M kc ks (pc + 1) L (.int (x.toInt8.toInt32) :: st) κ S P) : it_Ev g l d M kc ks pc L (.int x :: st) κ S P := fun p e R s m args below meth c H locs ls Q C F X hl hq => lv_i2b C.1 C.2.1 hd rfl (k p e R s m args below meth c H locs ls Q C F X hl hq)
theorem ev_i2s {x : Int32} (hd : decode M.2.1 pc = .ok (.i2s, 1)) (k : it_Ev g l d M kc ks (pc + 1) L (.int (x.toInt16.toInt32) :: st) κ S P) : it_Ev g l d M kc ks pc L (.int x :: st) κ S P := fun p e R s m args below meth c H locs ls Q C F X hl hq => lv_i2s C.1 C.2.1 hd rfl (k p e R s m args below meth c H locs ls Q C F X hl hq)
theorem ev_i2c {x : Int32} (hd : decode M.2.1 pc = .ok (.i2c, 1)) (k : it_Ev g l d M kc ks (pc + 1) L (.int ((x.toUInt32 % 65536).toInt32) :: st) κ S P) : it_Ev g l d M kc ks pc L (.int x :: st) κ S P := fun p e R s m args below meth c H locs ls Q C F X hl hq => lv_i2c C.1 C.2.1 hd rfl (k p e R s m args below meth c H locs ls Q C F X hl hq)
theorem ev_i2l {x : Int32} (hd : decode M.2.1 pc = .ok (.i2l, 1)) (k : it_Ev g l d M kc ks (pc + 1) L (.long x.toInt64 :: st) κ S P) : it_Ev g l d M kc ks pc L (.int x :: st) κ S P := fun p e R s m args below meth c H locs ls Q C F X hl hq => lv_i2l C.1 C.2.1 hd rfl (k p e R s m args below meth c H locs ls Q C F X hl hq)
theorem ev_l2i {x : Int64} (hd : decode M.2.1 pc = .ok (.l2i, 1)) (k : it_Ev g l d M kc ks (pc + 1) L (.int x.toInt32 :: st) κ S P) : it_Ev g l d M kc ks pc L (.long x :: st) κ S P := fun p e R s m args below meth c H locs ls Q C F X hl hq => lv_l2i C.1 C.2.1 hd rfl (k p e R s m args below meth c H locs ls Q C F X hl hq)
theorem ev_dup {v : Value} (hd : decode M.2.1 pc = .ok (.dup, 1)) (hv : v.category = 1) (k : it_Ev g l d M kc ks (pc + 1) L (v :: v :: st) κ S P) : it_Ev g l d M kc ks pc L (v :: st) κ S P := fun p e R s m args below meth c H locs ls Q C F X hl hq => lv_dup C.1 C.2.1 hd ((it_tr_cat g v).trans hv) (k p e R s m args below meth c H locs ls Q C F X hl hq)
theorem ev_pop {v : Value} (hd : decode M.2.1 pc = .ok (.pop, 1)) (hv : v.category = 1) (k : it_Ev g l d M kc ks (pc + 1) L st κ S P) : it_Ev g l d M kc ks pc L (v :: st) κ S P := fun p e R s m args below meth c H locs ls Q C F X hl hq => lv_pop C.1 C.2.1 hd ((it_tr_cat g v).trans hv) (k p e R s m args below meth c H locs ls Q C F X hl hq)
theorem ev_if_eq {x : Int32} {off : Int} {tgt : Nat} (hd : decode M.2.1 pc = .ok (.ifCond .eq off, 3)) (ht : (pc : Int) + off = (tgt : Int)) (kt : x = 0 → it_Ev g l d M kc ks tgt L st κ S P) (kf : ¬ x = 0 → it_Ev g l d M kc ks (pc + 3) L st κ S P) : it_Ev g l d M kc ks pc L (.int x :: st) κ S P := fun p e R s m args below meth c H locs ls Q C F X hl hq => lv_if_eq C.1 C.2.1 hd ht (fun h => kt h p e R s m args below meth c H locs ls Q C F X hl hq) (fun h => kf h p e R s m args below meth c H locs ls Q C F X hl hq)
theorem ev_icmp_eq {x y : Int32} {off : Int} {tgt : Nat} (hd : decode M.2.1 pc = .ok (.if_icmp .eq off, 3)) (ht : (pc : Int) + off = (tgt : Int)) (kt : x = y → it_Ev g l d M kc ks tgt L st κ S P) (kf : ¬ x = y → it_Ev g l d M kc ks (pc + 3) L st κ S P) : it_Ev g l d M kc ks pc L (.int y :: .int x :: st) κ S P := fun p e R s m args below meth c H locs ls Q C F X hl hq => lv_icmp_eq C.1 C.2.1 hd ht (fun h => kt h p e R s m args below meth c H locs ls Q C F X hl hq) (fun h => kf h p e R s m args below meth c H locs ls Q C F X hl hq)
theorem ev_if_ne {x : Int32} {off : Int} {tgt : Nat} (hd : decode M.2.1 pc = .ok (.ifCond .ne off, 3)) (ht : (pc : Int) + off = (tgt : Int)) (kt : ¬ x = 0 → it_Ev g l d M kc ks tgt L st κ S P) (kf : x = 0 → it_Ev g l d M kc ks (pc + 3) L st κ S P) : it_Ev g l d M kc ks pc L (.int x :: st) κ S P := fun p e R s m args below meth c H locs ls Q C F X hl hq => lv_if_ne C.1 C.2.1 hd ht (fun h => kt h p e R s m args below meth c H locs ls Q C F X hl hq) (fun h => kf h p e R s m args below meth c H locs ls Q C F X hl hq)
theorem ev_icmp_ne {x y : Int32} {off : Int} {tgt : Nat} (hd : decode M.2.1 pc = .ok (.if_icmp .ne off, 3)) (ht : (pc : Int) + off = (tgt : Int)) (kt : ¬ x = y → it_Ev g l d M kc ks tgt L st κ S P) (kf : x = y → it_Ev g l d M kc ks (pc + 3) L st κ S P) : it_Ev g l d M kc ks pc L (.int y :: .int x :: st) κ S P := fun p e R s m args below meth c H locs ls Q C F X hl hq => lv_icmp_ne C.1 C.2.1 hd ht (fun h => kt h p e R s m args below meth c H locs ls Q C F X hl hq) (fun h => kf h p e R s m args below meth c H locs ls Q C F X hl hq)
theorem ev_if_lt {x : Int32} {off : Int} {tgt : Nat} (hd : decode M.2.1 pc = .ok (.ifCond .lt off, 3)) (ht : (pc : Int) + off = (tgt : Int)) (kt : x < 0 → it_Ev g l d M kc ks tgt L st κ S P) (kf : ¬ x < 0 → it_Ev g l d M kc ks (pc + 3) L st κ S P) : it_Ev g l d M kc ks pc L (.int x :: st) κ S P := fun p e R s m args below meth c H locs ls Q C F X hl hq => lv_if_lt C.1 C.2.1 hd ht (fun h => kt h p e R s m args below meth c H locs ls Q C F X hl hq) (fun h => kf h p e R s m args below meth c H locs ls Q C F X hl hq)
theorem ev_icmp_lt {x y : Int32} {off : Int} {tgt : Nat} (hd : decode M.2.1 pc = .ok (.if_icmp .lt off, 3)) (ht : (pc : Int) + off = (tgt : Int)) (kt : x < y → it_Ev g l d M kc ks tgt L st κ S P) (kf : ¬ x < y → it_Ev g l d M kc ks (pc + 3) L st κ S P) : it_Ev g l d M kc ks pc L (.int y :: .int x :: st) κ S P := fun p e R s m args below meth c H locs ls Q C F X hl hq => lv_icmp_lt C.1 C.2.1 hd ht (fun h => kt h p e R s m args below meth c H locs ls Q C F X hl hq) (fun h => kf h p e R s m args below meth c H locs ls Q C F X hl hq)
theorem ev_if_ge {x : Int32} {off : Int} {tgt : Nat} (hd : decode M.2.1 pc = .ok (.ifCond .ge off, 3)) (ht : (pc : Int) + off = (tgt : Int)) (kt : 0 ≤ x → it_Ev g l d M kc ks tgt L st κ S P) (kf : ¬ 0 ≤ x → it_Ev g l d M kc ks (pc + 3) L st κ S P) : it_Ev g l d M kc ks pc L (.int x :: st) κ S P := fun p e R s m args below meth c H locs ls Q C F X hl hq => lv_if_ge C.1 C.2.1 hd ht (fun h => kt h p e R s m args below meth c H locs ls Q C F X hl hq) (fun h => kf h p e R s m args below meth c H locs ls Q C F X hl hq)
theorem ev_icmp_ge {x y : Int32} {off : Int} {tgt : Nat} (hd : decode M.2.1 pc = .ok (.if_icmp .ge off, 3)) (ht : (pc : Int) + off = (tgt : Int)) (kt : y ≤ x → it_Ev g l d M kc ks tgt L st κ S P) (kf : ¬ y ≤ x → it_Ev g l d M kc ks (pc + 3) L st κ S P) : it_Ev g l d M kc ks pc L (.int y :: .int x :: st) κ S P := fun p e R s m args below meth c H locs ls Q C F X hl hq => lv_icmp_ge C.1 C.2.1 hd ht (fun h => kt h p e R s m args below meth c H locs ls Q C F X hl hq) (fun h => kf h p e R s m args below meth c H locs ls Q C F X hl hq)
theorem ev_if_gt {x : Int32} {off : Int} {tgt : Nat} (hd : decode M.2.1 pc = .ok (.ifCond .gt off, 3)) (ht : (pc : Int) + off = (tgt : Int)) (kt : 0 < x → it_Ev g l d M kc ks tgt L st κ S P) (kf : ¬ 0 < x → it_Ev g l d M kc ks (pc + 3) L st κ S P) : it_Ev g l d M kc ks pc L (.int x :: st) κ S P := fun p e R s m args below meth c H locs ls Q C F X hl hq => lv_if_gt C.1 C.2.1 hd ht (fun h => kt h p e R s m args below meth c H locs ls Q C F X hl hq) (fun h => kf h p e R s m args below meth c H locs ls Q C F X hl hq)
theorem ev_icmp_gt {x y : Int32} {off : Int} {tgt : Nat} (hd : decode M.2.1 pc = .ok (.if_icmp .gt off, 3)) (ht : (pc : Int) + off = (tgt : Int)) (kt : y < x → it_Ev g l d M kc ks tgt L st κ S P) (kf : ¬ y < x → it_Ev g l d M kc ks (pc + 3) L st κ S P) : it_Ev g l d M kc ks pc L (.int y :: .int x :: st) κ S P := fun p e R s m args below meth c H locs ls Q C F X hl hq => lv_icmp_gt C.1 C.2.1 hd ht (fun h => kt h p e R s m args below meth c H locs ls Q C F X hl hq) (fun h => kf h p e R s m args below meth c H locs ls Q C F X hl hq)
theorem ev_if_le {x : Int32} {off : Int} {tgt : Nat} (hd : decode M.2.1 pc = .ok (.ifCond .le off, 3)) (ht : (pc : Int) + off = (tgt : Int)) (kt : x ≤ 0 → it_Ev g l d M kc ks tgt L st κ S P) (kf : ¬ x ≤ 0 → it_Ev g l d M kc ks (pc + 3) L st κ S P) : it_Ev g l d M kc ks pc L (.int x :: st) κ S P := fun p e R s m args below meth c H locs ls Q C F X hl hq => lv_if_le C.1 C.2.1 hd ht (fun h => kt h p e R s m args below meth c H locs ls Q C F X hl hq) (fun h => kf h p e R s m args below meth c H locs ls Q C F X hl hq)
theorem ev_icmp_le {x y : Int32} {off : Int} {tgt : Nat} (hd : decode M.2.1 pc = .ok (.if_icmp .le off, 3)) (ht : (pc : Int) + off = (tgt : Int)) (kt : x ≤ y → it_Ev g l d M kc ks tgt L st κ S P) (kf : ¬ x ≤ y → it_Ev g l d M kc ks (pc + 3) L st κ S P) : it_Ev g l d M kc ks pc L (.int y :: .int x :: st) κ S P := fun p e R s m args below meth c H locs ls Q C F X hl hq => lv_icmp_le C.1 C.2.1 hd ht (fun h => kt h p e R s m args below meth c H locs ls Q C F X hl hq) (fun h => kf h p e R s m args below meth c H locs ls Q C F X hl hq)
theorem ev_goto {off : Int} {tgt : Nat} (hd : decode M.2.1 pc = .ok (.goto off, 3)) (ht : (pc : Int) + off = (tgt : Int)) (k : it_Ev g l d M kc ks tgt L st κ S P) : it_Ev g l d M kc ks pc L st κ S P := fun p e R s m args below meth c H locs ls Q C F X hl hq => lv_goto C.1 C.2.1 hd ht (k p e R s m args below meth c H locs ls Q C F X hl hq)
theorem ev_ifnonnull {off : Int} {tgt x : Nat} (hd : decode M.2.1 pc = .ok (.ifnonnull off, 3)) (ht : (pc : Int) + off = (tgt : Int)) (k : it_Ev g l d M kc ks tgt L st κ S P) : it_Ev g l d M kc ks pc L (.ref x :: st) κ S P := fun p e R s m args below meth c H locs ls Q C F X hl hq => lv_ifnonnull C.1 C.2.1 hd ht (k p e R s m args below meth c H locs ls Q C F X hl hq)
theorem ev_tableIn {dflt lo hi : Int} {offs : Array Int} {len : Nat} {x : Int32} {off : Int} {tgt : Nat} (hd : decode M.2.1 pc = .ok (.tableswitch dflt lo hi offs, len)) (h1 : ¬ x.toInt < lo) (h2 : ¬ hi < x.toInt) (ho : offs[(x.toInt - lo).toNat]? = some off) (ht : (pc : Int) + off = (tgt : Int)) (k : it_Ev g l d M kc ks tgt L st κ S P) : it_Ev g l d M kc ks pc L (.int x :: st) κ S P := fun p e R s m args below meth c H locs ls Q C F X hl hq => lv_tableIn C.1 C.2.1 hd h1 h2 ho ht (k p e R s m args below meth c H locs ls Q C F X hl hq)
theorem ev_tableOut {dflt lo hi : Int} {offs : Array Int} {len : Nat} {x : Int32} {tgt : Nat} (hd : decode M.2.1 pc = .ok (.tableswitch dflt lo hi offs, len)) (h : x.toInt < lo ∨ hi < x.toInt) (ht : (pc : Int) + dflt = (tgt : Int)) (k : it_Ev g l d M kc ks tgt L st κ S P) : it_Ev g l d M kc ks pc L (.int x :: st) κ S P := fun p e R s m args below meth c H locs ls Q C F X hl hq => lv_tableOut C.1 C.2.1 hd h ht (k p e R s m args below meth c H locs ls Q C F X hl hq)
theorem ev_lookup {dflt : Int} {ps : Array (Int × Int)} {len : Nat} {x : Int32} {off : Int} {tgt : Nat} (hd : decode M.2.1 pc = .ok (.lookupswitch dflt ps, len)) (hp : (ps.toList.zip (ps.toList.drop 1)).all (fun (a, next) => a.1 < next.1) = true) (ho : Op.lookupswitch.offset ps.toList dflt x.toInt = off) (ht : (pc : Int) + off = (tgt : Int)) (k : it_Ev g l d M kc ks tgt L st κ S P) : it_Ev g l d M kc ks pc L (.int x :: st) κ S P := fun p e R s m args below meth c H locs ls Q C F X hl hq => lv_lookup C.1 C.2.1 hd hp ho ht (k p e R s m args below meth c H locs ls Q C F X hl hq)
theorem ev_ret {v : Option Value} {L1 : it_L} (hr : it_ret M pc v) (hc : kc ≤ M.2.2.2.2.1) (hs : ks ≤ M.2.2.2.2.2) (h : P v κ S) : it_Ev g l d M kc ks pc L1 v.toList κ S P := fun p e R s m args below meth c H locs ls Q C F X hl hq => W.widen hc hs (hq v κ S H locs pc ls h F hr)
theorem ev_mono {P1 : Option Value → it_KK → it_SS → Prop} (h : it_Ev g l d M kc ks pc L st κ S P1) (hP : ∀ v κ' S', P1 v κ' S' → P v κ' S') : it_Ev g l d M kc ks pc L st κ S P := fun p e R s m args below meth c H locs ls Q C F X hl hq => h p e R s m args below meth c H locs ls Q C F X hl (fun v κ' S' H' locs' pc' ls' h1 => hq v κ' S' H' locs' pc' ls' (hP v κ' S' h1))
theorem ev_forget {L1 : it_L} (hL : ∀ (i : Nat) (v : Value), L1[i]? = some (some v) → L[i]? = some (some v)) (h : it_Ev g l d M kc ks pc L1 st κ S P) : it_Ev g l d M kc ks pc L st κ S P := fun p e R s m args below meth c H locs ls Q C F X hl hq => h p e R s m args below meth c H locs ls Q C F X ⟨hl.1, hl.2.1, fun q hq => by
  obtain ⟨v, hv, h2⟩ := it_lv_mem.mp hq
  exact hl.2.2 q (it_lv_mem.mpr ⟨v, hL _ _ hv, h2⟩)⟩ hq
def it_sub : it_L → it_L → Bool
  | [], _ => true
  | none :: r, [] => it_sub r []
  | some _ :: _, [] => false
  | none :: r, _ :: q => it_sub r q
  | some a :: r, some b :: q => decide (a = b) && it_sub r q
  | some _ :: _, none :: _ => false
theorem ev_depth {d1 : Nat} (hd : d1 ≤ d) (h : it_Ev g l d1 M kc ks pc L st κ S P) : it_Ev g l d M kc ks pc L st κ S P := fun p e R s m args below meth c H locs ls Q C F X hl hq => h p e R s m args below meth c H locs ls Q ⟨C.1, C.2.1, C.2.2.1, C.2.2.2.1, C.2.2.2.2.1, C.2.2.2.2.2.1, Nat.le_trans hd C.2.2.2.2.2.2.1, Nat.le_trans (Nat.mul_le_mul_left 60 hd) C.2.2.2.2.2.2.2.1, C.2.2.2.2.2.2.2.2⟩ F X hl hq
/-- field k of class ci, by entry i of a class's own table -/
def it_fl (own : String) (i ci k : Nat) : Prop := ∃ (C : String) (T : u_T) (N : Nat), it_cl[ci]? = some (C, T, N) ∧ k < N ∧ (∀ w ∈ u_ws C T N, w ∈ it_tb) ∧ Cond.fieldLink own i C (T k).2.1 (T k).2.2.1 ∈ it_tb ∧ (T k).1 = C
/-- it may be written, and holds what is of a type -/
def it_fw (ci k : Nat) (fin : Bool) (ty : FieldType) : Prop := ∃ (C : String) (T : u_T) (N : Nat) (t : Nat → FieldType), it_cl[ci]? = some (C, T, N) ∧ (∀ k, k < N → parseFieldDescriptor (T k).2.2.1 = some (t k)) ∧ (∀ a, a < N → ∀ b, b < N → a ≠ b → (T a).2.1 ≠ (T b).2.1) ∧ (T k).2.2.2 = fin ∧ t k = ty ∧ (it_mask ci).length = N
theorem it_fr.D {s : State} {H : Heap} {locs : List Loc} (F : it_fr g κ S s H locs) : ∀ q, s.heap.size ≤ q → it_A g q := fun q h => Nat.le_trans F.2.1 h
theorem ev_get {a ci k i n : Nat} {r : Bool} {v : Value} (hd : decode M.2.1 pc = .ok (.getfield i, 3)) (hf : it_fl M.1.cls i ci k) (ha : a < κ.1) (hk : κ.2.1 a = (ci + 3, n)) (hm : (it_mask ci)[k]? = some r) (hv : it_fld g κ S ci a k r = it_tr g v) (kk : it_Ev g l d M kc ks (pc + 3) L (v :: st) κ S P) : it_Ev g l d M kc ks pc L (.ref a :: st) κ S P := by
  intro p e R s m args below meth c H locs ls Q C F X hl hq
  obtain ⟨cn, T, N, h1, h2, h3, h4, h5⟩ := hf
  refine va_get C.1 C.2.1 (C.2.2.2.2.1) h3 C.2.2.2.1 F.2.2.2.1 F.2.2.1 a (by rw [it_ws_get ha, it_ce_ob hk]) h1 k h2 (C.2.2.2.2.1 _ h4) (fun x hx => by rw [h5] at hx; exact hx) (v := it_tr g v) (by rw [it_fs_get hm, hv]) hd (kk p e R s m args below meth c H locs ls Q C F X hl hq)
theorem ev_getI {a ci k i : Nat} (hd : decode M.2.1 pc = .ok (.getfield i, 3)) (hf : it_fl M.1.cls i ci k) (ho : it_ob κ a ci) (hm : (it_mask ci)[k]? = some false) (kk : it_Ev g l d M kc ks (pc + 3) L (.int (S a k) :: st) κ S P) : it_Ev g l d M kc ks pc L (.ref a :: st) κ S P :=
  ev_get hd hf ho.1 ho.2.1 hm (v := .int (S a k)) rfl kk
theorem ev_getR {a ci k i : Nat} (hd : decode M.2.1 pc = .ok (.getfield i, 3)) (hf : it_fl M.1.cls i ci k) (ho : it_ob κ a ci) (hm : (it_mask ci)[k]? = some true) (kk : it_Ev g l d M kc ks (pc + 3) L (.ref (it_lay ci k a) :: st) κ S P) : it_Ev g l d M kc ks pc L (.ref a :: st) κ S P :=
  ev_get hd hf ho.1 ho.2.1 hm (v := .ref (it_lay ci k a)) (by simp [it_fld, ho.2.2, it_tr]) kk
theorem it_fr.put {s : State} {H H1 : Heap} {locs locs1 : List Loc} {κ1 : it_KK} {S1 : it_SS} (F : it_fr g κ S s H locs) (hc : κ1.1 = κ.1) (X : it_ex g κ kc s) (hM : kc < 1000) (hz : H1.size ≤ s.heap.size + kc) (hP : va_P g.2.1 it_cl (it_ws g κ1 S1) H1) (hS : va_S (it_A g) H H1 locs1) : it_fr g κ1 S1 s H1 locs1 := ⟨by
  have h1 := X hM
  have h2 := F.1
  have h3 := hS.1
  rw [hc]
  omega, F.2.1, hP, F.2.2.2.1, F.2.2.2.2.1, it_S_trans F.2.2.2.2.2 hS⟩
theorem ev_put {a ci k i n : Nat} {x : Int32} {ty : FieldType} (hd : decode M.2.1 pc = .ok (.putfield i, 3)) (hM : kc < 1000) (hf : it_fl M.1.cls i ci k) (hw : it_fw ci k false ty) (ha : a < κ.1) (hk : κ.2.1 a = (ci + 3, n)) (hm : (it_mask ci)[k]? = some false) (hn : narrow ty (.int x) = .int x) (hfi : fits ty (.int x) = true) (kk : it_Ev g l d M kc ks (pc + 3) L st κ (it_up S a k x) P) : it_Ev g l d M kc ks pc L (.int x :: .ref a :: st) κ S P := by
  intro p e R s m args below meth c H locs ls Q C F X hl hq
  obtain ⟨cn, T, N, h1, h2, h3, h4, h5⟩ := hf
  obtain ⟨cn', T', N', t, g1, g2, g3, g4, g5, g6⟩ := hw
  rw [h1] at g1
  cases g1
  refine va_put C.1 C.2.1 (C.2.2.2.2.1) h3 t g2 g3 C.2.2.2.1 F.2.2.2.1 F.2.2.1 (it_ws_D g κ S) (it_S_here F.2.2.2.2.2) a (by rw [it_ws_get ha, it_ce_ob hk]) h1 k h2 (C.2.2.2.2.1 _ h4) (fun y hy => by rw [h5] at hy; exact hy) g4 (ty := ty) (v := .int x) (by rw [g2 k h2, g5]) hn hfi (by rw [it_fs_len, g6]; exact h2) hd (fun H1 locs1 hP1 hD1 hS1 => it_W_sz fun hz => ?_)
  have hws : (it_ws g κ S).set a (g.1 + a, .inr (ci, (it_fs g κ S ci a).set k (.int x))) = it_ws g κ (it_up S a k x) := by
    rw [it_fs_up hm, ← it_ce_ob (g := g) (S := it_up S a k x) hk]
    exact it_ws_set rfl (fun b hb => it_ce_ne hb)
  rw [hws] at hP1
  exact kk p e R s m args below meth c H1 locs1 ls Q C (F.put rfl X hM hz hP1 hS1) X hl hq
theorem ev_putI {a ci k i : Nat} {x : Int32} (hd : decode M.2.1 pc = .ok (.putfield i, 3)) (hM : kc < 1000) (hf : it_fl M.1.cls i ci k) (hw : it_fw ci k false .int) (ho : it_ob κ a ci) (hm : (it_mask ci)[k]? = some false) (kk : it_Ev g l d M kc ks (pc + 3) L st κ (it_up S a k x) P) : it_Ev g l d M kc ks pc L (.int x :: .ref a :: st) κ S P :=
  ev_put hd hM hf hw ho.1 ho.2.1 hm rfl rfl kk
/-- one reference is there now -/
def it_on (κ : it_KK) (a k : Nat) : it_KK := (κ.1, κ.2.1, fun b j => if b = a ∧ j = k then true else κ.2.2 b j)
theorem it_ce_on {a b k : Nat} (h : b ≠ a) : it_ce g (it_on κ a k) S b = it_ce g κ S b := by
  have h1 : ∀ t, it_rf g (it_on κ a k) t b = it_rf g κ t b := fun t => by
    funext j
    simp [it_rf, it_on, h]
  have h2 : ∀ ci, it_fs g (it_on κ a k) S ci b = it_fs g κ S ci b := fun ci => by
    simp [it_fs, it_fld, it_on, h]
  simp only [it_ce, h1, h2]
  rfl
theorem it_fs_on {ci a k : Nat} (h : (it_mask ci)[k]? = some true) : (it_fs g κ S ci a).set k (.ref (g.1 + it_lay ci k a)) = it_fs g (it_on κ a k) S ci a := by
  apply List.ext_getElem?
  intro i
  rw [List.getElem?_set]
  have hl : k < (it_mask ci).length := (List.getElem?_eq_some_iff.mp h).1
  by_cases hi : k = i
  · subst hi
    rw [if_pos rfl, if_pos (by rw [it_fs_len]; exact hl), it_fs_get h]
    simp [it_fld, it_on]
  · rw [if_neg hi]
    simp only [it_fs, List.getElem?_mapIdx]
    cases hm : (it_mask ci)[i]? with
    | none => rfl
    | some r => simp [it_fld, it_on, Ne.symm hi]
theorem ev_putR {a ci k i n r : Nat} {ty : FieldType} (hd : decode M.2.1 pc = .ok (.putfield i, 3)) (hM : kc < 1000) (hin : M.1.name = "<init>") (hf : it_fl M.1.cls i ci k) (hcl : ∃ q, it_cl[ci]? = some q ∧ q.1 = M.1.cls) (hw : it_fw ci k true ty) (ha : a < κ.1) (hk : κ.2.1 a = (ci + 3, n)) (hm : (it_mask ci)[k]? = some true) (hr : r = it_lay ci k a) (hn : narrow ty (.ref (g.1 + r)) = .ref (g.1 + r)) (hfi : fits ty (.ref (g.1 + r)) = true) (kk : it_Ev g l d M kc ks (pc + 3) L st (it_on κ a k) S P) : it_Ev g l d M kc ks pc L (.ref r :: .ref a :: st) κ S P := by
  intro p e R s m args below meth c H locs ls Q C F X hl hq
  subst hr
  obtain ⟨cn, T, N, h1, h2, h3, h4, h5⟩ := hf
  obtain ⟨cn', T', N', t, g1, g2, g3, g4, g5, g6⟩ := hw
  obtain ⟨q, q1, q2⟩ := hcl
  rw [h1] at g1 q1
  cases g1
  cases q1
  refine va_putF C.1 C.2.1 (C.2.2.2.2.1) h3 t g2 g3 C.2.2.2.1 F.2.2.2.1 F.2.2.1 (it_ws_D g κ S) (it_S_here F.2.2.2.2.2) a (by rw [it_ws_get ha, it_ce_ob hk]) h1 k h2 (C.2.2.2.2.1 _ h4) (fun y hy => by rw [h5] at hy; exact hy) g4 (C.2.2.2.2.2.1.trans hin) (h5.trans q2) (ty := ty) (v := .ref (g.1 + it_lay ci k a)) (by rw [g2 k h2, g5]) hn hfi (by rw [it_fs_len, g6]; exact h2) hd (fun H1 locs1 hP1 hD1 hS1 => it_W_sz fun hz => ?_)
  have hws : (it_ws g κ S).set a (g.1 + a, .inr (ci, (it_fs g κ S ci a).set k (.ref (g.1 + it_lay ci k a)))) = it_ws g (it_on κ a k) S := by
    rw [it_fs_on hm, ← it_ce_ob (g := g) (κ := it_on κ a k) (S := S) (a := a) (n := n) hk]
    exact it_ws_set rfl (fun b hb => it_ce_on hb)
  rw [hws] at hP1
  exact kk p e R s m args below meth c H1 locs1 ls Q C (F.put rfl X hM hz hP1 hS1) X hl hq
theorem ev_iald {a n : Nat} {i : Int32} (hd : decode M.2.1 pc = .ok (.iaload, 1)) (hA : it_ar κ a n) (hi : vp_in i n) (kk : it_Ev g l d M kc ks (pc + 1) L (.int (S a i.toNatClampNeg) :: st) κ S P) : it_Ev g l d M kc ks pc L (.int i :: .ref a :: st) κ S P := by
  intro p e R s m args below meth c H locs ls Q C F X hl hq
  exact va_iald C.1 C.2.1 F.2.2.2.1 F.2.2.1 a 0 (by rw [it_ws_get hA.1, it_ce_ar hA.2]) rfl hi hd (kk p e R s m args below meth c H locs ls Q C F X hl hq)
theorem ev_iast {a n : Nat} {i x : Int32} (hd : decode M.2.1 pc = .ok (.iastore, 1)) (hM : kc < 1000) (hA : it_ar κ a n) (hi : vp_in i n) (kk : it_Ev g l d M kc ks (pc + 1) L st κ (it_up S a i.toNatClampNeg x) P) : it_Ev g l d M kc ks pc L (.int x :: .int i :: .ref a :: st) κ S P := by
  intro p e R s m args below meth c H locs ls Q C F X hl hq
  refine va_iast C.1 C.2.1 F.2.2.2.1 F.2.2.1 (it_ws_D g κ S) (it_S_here F.2.2.2.2.2) a 0 (by rw [it_ws_get hA.1, it_ce_ar hA.2]) rfl hi hd (fun H1 locs1 hP1 hD1 hS1 => it_W_sz fun hz => ?_)
  have hws : (it_ws g κ S).set a (g.1 + a, .inl (g.2.2.1 0, n, .inl (upd (S a) i.toNatClampNeg x))) = it_ws g κ (it_up S a i.toNatClampNeg x) := by
    rw [← it_up_eq, ← it_ce_ar (g := g) (S := it_up S a i.toNatClampNeg x) hA.2]
    exact it_ws_set rfl (fun b hb => it_ce_ne hb)
  rw [hws] at hP1
  exact kk p e R s m args below meth c H1 locs1 ls Q C (F.put rfl X hM hz hP1 hS1) X hl hq
theorem ev_alen {a n : Nat} (hd : decode M.2.1 pc = .ok (.arraylength, 1)) (hA : it_ar κ a n) (kk : it_Ev g l d M kc ks (pc + 1) L (.int (Int32.ofNat n) :: st) κ S P) : it_Ev g l d M kc ks pc L (.ref a :: st) κ S P := by
  intro p e R s m args below meth c H locs ls Q C F X hl hq
  exact va_alen C.1 C.2.1 F.2.2.2.1 F.2.2.1 a 0 (x := (n, .inl (S a))) (by rw [it_ws_get hA.1, it_ce_ar hA.2]) rfl rfl hd (kk p e R s m args below meth c H locs ls Q C F X hl hq)
/-- an array of references, some of which are there -/
def it_rr (κ : it_KK) (a t n : Nat) : Prop := a < κ.1 ∧ κ.2.1 a = (t, n) ∧ (t = 1 ∨ t = 2)
theorem it_ce_rr {a t n : Nat} (h : it_rr κ a t n) : it_ce g κ S a = .inl (g.2.2.1 t, n, .inr (.inr (.inr (.inr (it_rf g κ t a))))) := by
  obtain ⟨-, h1, rfl | rfl⟩ := h <;> simp [it_ce, h1]
theorem ev_aald {a t n : Nat} {i : Int32} (hd : decode M.2.1 pc = .ok (.aaload, 1)) (hA : it_rr κ a t n) (hi : vp_in i n) (ho : κ.2.2 a i.toNatClampNeg = true) (kk : it_Ev g l d M kc ks (pc + 1) L (.ref (it_el t i.toNatClampNeg) :: st) κ S P) : it_Ev g l d M kc ks pc L (.int i :: .ref a :: st) κ S P := by
  intro p e R s m args below meth c H locs ls Q C F X hl hq
  have h1 := kk p e R s m args below meth c H locs ls Q C F X hl hq
  have h2 : va_rf (it_rf g κ t a i.toNatClampNeg) = it_tr g (.ref (it_el t i.toNatClampNeg)) := by simp [it_rf, ho, va_rf, it_tr]
  rw [List.map_cons, ← h2] at h1
  rcases hA.2.2 with h | h <;> subst h
  · exact va_aldq C.1 C.2.1 F.2.2.2.1 F.2.2.1 a 1 (by rw [it_ws_get hA.1, it_ce_rr hA]) rfl hi hd h1
  · exact va_aldq C.1 C.2.1 F.2.2.2.1 F.2.2.1 a 2 (by rw [it_ws_get hA.1, it_ce_rr hA]) rfl hi hd h1
def it_tcl (t : Nat) : Nat := if t = 1 then 4 else 2
theorem ev_aast {a t n r m0 : Nat} {i : Int32} (hd : decode M.2.1 pc = .ok (.aastore, 1)) (hM : kc < 1000) (hA : it_rr κ a t n) (hi : vp_in i n) (hr : r < κ.1) (hk : κ.2.1 r = (it_tcl t + 3, m0)) (he : r = it_el t i.toNatClampNeg) (kk : it_Ev g l d M kc ks (pc + 1) L st (it_on κ a i.toNatClampNeg) S P) : it_Ev g l d M kc ks pc L (.ref r :: .int i :: .ref a :: st) κ S P := by
  intro p e R s m args below meth c H locs ls Q C F X hl hq
  have key : ∀ (H1 : Heap) (locs1 : List Loc), va_P g.2.1 it_cl ((it_ws g κ S).set a (g.1 + a, .inl (g.2.2.1 t, n, .inr (.inr (.inr (.inr (va_up (it_rf g κ t a) i.toNatClampNeg (some (g.1 + r))))))))) H1 → va_D (it_A g) ((it_ws g κ S).set a (g.1 + a, .inl (g.2.2.1 t, n, .inr (.inr (.inr (.inr (va_up (it_rf g κ t a) i.toNatClampNeg (some (g.1 + r))))))))) → va_S (it_A g) H H1 locs1 → W p l e R s m args below meth c H1 locs1 kc ks Q (F0 m (pc + 1) ls (st.map (it_tr g))) := by
    intro H1 locs1 hP1 hD1 hS1
    refine it_W_sz fun hz => ?_
    have hA1 : it_rr (it_on κ a i.toNatClampNeg) a t n := hA
    have hws : (it_ws g κ S).set a (g.1 + a, .inl (g.2.2.1 t, n, .inr (.inr (.inr (.inr (va_up (it_rf g κ t a) i.toNatClampNeg (some (g.1 + r)))))))) = it_ws g (it_on κ a i.toNatClampNeg) S := by
      have h2 : va_up (it_rf g κ t a) i.toNatClampNeg (some (g.1 + r)) = it_rf g (it_on κ a i.toNatClampNeg) t a := by
        funext j
        by_cases hj : j = i.toNatClampNeg
        · subst hj
          simp [va_up, it_rf, it_on, he]
        · simp [va_up, it_rf, it_on, hj]
      rw [h2, ← it_ce_rr (g := g) (S := S) hA1]
      exact it_ws_set rfl (fun b hb => it_ce_on hb)
    rw [hws] at hP1
    exact kk p e R s m args below meth c H1 locs1 ls Q C (F.put rfl X hM hz hP1 hS1) X hl hq
  rcases hA.2.2 with h | h <;> subst h
  · exact va_astq C.1 C.2.1 F.2.2.2.1 F.2.2.1 (it_ws_D g κ S) (it_S_here F.2.2.2.2.2) a 1 r 4 (by rw [it_ws_get hA.1, it_ce_rr hA]) rfl (by rw [it_ws_get hr, it_ce_ob (ci := 4) hk]) rfl hi hd key
  · exact va_astq C.1 C.2.1 F.2.2.2.1 F.2.2.1 (it_ws_D g κ S) (it_S_here F.2.2.2.2.2) a 2 r 2 (by rw [it_ws_get hA.1, it_ce_rr hA]) rfl (by rw [it_ws_get hr, it_ce_ob (ci := 2) hk]) rfl hi hd key
theorem it_ce_congr {κ1 : it_KK} {S1 : it_SS} {b : Nat} (h1 : κ1.2.1 b = κ.2.1 b) (h2 : κ1.2.2 b = κ.2.2 b) (h3 : S1 b = S b) : it_ce g κ1 S1 b = it_ce g κ S b := by
  have h4 : ∀ t, it_rf g κ1 t b = it_rf g κ t b := fun t => by
    funext j
    simp [it_rf, h2]
  have h5 : ∀ ci, it_fs g κ1 S1 ci b = it_fs g κ S ci b := fun ci => by
    simp [it_fs, it_fld, h2, h3]
  simp only [it_ce, h1, h3, h4, h5]
def it_new (κ : it_KK) (t n : Nat) : it_KK := (κ.1 + 1, fun b => if b = κ.1 then (t, n) else κ.2.1 b, fun b j => if b = κ.1 then false else κ.2.2 b j)
def it_zero (S : it_SS) (a : Nat) : it_SS := fun b => if b = a then (fun _ => 0) else S b
def it_dupl (S : it_SS) (a b : Nat) : it_SS := fun q => if q = b then S a else S q
def it_cpy (S : it_SS) (a0 a1 sp dp n : Nat) : it_SS := fun q => if q = a1 then va_cpy (S a0) (S a1) sp dp n else S q
/-- the new cell lies where the next one lies -/
theorem it_fresh {q : Nat} {x : va_E} {H1 : Heap} {s : State} (X : it_ex g κ kc s) (hM : kc < 1000) (hz : H1.size ≤ s.heap.size + (kc + 1)) (hP : va_P g.2.1 it_cl (it_ws g κ S ++ [(q, x)]) H1) (hD : va_D (it_A g) (it_ws g κ S ++ [(q, x)])) : q = g.1 + κ.1 ∧ H1.size = g.1 + κ.1 + 1 := by
  have h1 := X hM
  have hlast : (it_ws g κ S ++ [(q, x)])[κ.1]? = some (q, x) := by
    rw [List.getElem?_append_right (by rw [it_ws_len]; exact Nat.le_refl _), it_ws_len]
    simp
  have h2 : q < H1.size := (hP _ _ hlast).lt
  have h3 : g.1 ≤ q := hD.2 _ _ hlast
  have h4 : ∀ i, i < κ.1 → q ≠ g.1 + i := by
    intro i hi he
    have := hD.1 i κ.1 (g.1 + i, it_ce g κ S i) (q, x) (by rw [List.getElem?_append_left (by rw [it_ws_len]; exact hi), it_ws_get hi]) hlast he.symm
    omega
  have h5 : ¬ q - g.1 < κ.1 := fun h => h4 (q - g.1) h (by omega)
  omega
theorem it_fr.push {κ1 : it_KK} {S1 : it_SS} {q : Nat} {x : va_E} {s : State} {H H1 : Heap} {locs : List Loc} (F : it_fr g κ S s H locs) (X : it_ex g κ kc s) (hM : kc < 1000) (hz : H1.size ≤ s.heap.size + (kc + 1)) (hP : va_P g.2.1 it_cl (it_ws g κ S ++ [(q, x)]) H1) (hD : va_D (it_A g) (it_ws g κ S ++ [(q, x)])) (hS : va_S (it_A g) s.heap H1 locs)
    (hn : κ1.1 = κ.1 + 1) (hc : ∀ b, b < κ.1 → it_ce g κ1 S1 b = it_ce g κ S b) (hx : it_ce g κ1 S1 κ.1 = x) : q = g.1 + κ.1 ∧ it_fr g κ1 S1 s H1 locs ∧ it_ex g κ1 (kc + 1) s := by
  obtain ⟨h1, h2⟩ := it_fresh X hM hz hP hD
  rw [it_ws_push hn hc h1 hx] at hP
  exact ⟨h1, ⟨by rw [hn, h2]; omega, F.2.1, hP, F.2.2.2.1, F.2.2.2.2.1, hS⟩, fun _ => by rw [hn, ← Nat.add_assoc, ← Nat.add_assoc, X hM]⟩
/-- class ci, by entry i of a class's own table, can be made -/
def it_nw (own : String) (i ci : Nat) : Prop := ∃ (C : String) (T : u_T) (N : Nat) (t : Nat → FieldType), it_cl[ci]? = some (C, T, N) ∧ (∀ w ∈ u_ws C T N, w ∈ it_tb) ∧ (∀ k, k < N → parseFieldDescriptor (T k).2.2.1 = some (t k)) ∧ Cond.classLink own i C ∈ it_tb ∧ Cond.instantiable C N ∈ it_tb ∧ Cond.initialized C ∈ it_tb ∧ (∀ k r, (it_mask ci)[k]? = some r → defaultValue (t k) = if r = true then .null else .int 0) ∧ (it_mask ci).length = N
theorem ev_new {ci i N : Nat} (hd : decode M.2.1 pc = .ok (.new i, 3)) (hM : kc < 1000) (hw : it_nw M.1.cls i ci) (hN : (it_mask ci).length = N) (hc : kc + 1 ≤ M.2.2.2.2.1) (hs : ks + N ≤ M.2.2.2.2.2) (kk : it_Ev g l d M (kc + 1) (ks + N) (pc + 3) L (.ref κ.1 :: st) (it_new κ (ci + 3) 0) (it_zero S κ.1) P) : it_Ev g l d M kc ks pc L st κ S P := by
  intro p e R s m args below meth c H locs ls Q C F X hl hq
  obtain ⟨cn, T, N', t, h1, h2, h3, h4, h5, h6, h7, h8⟩ := hw
  have hNN : N' = N := h8.symm.trans hN
  subst hNN
  refine va_new (fs := it_fs g (it_new κ (ci + 3) 0) (it_zero S κ.1) ci κ.1) C.1 C.2.1 (C.2.2.2.2.1) h2 t h3 C.2.2.2.1 (C.2.2.2.2.1 _ h4) (C.2.2.2.2.1 _ h5) (C.2.2.2.2.1 _ h6) F.2.2.2.1 F.2.2.1 (it_ws_D g κ S) F.2.2.2.2.2 F.D h1 ?_ (Nat.le_trans hc C.2.2.2.2.2.2.2.2.1) (Nat.le_trans hs C.2.2.2.2.2.2.2.2.2) hd (fun q H1 hP1 hD1 hS1 => it_W_sz fun hz => ?_)
  · intro j hj
    have hjm : ∃ r, (it_mask ci)[j]? = some r := ⟨_, List.getElem?_eq_getElem (by rw [h8]; exact hj)⟩
    obtain ⟨r, hr⟩ := hjm
    rw [h7 j r hr, vp_V, List.getD_eq_getElem?_getD, it_fs_get hr]
    cases r <;> simp [it_fld, it_new, it_zero]
  · obtain ⟨e1, F1, X1⟩ := F.push (κ1 := it_new κ (ci + 3) 0) (S1 := it_zero S κ.1) X hM hz hP1 hD1 hS1 rfl (fun b hb => it_ce_congr (by simp [it_new, Nat.ne_of_lt hb]) (by funext j; simp [it_new, Nat.ne_of_lt hb]) (by simp [it_zero, Nat.ne_of_lt hb])) (it_ce_ob (n := 0) (by simp [it_new]))
    subst e1
    exact kk p e R s m args below meth c H1 locs ls Q C F1 X1 hl hq
theorem ev_newa {n : Int32} {N : Nat} (hd : decode M.2.1 pc = .ok (.newarray .int, 2)) (hM : kc < 1000) (hw : Cond.arrayClass .int ∈ it_tb) (hn : ¬ n < 0) (hN : n.toNatClampNeg = N) (hb : N * 4 ≤ 536870912) (hc : kc + 1 ≤ M.2.2.2.2.1) (hs : ks + N ≤ M.2.2.2.2.2) (kk : it_Ev g l d M (kc + 1) (ks + N) (pc + 2) L (.ref κ.1 :: st) (it_new κ 0 N) (it_zero S κ.1) P) : it_Ev g l d M kc ks pc L (.int n :: st) κ S P := by
  intro p e R s m args below meth c H locs ls Q C F X hl hq
  refine va_newa (atype := .int) (ty := .int) (N' := N) (a0 := (N, .inl (fun _ => 0))) C.1 C.2.1 (C.2.2.2.2.1 _ hw) rfl F.2.2.2.1 F.2.2.1 (it_ws_D g κ S) F.2.2.2.2.2 F.D (fun cA => rfl) hn hN hb (Nat.le_trans hc C.2.2.2.2.2.2.2.2.1) (Nat.le_trans hs C.2.2.2.2.2.2.2.2.2) hd (fun q cA H1 hK1 hP1 hD1 hS1 => it_W_sz fun hz => ?_)
  have hcA : g.2.2.1 0 = cA := by
    have h1 := (hK1.2 3 (cA, .int) rfl).2
    have h2 := (F.2.2.2.1.2 0 (g.2.2.1 0, .int) rfl).2
    exact Option.some.inj (h2.symm.trans h1)
  subst hcA
  obtain ⟨e1, F1, X1⟩ := F.push (κ1 := it_new κ 0 N) (S1 := it_zero S κ.1) X hM hz hP1 hD1 hS1 rfl (fun b hb => it_ce_congr (by simp [it_new, Nat.ne_of_lt hb]) (by funext j; simp [it_new, Nat.ne_of_lt hb]) (by simp [it_zero, Nat.ne_of_lt hb])) (by rw [it_ce_ar (n := N) (by simp [it_new])]; simp [it_zero])
  subst e1
  exact kk p e R s m args below meth c H1 locs ls Q C F1 X1 hl hq
theorem ev_newq {n : Int32} {N i t : Nat} {cn : String} (hd : decode M.2.1 pc = .ok (.anewarray i, 3)) (hM : kc < 1000) (ht : (t = 1 ∧ cn = it_R4) ∨ (t = 2 ∧ cn = it_R2)) (hw : Cond.classLink M.1.cls i cn ∈ it_tb) (hn : ¬ n < 0) (hN : n.toNatClampNeg = N) (hb : N * 4 ≤ 536870912) (hc : kc + 1 ≤ M.2.2.2.2.1) (hs : ks + N ≤ M.2.2.2.2.2) (kk : it_Ev g l d M (kc + 1) (ks + N) (pc + 3) L (.ref κ.1 :: st) (it_new κ t N) (it_zero S κ.1) P) : it_Ev g l d M kc ks pc L (.int n :: st) κ S P := by
  intro p e R s m args below meth c H locs ls Q C F X hl hq
  have hao : va_AO cn s := by
    rcases ht with ⟨-, h⟩ | ⟨-, h⟩ <;> subst h
    · exact F.2.2.2.2.1.1.1
    · exact F.2.2.2.2.1.1.2.1
  refine va_newq (C := cn) (N' := N) C.1 C.2.1 C.2.2.2.1 (C.2.2.2.2.1 _ hw) hao F.2.2.2.1 F.2.2.1 (it_ws_D g κ S) F.2.2.2.2.2 F.D hn hN hb (Nat.le_trans hc C.2.2.2.2.2.2.2.2.1) (Nat.le_trans hs C.2.2.2.2.2.2.2.2.2) hd (fun q cA H1 hK1 hP1 hD1 hS1 => it_W_sz fun hz => ?_)
  have hcA : g.2.2.1 t = cA := by
    obtain ⟨_, _, -, -, -, h1⟩ := (hK1.2 3 (cA, .object cn) rfl).2
    rcases ht with ⟨rfl, rfl⟩ | ⟨rfl, rfl⟩
    · obtain ⟨_, _, -, -, -, h2⟩ := (F.2.2.2.1.2 1 (g.2.2.1 1, .object it_R4) rfl).2
      exact Option.some.inj (h2.symm.trans h1)
    · obtain ⟨_, _, -, -, -, h2⟩ := (F.2.2.2.1.2 2 (g.2.2.1 2, .object it_R2) rfl).2
      exact Option.some.inj (h2.symm.trans h1)
  subst hcA
  have ht2 : t = 1 ∨ t = 2 := ht.elim (fun h => Or.inl h.1) (fun h => Or.inr h.1)
  have hrr : it_rr (it_new κ t N) κ.1 t N := ⟨Nat.lt_succ_self _, by simp [it_new], ht2⟩
  obtain ⟨e1, F1, X1⟩ := F.push (κ1 := it_new κ t N) (S1 := it_zero S κ.1) X hM hz hP1 hD1 hS1 rfl (fun b hb => it_ce_congr (by simp [it_new, Nat.ne_of_lt hb]) (by funext j; simp [it_new, Nat.ne_of_lt hb]) (by simp [it_zero, Nat.ne_of_lt hb])) (by
    rw [it_ce_rr hrr]
    have : it_rf g (it_new κ t N) t κ.1 = fun _ => none := by
      funext j
      simp [it_rf, it_new]
    rw [this])
  subst e1
  exact kk p e R s m args below meth c H1 locs ls Q C F1 X1 hl hq
theorem ev_copy {a0 a1 n0 n1 i : Nat} {sp dp n : Int32} (hd : decode M.2.1 pc = .ok (.invokestatic i, 3)) (hM : kc < 1000) (hdd : 1 ≤ d) (hst : (st.map fun v => v.category).sum ≤ 8) (hm : Cond.methodLink M.1.cls i arraycopyName ∈ it_tb ∧ Cond.native arraycopyName ∈ it_tb ∧ Cond.static arraycopyName ∈ it_tb ∧ Cond.initialized "java/lang/System" ∈ it_tb) (h0 : it_ar κ a0 n0) (h1 : it_ar κ a1 n1) (g1 : ¬ sp < 0) (g2 : ¬ dp < 0) (g3 : ¬ n < 0) (g4 : sp.toNatClampNeg + n.toNatClampNeg ≤ n0) (g5 : dp.toNatClampNeg + n.toNatClampNeg ≤ n1) (kk : it_Ev g l d M kc ks (pc + 3) L st κ (it_cpy S a0 a1 sp.toNatClampNeg dp.toNatClampNeg n.toNatClampNeg) P) : it_Ev g l d M kc ks pc L (.int n :: .int dp :: .ref a1 :: .int sp :: .ref a0 :: st) κ S P := by
  intro p e R s m args below meth c H locs ls Q C F X hl hq
  refine va_copyi (ty := .int) C.1 C.2.1 (C.2.2.1.trans hl.1.symm) C.2.2.2.1 (C.2.2.2.2.1 _ hm.1) (C.2.2.2.2.1 _ hm.2.1) (C.2.2.2.2.1 _ hm.2.2.1) (C.2.2.2.2.1 _ hm.2.2.2) F.2.2.2.1 F.2.2.1 (it_ws_D g κ S) (it_S_here F.2.2.2.2.2) a0 a1 0 0 (by rw [it_ws_get h0.1, it_ce_ar h0.2]) (by rw [it_ws_get h1.1, it_ce_ar h1.2]) rfl rfl rfl g1 g2 g3 g4 g5 (fun _ _ => rfl) (Nat.le_trans hdd C.2.2.2.2.2.2.1) ?_ hd (fun H1 locs1 hP1 hD1 hS1 => it_W_sz fun hz => ?_)
  · have h2 : ((st.map (it_tr g)).map fun v => v.category).sum = (st.map fun v => v.category).sum := by
      rw [List.map_map]
      congr 1
      exact List.map_congr_left (fun v _ => it_tr_cat g v)
    rw [h2]
    have h3 : nativeFrameWords "java/lang/System" "arraycopy" 5 + 11 ≤ 40 := by decide
    have h4 := C.2.2.2.2.2.2.2.1
    omega
  · have hws : (it_ws g κ S).set a1 (g.1 + a1, .inl (g.2.2.1 0, n1, .inl (va_cpy (S a0) (S a1) sp.toNatClampNeg dp.toNatClampNeg n.toNatClampNeg))) = it_ws g κ (it_cpy S a0 a1 sp.toNatClampNeg dp.toNatClampNeg n.toNatClampNeg) := by
      have h2 : va_cpy (S a0) (S a1) sp.toNatClampNeg dp.toNatClampNeg n.toNatClampNeg = it_cpy S a0 a1 sp.toNatClampNeg dp.toNatClampNeg n.toNatClampNeg a1 := by simp [it_cpy]
      rw [h2, ← it_ce_ar (g := g) (S := it_cpy S a0 a1 sp.toNatClampNeg dp.toNatClampNeg n.toNatClampNeg) h1.2]
      exact it_ws_set rfl (fun b hb => it_ce_congr rfl rfl (by simp [it_cpy, hb]))
    rw [hws] at hP1
    exact kk p e R s m args below meth c H1 locs1 ls Q C (F.put rfl X hM hz hP1 hS1) X hl hq
theorem it_rest (st : List Value) : ((st.map (it_tr g)).map fun v => v.category).sum = (st.map fun v => v.category).sum := by
  rw [List.map_map]
  congr 1
  exact List.map_congr_left (fun v _ => it_tr_cat g v)
theorem ev_clone {a n i : Nat} (hd : decode M.2.1 pc = .ok (.invokevirtual i, 3)) (hM : kc < 1000) (hdd : 1 ≤ d) (hst : (st.map fun v => v.category).sum ≤ 8) (hm : Cond.methodLink M.1.cls i ⟨"[I", "clone", "()Ljava/lang/Object;"⟩ ∈ it_tb ∧ Cond.sameMethod "[I" "java/lang/Object" "clone" "()Ljava/lang/Object;" ∈ it_tb ∧ Cond.native ⟨"java/lang/Object", "clone", "()Ljava/lang/Object;"⟩ ∈ it_tb ∧ Cond.instanceMethod ⟨"java/lang/Object", "clone", "()Ljava/lang/Object;"⟩ ∈ it_tb ∧ Cond.selects "[I" ⟨"[I", "clone", "()Ljava/lang/Object;"⟩ ⟨"java/lang/Object", "clone", "()Ljava/lang/Object;"⟩ ∈ it_tb) (hA : it_ar κ a n) (hc : kc + 1 ≤ M.2.2.2.2.1) (hs : ks + n ≤ M.2.2.2.2.2) (kk : it_Ev g l d M (kc + 1) (ks + n) (pc + 3) L (.ref κ.1 :: st) (it_new κ 0 n) (it_dupl S a κ.1) P) : it_Ev g l d M kc ks pc L (.ref a :: st) κ S P := by
  intro p e R s m args below meth c H locs ls Q C F X hl hq
  refine va_clone (ad := "[I") (ty := .int) (x := (n, .inl (S a))) C.1 C.2.1 (C.2.2.1.trans hl.1.symm) C.2.2.2.1 (C.2.2.2.2.1 _ hm.1) (C.2.2.2.2.1 _ hm.2.1) (C.2.2.2.2.1 _ hm.2.2.1) (C.2.2.2.2.1 _ hm.2.2.2.1) (C.2.2.2.2.1 _ hm.2.2.2.2) F.2.2.2.2.1.1.2.2.1 F.2.2.2.1 F.2.2.1 (it_ws_D g κ S) F.2.2.2.2.2 F.D a 0 (by rw [it_ws_get hA.1, it_ce_ar hA.2]) rfl (F.2.2.2.1.2 0 (g.2.2.1 0, .int) rfl).2 ?_ (Nat.le_trans hdd C.2.2.2.2.2.2.1) ?_ (Nat.le_trans hc C.2.2.2.2.2.2.2.2.1) (Nat.le_trans hs C.2.2.2.2.2.2.2.2.2) hd (fun q H1 hK1 hP1 hD1 hS1 => it_W_sz fun hz => ?_)
  · intro j v hv
    have hv : (arrV (g.2.2.1 0) n (fun j => .int (S a j))).slots[j]? = some v := hv
    have hj : j < n := by
      have := (Array.getElem?_eq_some_iff.mp hv).1
      rwa [arrV_size] at this
    rw [arrV_read _ _ hj] at hv
    cases hv
    rfl
  · rw [it_rest]
    have h4 := C.2.2.2.2.2.2.2.1
    omega
  · obtain ⟨e1, F1, X1⟩ := F.push (κ1 := it_new κ 0 n) (S1 := it_dupl S a κ.1) X hM hz hP1 hD1 hS1 rfl (fun b hb => it_ce_congr (by simp [it_new, Nat.ne_of_lt hb]) (by funext j; simp [it_new, Nat.ne_of_lt hb]) (by simp [it_dupl, Nat.ne_of_lt hb])) (by rw [it_ce_ar (n := n) (by simp [it_new])]; simp [it_dupl])
    subst e1
    exact kk p e R s m args below meth c H1 locs ls Q C F1 X1 hl hq
theorem ev_castA {a n i : Nat} (hd : decode M.2.1 pc = .ok (.checkcast i, 3)) (hm : Cond.classLink M.1.cls i "[I" ∈ it_tb) (hA : it_ar κ a n) (kk : it_Ev g l d M kc ks (pc + 3) L (.ref a :: st) κ S P) : it_Ev g l d M kc ks pc L (.ref a :: st) κ S P := by
  intro p e R s m args below meth c H locs ls Q C F X hl hq
  exact va_castA (nm := "[I") C.1 C.2.1 C.2.2.2.1 (C.2.2.2.2.1 _ hm) F.2.2.1 a (by rw [it_ws_get hA.1, it_ce_ar hA.2]) (F.2.2.2.1.2 0 (g.2.2.1 0, .int) rfl).2 hd (kk p e R s m args below meth c H locs ls Q C F X hl hq)
end ITR
end
section
section ITC
variable {g : it_G} {l : Launch} {d : Nat} {M : it_M} {kc ks pc : Nat} {L : it_L} {st : List Value} {κ : it_KK} {S : it_SS} {P : Option Value → it_KK → it_SS → Prop}
theorem it_good (w : Cond) (h : w ∈ it_tb) : w ∈ it_tb ∧ ((w.onTables && w.keeps) = true ∨ ∃ ty, w = .arrayClass ty) := ⟨h, good_of_word (it_tb_good h)⟩
/-- what the tables say of a call's target -/
def it_mc (M' : it_M) (n : Nat) : Prop := Cond.code M'.1 M'.2.1 M'.2.2.1 M'.2.2.2.1 ∈ it_tb ∧ Cond.initialized M'.1.cls ∈ it_tb ∧ (M'.1.cls ≠ "java/lang/invoke/MethodHandle" ∧ M'.1.cls ≠ "java/lang/invoke/VarHandle" ∧ (parseMethodDescriptor M'.1.desc).map (fun d => d.parameters.length) = some n) ∧ M'.2.2.1 ≤ 41
def it_mv (own : String) (i : Nat) (M' : it_M) (n : Nat) : Prop := it_mc M' n ∧ Cond.methodLink own i M'.1 ∈ it_tb ∧ Cond.instanceMethod M'.1 ∈ it_tb ∧ Cond.selects M'.1.cls M'.1 M'.1 ∈ it_tb
def it_ms (own : String) (i : Nat) (M' : it_M) (n : Nat) : Prop := it_mc M' n ∧ Cond.methodLink own i M'.1 ∈ it_tb ∧ Cond.static M'.1 ∈ it_tb
def it_mi (own : String) (i : Nat) (M' : it_M) (n : Nat) : Prop := it_mc M' n ∧ Cond.methodLink own i M'.1 ∈ it_tb ∧ Cond.instanceMethod M'.1 ∈ it_tb ∧ M'.1.name = "<init>" ∧ M'.2.2.2.1 = none
def it_msN (own : String) (i : Nat) (M' : it_M) (n : Nat) : Prop := it_mc M' n ∧ (own, i, M'.1) ∈ it_nests ∧ Cond.static M'.1 ∈ it_tb
def it_miN (own : String) (i : Nat) (M' : it_M) (n : Nat) : Prop := it_mc M' n ∧ (own, i, M'.1) ∈ it_nests ∧ Cond.instanceMethod M'.1 ∈ it_tb ∧ M'.1.name = "<init>" ∧ M'.2.2.2.1 = none
theorem it_wds_in {M' : it_M} {n : Nat} (h : it_mc M' n) : ∀ w ∈ it_wds M', w ∈ it_tb := fun w hw => by
  rcases List.mem_cons.mp hw with rfl | hw
  · exact h.1
  · exact hw
theorem it_gi {M' : it_M} {n : Nat} (h : it_mc M' n) : GoodIn it_tb (it_wds M') := fun w hw => it_good w (it_wds_in h w hw)
theorem it_blind {av : List Value} : FrameBlind (va_Pc av (it_wd g κ S)) := fun _ _ _ _ q => ⟨q.1, q.2.calling⟩
theorem it_room {R : Room} {d' : Nat} {M' : it_M} {n : Nat} (h : it_mc M' n) (hdd : d' + 1 ≤ d) (h1 : d ≤ R.frames) (h2 : 60 * d ≤ R.locals) : (it_rm d' M').frames + 1 ≤ R.frames ∧ 8 + (M'.2.2.1 + 11) + (it_rm d' M').locals ≤ R.locals := by
  have h3 := h.2.2.2
  simp only [it_rm]
  omega
theorem ev_callV {M' : it_M} {d' i ci b n n0 : Nat} {As st0 : List Value} {P' : Option Value → it_KK → it_SS → Prop} (hd : decode M.2.1 pc = .ok (.invokevirtual i, 3)) (hm : it_mv M.1.cls i M' n) (hb : b < κ.1) (hk : κ.2.1 b = (ci + 3, n0)) (hci : ∃ q, it_cl[ci]? = some q ∧ q.1 = M'.1.cls) (hn : As.length = n) (hs : st0 = As.reverse ++ .ref b :: st) (hst : (st.map fun v => v.category).sum ≤ 8) (hdd : d' + 1 ≤ d) (hc : kc + M'.2.2.2.2.1 ≤ M.2.2.2.2.1) (hcs : ks + M'.2.2.2.2.2 ≤ M.2.2.2.2.2)
    (hC : it_Cn g l d' M' (.ref b :: As) κ S P') (hex : kc + M'.2.2.2.2.1 < 1000 → ∀ v κ' S', P' v κ' S' → κ'.1 = κ.1 + M'.2.2.2.2.1) (kk : ∀ v κ' S', P' v κ' S' → it_Ev g l d M (kc + M'.2.2.2.2.1) (ks + M'.2.2.2.2.2) (pc + 3) L (v.toList ++ st) κ' S' P) : it_Ev g l d M kc ks pc L st0 κ S P := by
  intro p e R s m args below meth c H locs ls Q C F X hl hq
  subst hs
  obtain ⟨q, q1, q2⟩ := hci
  refine it_after (rest := st) (P' := P') (va_runV (As := As.map (it_tr g)) (C := M'.1.cls) (Ts := it_tb) (own := M.1.cls) (b := g.1 + b) ⟨C.1, C.2.1, C.2.2.1, C.2.2.2.1, C.2.2.2.2.1⟩ hC
    (cwV n C.2.2.2.2.1 (fun w hw => ?_) rfl rfl rfl ⟨rfl, hm.1.2.2.1⟩ (it_room hm.1 hdd C.2.2.2.2.2.2.1 C.2.2.2.2.2.2.2.1))
    ⟨it_blind, ?_, fun U hU hW => ⟨rfl, F.wd hU hW⟩⟩ rfl (by rw [List.length_map]; exact hn) hl.1 (by simp [it_tr]) (lv_room (by rw [it_rest]; exact hst)) hd ⟨Nat.le_trans hc C.2.2.2.2.2.2.2.2.1, Nat.le_trans hcs C.2.2.2.2.2.2.2.2.2⟩) F (fun v κ' S' H1 locs1 hp F1 => ?_)
  · rcases List.mem_append.mp hw with h | h
    · rcases List.mem_cons.mp h with rfl | h
      · exact it_good _ hm.2.1
      · rcases List.mem_cons.mp h with rfl | h
        · exact it_good _ hm.2.2.1
        · rcases List.mem_cons.mp h with rfl | h
          · exact it_good _ hm.2.2.2
          · rcases List.mem_cons.mp h with rfl | h
            · exact it_good _ hm.1.2.1
            · exact absurd h List.not_mem_nil
    · exact it_gi hm.1 w h
  · rw [← q2]
    exact va_recv F.2.2.2.1 F.2.2.1 q1 (q0 := b) (by rw [it_ws_get hb, it_ce_ob hk])
  · refine kk v κ' S' hp p e R s m args below meth c H1 locs1 ls Q C F1 (fun hlt => ?_) hl hq
    rw [hex hlt v κ' S' hp, ← Nat.add_assoc, ← Nat.add_assoc, X (by omega)]
theorem ev_callS {M' : it_M} {d' i n : Nat} {As st0 : List Value} {P' : Option Value → it_KK → it_SS → Prop} (hd : decode M.2.1 pc = .ok (.invokestatic i, 3)) (hm : it_ms M.1.cls i M' n) (hn : As.length = n) (hs : st0 = As.reverse ++ st) (hst : (st.map fun v => v.category).sum ≤ 8) (hdd : d' + 1 ≤ d) (hc : kc + M'.2.2.2.2.1 ≤ M.2.2.2.2.1) (hcs : ks + M'.2.2.2.2.2 ≤ M.2.2.2.2.2)
    (hC : it_Cn g l d' M' As κ S P') (hex : kc + M'.2.2.2.2.1 < 1000 → ∀ v κ' S', P' v κ' S' → κ'.1 = κ.1 + M'.2.2.2.2.1) (kk : ∀ v κ' S', P' v κ' S' → it_Ev g l d M (kc + M'.2.2.2.2.1) (ks + M'.2.2.2.2.2) (pc + 3) L (v.toList ++ st) κ' S' P) : it_Ev g l d M kc ks pc L st0 κ S P := by
  intro p e R s m args below meth c H locs ls Q C F X hl hq
  subst hs
  refine it_after (rest := st) (P' := P') (va_runS (As := As.map (it_tr g)) (Ts := it_tb) (own := M.1.cls) ⟨C.1, C.2.1, C.2.2.1, C.2.2.2.1, C.2.2.2.2.1⟩ hC
    (va_cwS n C.2.2.2.2.1 (fun w hw => ?_) rfl rfl rfl hm.1.2.2.1 (it_room hm.1 hdd C.2.2.2.2.2.2.1 C.2.2.2.2.2.2.2.1))
    ⟨it_blind, fun U hU hW => ⟨rfl, F.wd hU hW⟩⟩ rfl (by rw [List.length_map]; exact hn) hl.1 (by simp) (lv_room (by rw [it_rest]; exact hst)) hd ⟨Nat.le_trans hc C.2.2.2.2.2.2.2.2.1, Nat.le_trans hcs C.2.2.2.2.2.2.2.2.2⟩) F (fun v κ' S' H1 locs1 hp F1 => ?_)
  · rcases List.mem_append.mp hw with h | h
    · rcases List.mem_cons.mp h with rfl | h
      · exact it_good _ hm.2.1
      · rcases List.mem_cons.mp h with rfl | h
        · exact it_good _ hm.2.2
        · rcases List.mem_cons.mp h with rfl | h
          · exact it_good _ hm.1.2.1
          · exact absurd h List.not_mem_nil
    · exact it_gi hm.1 w h
  · refine kk v κ' S' hp p e R s m args below meth c H1 locs1 ls Q C F1 (fun hlt => ?_) hl hq
    rw [hex hlt v κ' S' hp, ← Nat.add_assoc, ← Nat.add_assoc, X (by omega)]
theorem ev_callI {M' : it_M} {d' i b n : Nat} {As st0 : List Value} {P' : Option Value → it_KK → it_SS → Prop} (hd : decode M.2.1 pc = .ok (.invokespecial i, 3)) (hm : it_mi M.1.cls i M' n) (hn : As.length = n) (hs : st0 = As.reverse ++ .ref b :: st) (hst : (st.map fun v => v.category).sum ≤ 8) (hdd : d' + 1 ≤ d) (hc : kc + M'.2.2.2.2.1 ≤ M.2.2.2.2.1) (hcs : ks + M'.2.2.2.2.2 ≤ M.2.2.2.2.2)
    (hC : it_Cn g l d' M' (.ref b :: As) κ S P') (hex : kc + M'.2.2.2.2.1 < 1000 → ∀ v κ' S', P' v κ' S' → κ'.1 = κ.1 + M'.2.2.2.2.1) (kk : ∀ v κ' S', P' v κ' S' → it_Ev g l d M (kc + M'.2.2.2.2.1) (ks + M'.2.2.2.2.2) (pc + 3) L (v.toList ++ st) κ' S' P) : it_Ev g l d M kc ks pc L st0 κ S P := by
  intro p e R s m args below meth c H locs ls Q C F X hl hq
  subst hs
  refine it_after (rest := st) (P' := P') (va_runI (As := As.map (it_tr g)) (Ts := it_tb) (own := M.1.cls) (b := g.1 + b) ⟨C.1, C.2.1, C.2.2.1, C.2.2.2.1, C.2.2.2.2.1⟩ hC
    (cwI n C.2.2.2.2.1 (it_gi hm.1) (by rw [it_wds, hm.2.2.2.2]) rfl rfl (C.2.2.2.2.1 _ hm.1.2.1) (C.2.2.2.2.1 _ hm.2.1) (C.2.2.2.2.1 _ hm.2.2.1) hm.2.2.2.1 hm.1.2.2.1 (it_room hm.1 hdd C.2.2.2.2.2.2.1 C.2.2.2.2.2.2.2.1))
    ⟨it_blind, fun U hU hW => ⟨rfl, F.wd hU hW⟩⟩ rfl (by rw [List.length_map]; exact hn) hl.1 (by simp [it_tr]) (lv_room (by rw [it_rest]; exact hst)) hd ⟨Nat.le_trans hc C.2.2.2.2.2.2.2.2.1, Nat.le_trans hcs C.2.2.2.2.2.2.2.2.2⟩) F (fun v κ' S' H1 locs1 hp F1 => ?_)
  refine kk v κ' S' hp p e R s m args below meth c H1 locs1 ls Q C F1 (fun hlt => ?_) hl hq
  rw [hex hlt v κ' S' hp, ← Nat.add_assoc, ← Nat.add_assoc, X (by omega)]
theorem ev_callSN {M' : it_M} {d' i n : Nat} {As st0 : List Value} {P' : Option Value → it_KK → it_SS → Prop} (hd : decode M.2.1 pc = .ok (.invokestatic i, 3)) (hm : it_msN M.1.cls i M' n) (hn : As.length = n) (hs : st0 = As.reverse ++ st) (hst : (st.map fun v => v.category).sum ≤ 8) (hdd : d' + 1 ≤ d) (hc : kc + M'.2.2.2.2.1 ≤ M.2.2.2.2.1) (hcs : ks + M'.2.2.2.2.2 ≤ M.2.2.2.2.2)
    (hC : it_Cn g l d' M' As κ S P') (hex : kc + M'.2.2.2.2.1 < 1000 → ∀ v κ' S', P' v κ' S' → κ'.1 = κ.1 + M'.2.2.2.2.1) (kk : ∀ v κ' S', P' v κ' S' → it_Ev g l d M (kc + M'.2.2.2.2.1) (ks + M'.2.2.2.2.2) (pc + 3) L (v.toList ++ st) κ' S' P) : it_Ev g l d M kc ks pc L st0 κ S P := by
  intro p e R s m args below meth c H locs ls Q C F X hl hq
  subst hs
  refine it_after (rest := st) (P' := P') (va_runSN (host := "IcedTooSoon") (As := As.map (it_tr g)) (Ts := it_tb) (own := M.1.cls) ⟨C.1, C.2.1, C.2.2.1, C.2.2.2.1, C.2.2.2.2.1⟩ hC
    ⟨va_cnB n C.2.2.2.2.1 (it_gi hm.1) rfl rfl rfl (F.2.2.2.2.1.1.2.2.2 _ hm.2.1) (C.2.2.2.2.1 _ hm.1.2.1) hm.1.2.2.1 (it_room hm.1 hdd C.2.2.2.2.2.2.1 C.2.2.2.2.2.2.2.1), C.2.2.2.2.1 _ hm.2.2, trivial⟩
    ⟨it_blind, fun U hU hW => ⟨rfl, F.wd hU hW⟩⟩ rfl (by rw [List.length_map]; exact hn) hl.1 (by simp) (lv_room (by rw [it_rest]; exact hst)) hd ⟨Nat.le_trans hc C.2.2.2.2.2.2.2.2.1, Nat.le_trans hcs C.2.2.2.2.2.2.2.2.2⟩) F (fun v κ' S' H1 locs1 hp F1 => ?_)
  refine kk v κ' S' hp p e R s m args below meth c H1 locs1 ls Q C F1 (fun hlt => ?_) hl hq
  rw [hex hlt v κ' S' hp, ← Nat.add_assoc, ← Nat.add_assoc, X (by omega)]
theorem ev_callIN {M' : it_M} {d' i b n : Nat} {As st0 : List Value} {P' : Option Value → it_KK → it_SS → Prop} (hd : decode M.2.1 pc = .ok (.invokespecial i, 3)) (hm : it_miN M.1.cls i M' n) (hn : As.length = n) (hs : st0 = As.reverse ++ .ref b :: st) (hst : (st.map fun v => v.category).sum ≤ 8) (hdd : d' + 1 ≤ d) (hc : kc + M'.2.2.2.2.1 ≤ M.2.2.2.2.1) (hcs : ks + M'.2.2.2.2.2 ≤ M.2.2.2.2.2)
    (hC : it_Cn g l d' M' (.ref b :: As) κ S P') (hex : kc + M'.2.2.2.2.1 < 1000 → ∀ v κ' S', P' v κ' S' → κ'.1 = κ.1 + M'.2.2.2.2.1) (kk : ∀ v κ' S', P' v κ' S' → it_Ev g l d M (kc + M'.2.2.2.2.1) (ks + M'.2.2.2.2.2) (pc + 3) L (v.toList ++ st) κ' S' P) : it_Ev g l d M kc ks pc L st0 κ S P := by
  intro p e R s m args below meth c H locs ls Q C F X hl hq
  subst hs
  refine it_after (rest := st) (P' := P') (va_runIN (host := "IcedTooSoon") (As := As.map (it_tr g)) (Ts := it_tb) (own := M.1.cls) (b := g.1 + b) ⟨C.1, C.2.1, C.2.2.1, C.2.2.2.1, C.2.2.2.2.1⟩ hC
    ⟨va_cnB n C.2.2.2.2.1 (it_gi hm.1) (by rw [it_wds, hm.2.2.2.2]) rfl rfl (F.2.2.2.2.1.1.2.2.2 _ hm.2.1) (C.2.2.2.2.1 _ hm.1.2.1) hm.1.2.2.1 (it_room hm.1 hdd C.2.2.2.2.2.2.1 C.2.2.2.2.2.2.2.1), hm.2.2.2.1, C.2.2.2.2.1 _ hm.2.2.1⟩
    ⟨it_blind, fun U hU hW => ⟨rfl, F.wd hU hW⟩⟩ rfl (by rw [List.length_map]; exact hn) hl.1 (by simp [it_tr]) (lv_room (by rw [it_rest]; exact hst)) hd ⟨Nat.le_trans hc C.2.2.2.2.2.2.2.2.1, Nat.le_trans hcs C.2.2.2.2.2.2.2.2.2⟩) F (fun v κ' S' H1 locs1 hp F1 => ?_)
  refine kk v κ' S' hp p e R s m args below meth c H1 locs1 ls Q C F1 (fun hlt => ?_) hl hq
  rw [hex hlt v κ' S' hp, ← Nat.add_assoc, ← Nat.add_assoc, X (by omega)]
theorem ev_objInit {i b : Nat} (hd : decode M.2.1 pc = .ok (.invokespecial i, 3)) (hm : Cond.methodLink M.1.cls i Lib.objectInit ∈ it_tb ∧ Cond.instanceMethod Lib.objectInit ∈ it_tb ∧ Cond.code Lib.objectInit ⟨#[0xb1]⟩ 1 none ∈ it_tb) (hst : (st.map fun v => v.category).sum ≤ 8) (hdd : 1 ≤ d) (kk : it_Ev g l d M kc ks (pc + 3) L st κ S P) : it_Ev g l d M kc ks pc L (.ref b :: st) κ S P := by
  intro p e R s m args below meth c H locs ls Q C F X hl hq
  have h4 := C.2.2.2.2.2.2.2.1
  refine W.objInit C.1 C.2.1 C.2.2.2.1 (C.2.2.2.2.1 _ hm.1) (C.2.2.2.2.1 _ hm.2.1) (C.2.2.2.2.1 _ hm.2.2) rfl (by rw [C.2.2.1]; exact hl.1) rfl hd (Nat.le_trans hdd C.2.2.2.2.2.2.1) ?_ (W.eq (g2 := F0 m (pc + 3) ls (st.map (it_tr g))) rfl (kk p e R s m args below meth c H locs ls Q C F X hl hq))
  have h5 := lv_room (m := m) (pc := pc) (ls := ls) (rest := .ref (g.1 + b) :: st.map (it_tr g)) (st := st.map (it_tr g)) (by rw [it_rest]; exact hst)
  show _ + 12 ≤ R.locals
  exact Nat.le_trans (Nat.add_le_add_right h5 12) (by omega)
theorem ev_widen {kc1 ks1 : Nat} (h1 : kc ≤ kc1) (h2 : ks ≤ ks1) (h3 : 1000 ≤ kc1) (kk : it_Ev g l d M kc1 ks1 pc L st κ S P) : it_Ev g l d M kc ks pc L st κ S P := fun p e R s m args below meth c H locs ls Q C F X hl hq => W.widen h1 h2 (kk p e R s m args below meth c H locs ls Q C F (fun h => absurd h (by omega)) hl hq)
/-! what was there before the run -/
theorem ev_sld {i : Int32} (hd : decode M.2.1 pc = .ok (.iaload, 1)) (hi : vp_in i g.2.2.2.2.1) (kk : it_Ev g l d M kc ks (pc + 1) L (.int (g.2.2.2.2.2 i.toNatClampNeg) :: st) κ S P) : it_Ev g l d M kc ks pc L (.int i :: .retAddr 0 :: st) κ S P := by
  intro p e R s m args below meth c H locs ls Q C F X hl hq
  exact va_sld C.1 C.2.1 F.2.2.2.2.1.2.1 F.2.2.2.2.1.2.2.2.1 (Nat.not_le.mpr F.2.2.2.2.1.2.2.1) F.2.2.2.2.2 hi hd (kk p e R s m args below meth c H locs ls Q C F X hl hq)
theorem ev_slen (hd : decode M.2.1 pc = .ok (.arraylength, 1)) (kk : it_Ev g l d M kc ks (pc + 1) L (.int (Int32.ofNat g.2.2.2.2.1) :: st) κ S P) : it_Ev g l d M kc ks pc L (.retAddr 0 :: st) κ S P := by
  intro p e R s m args below meth c H locs ls Q C F X hl hq
  exact va_slen C.1 C.2.1 F.2.2.2.2.1.2.1 F.2.2.2.2.1.2.2.2.1 (Nat.not_le.mpr F.2.2.2.2.1.2.2.1) F.2.2.2.2.2 hd (kk p e R s m args below meth c H locs ls Q C F X hl hq)
theorem it_fr.tx {s : State} {H : Heap} {locs : List Loc} (F : it_fr g κ S s H locs) : vk_S 3 it_lens it_bytes (fun i => g.2.2.2.1 (1 + i)) (fun i => g.2.2.2.1 (4 + i)) (it_A g) s s.heap := F.2.2.2.2.1.2.2.2.2.1
theorem it_fr.rest {s : State} {H : Heap} {locs : List Loc} (F : it_fr g κ S s H locs) :
    vk_R "IcedTooSoon" 49 it_txt0 (g.2.2.2.1 1) s ∧ vk_R "IcedTooSoon$Tape" 104 it_txt1 (g.2.2.2.1 2) s ∧ vk_R "IcedTooSoon$Tape" 90 it_txt2 (g.2.2.2.1 3) s ∧
  va_Z "IcedTooSoon" "KIND_ABOVE" "[I" (.ref (g.2.2.2.1 7)) (it_A g) s s.heap ∧ va_T .int (g.2.2.2.1 7) 6 (fun j => .int (it_above.getD j 0)) (it_A g) s s.heap ∧
  va_Z "IcedTooSoon$Tape" "WORD_AT" "[I" (.ref (g.2.2.2.1 8)) (it_A g) s s.heap ∧ va_T .int (g.2.2.2.1 8) 13 (fun j => .int (it_wordAt.getD j 0)) (it_A g) s s.heap ∧
  va_Z "java/lang/String" "COMPACT_STRINGS" "Z" (.int 1) (it_A g) s s.heap ∧ va_Zq "jdk/internal/util/Preconditions" "SIOOBE_FORMATTER" "Ljava/util/function/BiFunction;" (it_A g) s s.heap := F.2.2.2.2.1.2.2.2.2.2
theorem ev_ldc0 (hown : M.1.cls = "IcedTooSoon") (hd : decode M.2.1 pc = .ok (.ldc 49, 2)) (kk : it_Ev g l d M kc ks (pc + 2) L (.retAddr 1 :: st) κ S P) : it_Ev g l d M kc ks pc L st κ S P := fun p e R s m args below meth c H locs ls Q C F X hl hq =>
  va_ldcS (own := "IcedTooSoon") C.1 C.2.1 (by rw [← hown]; exact C.2.2.2.1) F.rest.1 hd (kk p e R s m args below meth c H locs ls Q C F X hl hq)
theorem ev_ldc1 (hown : M.1.cls = "IcedTooSoon$Tape") (hd : decode M.2.1 pc = .ok (.ldc 104, 2)) (kk : it_Ev g l d M kc ks (pc + 2) L (.retAddr 2 :: st) κ S P) : it_Ev g l d M kc ks pc L st κ S P := fun p e R s m args below meth c H locs ls Q C F X hl hq =>
  va_ldcS (own := "IcedTooSoon$Tape") C.1 C.2.1 (by rw [← hown]; exact C.2.2.2.1) F.rest.2.1 hd (kk p e R s m args below meth c H locs ls Q C F X hl hq)
theorem ev_ldcs2 (hown : M.1.cls = "IcedTooSoon$Tape") (hd : decode M.2.1 pc = .ok (.ldc 90, 2)) (kk : it_Ev g l d M kc ks (pc + 2) L (.retAddr 3 :: st) κ S P) : it_Ev g l d M kc ks pc L st κ S P := fun p e R s m args below meth c H locs ls Q C F X hl hq =>
  va_ldcS (own := "IcedTooSoon$Tape") C.1 C.2.1 (by rw [← hown]; exact C.2.2.2.1) F.rest.2.2.1 hd (kk p e R s m args below meth c H locs ls Q C F X hl hq)
theorem ev_above {i : Nat} (hd : decode M.2.1 pc = .ok (.getstatic i, 3)) (hm : Cond.fieldLink M.1.cls i "IcedTooSoon" "KIND_ABOVE" "[I" ∈ it_tb) (kk : it_Ev g l d M kc ks (pc + 3) L (.retAddr 7 :: st) κ S P) : it_Ev g l d M kc ks pc L st κ S P := fun p e R s m args below meth c H locs ls Q C F X hl hq =>
  va_gets C.1 C.2.1 F.rest.2.2.2.1 F.2.2.2.2.2 C.2.2.2.1 (C.2.2.2.2.1 _ hm) (fun _ h => h) hd (kk p e R s m args below meth c H locs ls Q C F X hl hq)
theorem ev_wordAt {i : Nat} (hd : decode M.2.1 pc = .ok (.getstatic i, 3)) (hm : Cond.fieldLink M.1.cls i "IcedTooSoon$Tape" "WORD_AT" "[I" ∈ it_tb) (kk : it_Ev g l d M kc ks (pc + 3) L (.retAddr 8 :: st) κ S P) : it_Ev g l d M kc ks pc L st κ S P := fun p e R s m args below meth c H locs ls Q C F X hl hq =>
  va_gets C.1 C.2.1 F.rest.2.2.2.2.2.1 F.2.2.2.2.2 C.2.2.2.1 (C.2.2.2.2.1 _ hm) (fun _ h => h) hd (kk p e R s m args below meth c H locs ls Q C F X hl hq)
theorem ev_compact {i : Nat} (hd : decode M.2.1 pc = .ok (.getstatic i, 3)) (hm : Cond.fieldLink M.1.cls i "java/lang/String" "COMPACT_STRINGS" "Z" ∈ it_tb) (kk : it_Ev g l d M kc ks (pc + 3) L (.int 1 :: st) κ S P) : it_Ev g l d M kc ks pc L st κ S P := fun p e R s m args below meth c H locs ls Q C F X hl hq =>
  va_gets C.1 C.2.1 F.rest.2.2.2.2.2.2.2.1 F.2.2.2.2.2 C.2.2.2.1 (C.2.2.2.2.1 _ hm) (fun _ h => h) hd (kk p e R s m args below meth c H locs ls Q C F X hl hq)
theorem ev_iald7 {i : Int32} (hd : decode M.2.1 pc = .ok (.iaload, 1)) (hi : vp_in i 6) (kk : it_Ev g l d M kc ks (pc + 1) L (.int (it_above.getD i.toNatClampNeg 0) :: st) κ S P) : it_Ev g l d M kc ks pc L (.int i :: .retAddr 7 :: st) κ S P := fun p e R s m args below meth c H locs ls Q C F X hl hq =>
  va_ti C.1 C.2.1 F.rest.2.2.2.2.1 F.2.2.2.2.2 hi rfl hd (kk p e R s m args below meth c H locs ls Q C F X hl hq)
theorem ev_iald8 {i : Int32} (hd : decode M.2.1 pc = .ok (.iaload, 1)) (hi : vp_in i 13) (kk : it_Ev g l d M kc ks (pc + 1) L (.int (it_wordAt.getD i.toNatClampNeg 0) :: st) κ S P) : it_Ev g l d M kc ks pc L (.int i :: .retAddr 8 :: st) κ S P := fun p e R s m args below meth c H locs ls Q C F X hl hq =>
  va_ti C.1 C.2.1 F.rest.2.2.2.2.2.2.1 F.2.2.2.2.2 hi rfl hd (kk p e R s m args below meth c H locs ls Q C F X hl hq)
theorem ev_bald {t : Nat} {i : Int32} (ht : t < 3) (hd : decode M.2.1 pc = .ok (.baload, 1)) (hi : vp_in i (it_lens.getD t 0)) (kk : it_Ev g l d M kc ks (pc + 1) L (.int ((it_bytes.getD t []).getD i.toNatClampNeg 0) :: st) κ S P) : it_Ev g l d M kc ks pc L (.int i :: .retAddr (4 + t) :: st) κ S P := fun p e R s m args below meth c H locs ls Q C F X hl hq =>
  va_tb C.1 C.2.1 (F.tx.1 t ht).2.2.2 F.2.2.2.2.2 hi rfl hd (kk p e R s m args below meth c H locs ls Q C F X hl hq)
theorem ev_blen {t : Nat} (ht : t < 3) (hd : decode M.2.1 pc = .ok (.arraylength, 1)) (kk : it_Ev g l d M kc ks (pc + 1) L (.int (Int32.ofNat (it_lens.getD t 0)) :: st) κ S P) : it_Ev g l d M kc ks pc L (.retAddr (4 + t) :: st) κ S P := fun p e R s m args below meth c H locs ls Q C F X hl hq =>
  va_tlen C.1 C.2.1 (F.tx.1 t ht).2.2.2 F.2.2.2.2.2 rfl hd (kk p e R s m args below meth c H locs ls Q C F X hl hq)
theorem ev_coder {t i : Nat} (ht : t < 3) (hd : decode M.2.1 pc = .ok (.getfield i, 3)) (hm : Cond.fieldLink M.1.cls i "java/lang/String" "coder" "B" ∈ it_tb) (kk : it_Ev g l d M kc ks (pc + 3) L (.int 0 :: st) κ S P) : it_Ev g l d M kc ks pc L (.retAddr (1 + t) :: st) κ S P := fun p e R s m args below meth c H locs ls Q C F X hl hq =>
  vk_getf C.1 C.2.1 (F.tx.1 t ht).2.1 F.2.2.2.2.2 C.2.2.2.1 (C.2.2.2.2.1 _ hm) (fun _ h => h) hd (kk p e R s m args below meth c H locs ls Q C F X hl hq)
theorem ev_value {t i : Nat} (ht : t < 3) (hd : decode M.2.1 pc = .ok (.getfield i, 3)) (hm : Cond.fieldLink M.1.cls i "java/lang/String" "value" "[B" ∈ it_tb) (kk : it_Ev g l d M kc ks (pc + 3) L (.retAddr (4 + t) :: st) κ S P) : it_Ev g l d M kc ks pc L (.retAddr (1 + t) :: st) κ S P := fun p e R s m args below meth c H locs ls Q C F X hl hq =>
  vk_getf C.1 C.2.1 (F.tx.1 t ht).2.2.1 F.2.2.2.2.2 C.2.2.2.1 (C.2.2.2.2.1 _ hm) (fun _ h => h) hd (kk p e R s m args below meth c H locs ls Q C F X hl hq)
theorem ev_callO {M' : it_M} {d' i t n : Nat} {As st0 : List Value} {P' : Option Value → it_KK → it_SS → Prop} (ht : t < 3) (hd : decode M.2.1 pc = .ok (.invokevirtual i, 3)) (hm : it_mv M.1.cls i M' n) (hci : M'.1.cls = "java/lang/String") (hn : As.length = n) (hs : st0 = As.reverse ++ .retAddr (1 + t) :: st) (hst : (st.map fun v => v.category).sum ≤ 8) (hdd : d' + 1 ≤ d) (hc : kc + M'.2.2.2.2.1 ≤ M.2.2.2.2.1) (hcs : ks + M'.2.2.2.2.2 ≤ M.2.2.2.2.2)
    (hC : it_Cn g l d' M' (.retAddr (1 + t) :: As) κ S P') (hex : kc + M'.2.2.2.2.1 < 1000 → ∀ v κ' S', P' v κ' S' → κ'.1 = κ.1 + M'.2.2.2.2.1) (kk : ∀ v κ' S', P' v κ' S' → it_Ev g l d M (kc + M'.2.2.2.2.1) (ks + M'.2.2.2.2.2) (pc + 3) L (v.toList ++ st) κ' S' P) : it_Ev g l d M kc ks pc L st0 κ S P := by
  intro p e R s m args below meth c H locs ls Q C F X hl hq
  subst hs
  refine it_after (rest := st) (P' := P') (va_runV (As := As.map (it_tr g)) (C := M'.1.cls) (Ts := it_tb) (own := M.1.cls) (b := g.2.2.2.1 (1 + t)) ⟨C.1, C.2.1, C.2.2.1, C.2.2.2.1, C.2.2.2.2.1⟩ hC
    (cwV n C.2.2.2.2.1 (fun w hw => ?_) rfl rfl rfl ⟨rfl, hm.1.2.2.1⟩ (it_room hm.1 hdd C.2.2.2.2.2.2.1 C.2.2.2.2.2.2.2.1))
    ⟨it_blind, ?_, fun U hU hW => ⟨rfl, F.wd hU hW⟩⟩ rfl (by rw [List.length_map]; exact hn) hl.1 (by simp [it_tr]) (lv_room (by rw [it_rest]; exact hst)) hd ⟨Nat.le_trans hc C.2.2.2.2.2.2.2.2.1, Nat.le_trans hcs C.2.2.2.2.2.2.2.2.2⟩) F (fun v κ' S' H1 locs1 hp F1 => ?_)
  · rcases List.mem_append.mp hw with h | h
    · rcases List.mem_cons.mp h with rfl | h
      · exact it_good _ hm.2.1
      · rcases List.mem_cons.mp h with rfl | h
        · exact it_good _ hm.2.2.1
        · rcases List.mem_cons.mp h with rfl | h
          · exact it_good _ hm.2.2.2
          · rcases List.mem_cons.mp h with rfl | h
            · exact it_good _ hm.1.2.1
            · exact absurd h List.not_mem_nil
    · exact it_gi hm.1 w h
  · rw [hci]
    exact vk_recv (adK := fun i => g.2.2.2.1 (1 + i)) (i := t) F.tx ht F.2.2.2.2.2
  · refine kk v κ' S' hp p e R s m args below meth c H1 locs1 ls Q C F1 (fun hlt => ?_) hl hq
    rw [hex hlt v κ' S' hp, ← Nat.add_assoc, ← Nat.add_assoc, X (by omega)]
end ITC
end
